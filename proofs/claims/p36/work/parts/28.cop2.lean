/-! the class, what owes, snuffs, pools, tells the heir -/
/-- a row of stubs as an object, with its eight arrays behind it -/
def StS (p : Nat) : Prop := (sh p = (6, 9, [some (p + 1), some (p + 2), some (p + 3), some (p + 4), some (p + 5), some (p + 6), some (p + 7), some (p + 8), none]) ∧ p < 180 ∧ rk p = nC 34) ∧ sh (p + 1) = (20, 12, []) ∧ sh (p + 2) = (20, 12, []) ∧ sh (p + 3) = (20, 12, []) ∧ sh (p + 4) = (20, 12, []) ∧ sh (p + 5) = (20, 12, []) ∧ sh (p + 6) = (20, 12, []) ∧ sh (p + 7) = (20, 12, []) ∧ sh (p + 8) = (20, 12, [])
def cpS (D : Mm) (p q a b : Nat) : Mm := fun c j => if p + 1 ≤ c ∧ c ≤ p + 8 ∧ j = a then D (q + (c - p)) b else D c j
theorem mupN {D : Mm} {k a c j : Nat} {x : Int32} (h : ¬ (c = k ∧ j = a)) : mup D k a x c j = D c j := by
  unfold mup
  by_cases e : c = k
  · rw [if_pos e, if_neg (fun z => h ⟨e, z⟩)]
  · rw [if_neg e]
set_option maxHeartbeats 400000 in
theorem K_copyStub {d : Nat} {D : Mm} {p q a b : Nat} (hp : StS p) (hq : StS q) (hpq : p = q ∨ p + 8 < q ∨ q + 8 < p) (ha : a < 12) (hb : b < 12) : Ct (d + 1) 34 [.ref p, .int (nI a), .ref q, .int (nI b)] D (Ex none (cpS D p q a b)) := by
  refine ent m34 rfl rfl (ls := [.ref p, .int (nI a), .ref q, .int (nI b)]) rfl ?_
  refine w_ald0 i34_0 ?_
  refine w_gfR i34_1 (by decide) hp.1.1 rfl ?_
  refine w_ild1 i34_4 ?_
  refine w_ald2 i34_5 ?_
  refine w_gfR i34_6 (by decide) hq.1.1 rfl ?_
  refine w_ild3 i34_9 ?_
  refine w_ial i34_10 hq.2.1 (by decide) (by omega) rfl ?_
  refine w_ias i34_11 hp.2.1 (by decide) (by omega) ?_
  refine w_ald0 i34_12 ?_
  refine w_gfR i34_13 (by decide) hp.1.1 rfl ?_
  refine w_ild1 i34_16 ?_
  refine w_ald2 i34_17 ?_
  refine w_gfR i34_18 (by decide) hq.1.1 rfl ?_
  refine w_ild3 i34_21 ?_
  refine w_ial i34_22 hq.2.2.1 (by decide) (by omega) ((mupC (by omega)).trans (rfl)) ?_
  refine w_ias i34_23 hp.2.2.1 (by decide) (by omega) ?_
  refine w_ald0 i34_24 ?_
  refine w_gfR i34_25 (by decide) hp.1.1 rfl ?_
  refine w_ild1 i34_28 ?_
  refine w_ald2 i34_29 ?_
  refine w_gfR i34_30 (by decide) hq.1.1 rfl ?_
  refine w_ild3 i34_33 ?_
  refine w_ial i34_34 hq.2.2.2.1 (by decide) (by omega) ((mupC (by omega)).trans ((mupC (by omega)).trans (rfl))) ?_
  refine w_ias i34_35 hp.2.2.2.1 (by decide) (by omega) ?_
  refine w_ald0 i34_36 ?_
  refine w_gfR i34_37 (by decide) hp.1.1 rfl ?_
  refine w_ild1 i34_40 ?_
  refine w_ald2 i34_41 ?_
  refine w_gfR i34_42 (by decide) hq.1.1 rfl ?_
  refine w_ild3 i34_45 ?_
  refine w_ial i34_46 hq.2.2.2.2.1 (by decide) (by omega) ((mupC (by omega)).trans ((mupC (by omega)).trans ((mupC (by omega)).trans (rfl)))) ?_
  refine w_ias i34_47 hp.2.2.2.2.1 (by decide) (by omega) ?_
  refine w_ald0 i34_48 ?_
  refine w_gfR i34_49 (by decide) hp.1.1 rfl ?_
  refine w_ild1 i34_52 ?_
  refine w_ald2 i34_53 ?_
  refine w_gfR i34_54 (by decide) hq.1.1 rfl ?_
  refine w_ild3 i34_57 ?_
  refine w_ial i34_58 hq.2.2.2.2.2.1 (by decide) (by omega) ((mupC (by omega)).trans ((mupC (by omega)).trans ((mupC (by omega)).trans ((mupC (by omega)).trans (rfl))))) ?_
  refine w_ias i34_59 hp.2.2.2.2.2.1 (by decide) (by omega) ?_
  refine w_ald0 i34_60 ?_
  refine w_gfR i34_61 (by decide) hp.1.1 rfl ?_
  refine w_ild1 i34_64 ?_
  refine w_ald2 i34_65 ?_
  refine w_gfR i34_66 (by decide) hq.1.1 rfl ?_
  refine w_ild3 i34_69 ?_
  refine w_ial i34_70 hq.2.2.2.2.2.2.1 (by decide) (by omega) ((mupC (by omega)).trans ((mupC (by omega)).trans ((mupC (by omega)).trans ((mupC (by omega)).trans ((mupC (by omega)).trans (rfl)))))) ?_
  refine w_ias i34_71 hp.2.2.2.2.2.2.1 (by decide) (by omega) ?_
  refine w_ald0 i34_72 ?_
  refine w_gfR i34_73 (by decide) hp.1.1 rfl ?_
  refine w_ild1 i34_76 ?_
  refine w_ald2 i34_77 ?_
  refine w_gfR i34_78 (by decide) hq.1.1 rfl ?_
  refine w_ild3 i34_81 ?_
  refine w_ial i34_82 hq.2.2.2.2.2.2.2.1 (by decide) (by omega) ((mupC (by omega)).trans ((mupC (by omega)).trans ((mupC (by omega)).trans ((mupC (by omega)).trans ((mupC (by omega)).trans ((mupC (by omega)).trans (rfl))))))) ?_
  refine w_ias i34_83 hp.2.2.2.2.2.2.2.1 (by decide) (by omega) ?_
  refine w_ald0 i34_84 ?_
  refine w_gfR i34_85 (by decide) hp.1.1 rfl ?_
  refine w_ild1 i34_88 ?_
  refine w_ald2 i34_89 ?_
  refine w_gfR i34_90 (by decide) hq.1.1 rfl ?_
  refine w_ild3 i34_93 ?_
  refine w_ial i34_94 hq.2.2.2.2.2.2.2.2 (by decide) (by omega) ((mupC (by omega)).trans ((mupC (by omega)).trans ((mupC (by omega)).trans ((mupC (by omega)).trans ((mupC (by omega)).trans ((mupC (by omega)).trans ((mupC (by omega)).trans (rfl)))))))) ?_
  refine w_ias i34_95 hp.2.2.2.2.2.2.2.2 (by decide) (by omega) ?_
  refine w_rv i34_96 r34 ?_
  refine ⟨rfl, ?_⟩
  funext c j
  unfold cpS
  by_cases z : p + 1 ≤ c ∧ c ≤ p + 8 ∧ j = a
  · rw [if_pos z]
    obtain ⟨z1, z2, z3⟩ := z
    subst z3
    rcases (by omega : c = p + 1 ∨ c = p + 2 ∨ c = p + 3 ∨ c = p + 4 ∨ c = p + 5 ∨ c = p + 6 ∨ c = p + 7 ∨ c = p + 8) with e | e | e | e | e | e | e | e
    · subst e; rw [Nat.add_sub_cancel_left]; skip; refine Eq.trans (mupC (by omega)) ?_; refine Eq.trans (mupC (by omega)) ?_; refine Eq.trans (mupC (by omega)) ?_; refine Eq.trans (mupC (by omega)) ?_; refine Eq.trans (mupC (by omega)) ?_; refine Eq.trans (mupC (by omega)) ?_; refine Eq.trans (mupC (by omega)) ?_; exact mupE
    · subst e; rw [Nat.add_sub_cancel_left]; skip; refine Eq.trans (mupC (by omega)) ?_; refine Eq.trans (mupC (by omega)) ?_; refine Eq.trans (mupC (by omega)) ?_; refine Eq.trans (mupC (by omega)) ?_; refine Eq.trans (mupC (by omega)) ?_; refine Eq.trans (mupC (by omega)) ?_; exact mupE
    · subst e; rw [Nat.add_sub_cancel_left]; skip; refine Eq.trans (mupC (by omega)) ?_; refine Eq.trans (mupC (by omega)) ?_; refine Eq.trans (mupC (by omega)) ?_; refine Eq.trans (mupC (by omega)) ?_; refine Eq.trans (mupC (by omega)) ?_; exact mupE
    · subst e; rw [Nat.add_sub_cancel_left]; skip; refine Eq.trans (mupC (by omega)) ?_; refine Eq.trans (mupC (by omega)) ?_; refine Eq.trans (mupC (by omega)) ?_; refine Eq.trans (mupC (by omega)) ?_; exact mupE
    · subst e; rw [Nat.add_sub_cancel_left]; skip; refine Eq.trans (mupC (by omega)) ?_; refine Eq.trans (mupC (by omega)) ?_; refine Eq.trans (mupC (by omega)) ?_; exact mupE
    · subst e; rw [Nat.add_sub_cancel_left]; skip; refine Eq.trans (mupC (by omega)) ?_; refine Eq.trans (mupC (by omega)) ?_; exact mupE
    · subst e; rw [Nat.add_sub_cancel_left]; skip; refine Eq.trans (mupC (by omega)) ?_; exact mupE
    · subst e; rw [Nat.add_sub_cancel_left]; skip; exact mupE
  · rw [if_neg z]
    skip; refine Eq.trans (mupN (fun y => z ⟨by omega, by omega, y.2⟩)) ?_; refine Eq.trans (mupN (fun y => z ⟨by omega, by omega, y.2⟩)) ?_; refine Eq.trans (mupN (fun y => z ⟨by omega, by omega, y.2⟩)) ?_; refine Eq.trans (mupN (fun y => z ⟨by omega, by omega, y.2⟩)) ?_; refine Eq.trans (mupN (fun y => z ⟨by omega, by omega, y.2⟩)) ?_; refine Eq.trans (mupN (fun y => z ⟨by omega, by omega, y.2⟩)) ?_; refine Eq.trans (mupN (fun y => z ⟨by omega, by omega, y.2⟩)) ?_; exact mupN (fun y => z ⟨by omega, by omega, y.2⟩)
theorem StS_2 : StS 2 := ⟨⟨s_2, by decide, by decide +kernel⟩, s_3, s_4, s_5, s_6, s_7, s_8, s_9, s_10⟩
def rmS (D : Mm) (s i : Nat) : Mm := fun c j => if 3 ≤ c ∧ c ≤ 10 ∧ s ≤ j ∧ j < i then D c (j + 1) else D c j
theorem rmS_0 {D : Mm} {s : Nat} : rmS D s (s + 0) = D := by
  funext c j
  unfold rmS
  rw [if_neg (by omega)]
theorem rmS_S {D : Mm} {s i : Nat} : cpS (rmS D s (s + i)) 2 2 (s + i) (s + i + 1) = rmS D s (s + (i + 1)) := by
  funext c j
  unfold cpS
  by_cases z : 2 + 1 ≤ c ∧ c ≤ 2 + 8 ∧ j = s + i
  · rw [if_pos z, show 2 + (c - 2) = c by omega]
    unfold rmS
    rw [if_neg (by omega), if_pos (by omega), z.2.2]
  · rw [if_neg z]
    unfold rmS
    by_cases y : 3 ≤ c ∧ c ≤ 10 ∧ s ≤ j ∧ j < s + i
    · rw [if_pos y, if_pos (by omega)]
    · rw [if_neg y, if_neg (by omega)]
theorem rmS_q {D : Mm} {s i q : Nat} (h : q < 3 ∨ 10 < q) : rmS D s i q = D q := by
  funext j
  unfold rmS
  rw [if_neg (by omega)]
theorem rmS_lo {D : Mm} {s i c j : Nat} (h : j < s) : rmS D s i c j = D c j := by
  unfold rmS
  rw [if_neg (by omega)]
theorem rmS_hi {D : Mm} {s i c j : Nat} (h : s ≤ j) (h2 : j < i) (h3 : 3 ≤ c ∧ c ≤ 10) : rmS D s i c j = D c (j + 1) := by
  unfold rmS
  rw [if_pos ⟨h3.1, h3.2, h, h2⟩]
set_option maxHeartbeats 100000 in
theorem K_remove {d : Nat} {D : Mm} {n s : Nat} (hn : D 2 8 = nI n) (h12 : n ≤ 12) (hs : s < n) : Ct (d + 2) 36 [.ref 2, .int (nI s)] D (Ex (none) (rmS (mup D 2 8 (nI (n - 1))) s (n - 1))) := by
  refine ent m36 rfl rfl (ls := [.ref 2, .int (nI s), .retAddr 0]) rfl ?_
  refine w_ald0 i36_0 ?_
  refine w_dup i36_1 rfl ?_
  refine w_gfI i36_2 (by decide) s_2 rfl hn ?_
  refine w_const i36_5 kc_1 ?_
  refine w_isub i36_6 (nI_sub (by omega)) ?_
  refine w_pf0 i36_7 (by decide) s_2 rfl ?_
  refine w_ild1 i36_10 ?_
  refine w_ist2 i36_11 ?_
  refine wpD (D2 := rmS (mup D 2 8 (nI (n - 1))) s (s + 0)) rmS_0.symm ?_
  refine down0 (n := (n - 1 - s)) (P := fun i => Wp _ _ _ 12 [.ref 2, .int (nI s), .int (nI (s + i))] [] (rmS (mup D 2 8 (nI (n - 1))) s (s + i))) ?_ ?_
  · skip
    refine w_ild2 i36_12 ?_
    refine w_ald0 i36_13 ?_
    refine w_gfI i36_14 (by decide) s_2 rfl ((congrFun (rmS_q (by decide)) 8).trans mupE) ?_
    refine w_cgeNT i36_17 g36_17 (by omega) (by omega) (by omega) ?_
    refine w_rv i36_35 r36 ?_
    refine ⟨rfl, ?_⟩
    rw [show n - 1 = s + (n - 1 - s) by omega, Nat.add_sub_cancel_left]
  · intro i hi ih
    refine w_ild2 i36_12 ?_
    refine w_ald0 i36_13 ?_
    refine w_gfI i36_14 (by decide) s_2 rfl ((congrFun (rmS_q (by decide)) 8).trans mupE) ?_
    refine w_cgeNF i36_17 (by omega) (by omega) (by omega) ?_
    refine w_ald0 i36_20 ?_
    refine w_ild2 i36_21 ?_
    refine w_ald0 i36_22 ?_
    refine w_ild2 i36_23 ?_
    refine w_const i36_24 kc_1 ?_
    refine w_iadd i36_25 (nI_add _ _) ?_
    refine w_vV4 i36_26 c34 (Or.inl rfl) ⟨by decide +kernel, by decide⟩ rfl ⟨rfl, Nat.le_of_ble_eq_true rfl⟩ (K_copyStub StS_2 StS_2 (Or.inl rfl) (by omega) (by omega)) ?_
    refine w_inc2 i36_29 (inc1 _) ?_
    refine w_goto i36_32 g36_32 ?_
    rw [rmS_S]; exact ih
theorem rel_goes {D : Mm} {n s : Nat} {V : Nat → Int32} (R : Rel D n V) (h12 : n ≤ 12) (hs : s < n) : Rel (rmS (mup D 2 8 (nI (n - 1))) s (n - 1)) (n - 1) (vGoes V s) := by
  have q1 : ∀ j, rmS (mup D 2 8 (nI (n - 1))) s (n - 1) 1 j = D 1 j := fun j => (congrFun (rmS_q (by decide)) j).trans (mupC (by decide))
  refine Rel.i ((congrFun (rmS_q (by decide)) 8).trans mupE) ((q1 5).trans (R.pl.trans (mP_congr (fun i hi => vGoes_lo (by omega) (by omega))).symm)) ((q1 6).trans (R.f6.trans (vGoes_lo (by omega) (by decide)).symm)) ((q1 7).trans (R.f7.trans (vGoes_lo (by omega) (by decide)).symm)) ((q1 8).trans (R.f8.trans (vGoes_lo (by omega) (by decide)).symm)) ((q1 9).trans (R.f9.trans (vGoes_lo (by omega) (by decide)).symm)) ((q1 10).trans (R.f10.trans (vGoes_lo (by omega) (by decide)).symm)) (fun i hi => ?_) (fun h hh => ?_)
  · by_cases e : i < s
    · have hi : i < n := by omega
      exact ⟨(rmS_lo e).trans ((mupC (by decide)).trans ((R.c3 hi).trans (vGoes_lo (by omega) (by omega)).symm)), (rmS_lo e).trans ((mupC (by decide)).trans ((R.c4 hi).trans (vGoes_lo (by omega) (by omega)).symm)), (rmS_lo e).trans ((mupC (by decide)).trans ((R.c5 hi).trans (vGoes_lo (by omega) (by omega)).symm)), (rmS_lo e).trans ((mupC (by decide)).trans ((R.c6 hi).trans (congrArg (· - nI 1) (vGoes_lo (by omega) (by omega))).symm)), (rmS_lo e).trans ((mupC (by decide)).trans ((R.c7 hi).trans (vGoes_lo (by omega) (by omega)).symm)), (rmS_lo e).trans ((mupC (by decide)).trans ((R.c8 hi).trans (congrArg (· - nI 1) (vGoes_lo (by omega) (by omega))).symm)), (rmS_lo e).trans ((mupC (by decide)).trans ((R.c9 hi).trans (vGoes_lo (by omega) (by omega)).symm)), (rmS_lo e).trans ((mupC (by decide)).trans ((R.c10 hi).trans (vGoes_lo (by omega) (by omega)).symm))⟩
    · have e : s ≤ i := by omega
      have hi2 : i + 1 < n := by omega
      exact ⟨(rmS_hi e hi (by decide)).trans ((mupC (by decide)).trans ((R.c3 hi2).trans ((vGoes_hi (by omega) (by omega) (by omega)).trans (congrArg V (by omega))).symm)), (rmS_hi e hi (by decide)).trans ((mupC (by decide)).trans ((R.c4 hi2).trans ((vGoes_hi (by omega) (by omega) (by omega)).trans (congrArg V (by omega))).symm)), (rmS_hi e hi (by decide)).trans ((mupC (by decide)).trans ((R.c5 hi2).trans ((vGoes_hi (by omega) (by omega) (by omega)).trans (congrArg V (by omega))).symm)), (rmS_hi e hi (by decide)).trans ((mupC (by decide)).trans ((R.c6 hi2).trans (congrArg (· - nI 1) ((vGoes_hi (by omega) (by omega) (by omega)).trans (congrArg V (by omega)))).symm)), (rmS_hi e hi (by decide)).trans ((mupC (by decide)).trans ((R.c7 hi2).trans ((vGoes_hi (by omega) (by omega) (by omega)).trans (congrArg V (by omega))).symm)), (rmS_hi e hi (by decide)).trans ((mupC (by decide)).trans ((R.c8 hi2).trans (congrArg (· - nI 1) ((vGoes_hi (by omega) (by omega) (by omega)).trans (congrArg V (by omega)))).symm)), (rmS_hi e hi (by decide)).trans ((mupC (by decide)).trans ((R.c9 hi2).trans ((vGoes_hi (by omega) (by omega) (by omega)).trans (congrArg V (by omega))).symm)), (rmS_hi e hi (by decide)).trans ((mupC (by decide)).trans ((R.c10 hi2).trans ((vGoes_hi (by omega) (by omega) (by omega)).trans (congrArg V (by omega))).symm))⟩
  · exact ⟨(congrFun (rmS_q (by decide)) h).trans ((mupC (by decide)).trans ((R.c11 hh).trans (vGoes_lo (by omega) (by omega)).symm)), (congrFun (rmS_q (by decide)) h).trans ((mupC (by decide)).trans ((R.c12 hh).trans (vGoes_lo (by omega) (by omega)).symm)), (congrFun (rmS_q (by decide)) h).trans ((mupC (by decide)).trans ((R.c13 hh).trans (vGoes_lo (by omega) (by omega)).symm)), (congrFun (rmS_q (by decide)) h).trans ((mupC (by decide)).trans ((R.c14 hh).trans (vGoes_lo (by omega) (by omega)).symm))⟩
theorem fr_goes {D : Mm} {n s : Nat} : FrC D (rmS (mup D 2 8 (nI (n - 1))) s (n - 1)) := fun q h => (rmS_q (by omega)).trans (mupF (by omega))
theorem vGoes_0n {V : Nat → Int32} {s n : Nat} (h : V 0 = nI n) (hn : 0 < n) : vGoes V s 0 = nI (n - 1) := by rw [vGoes_0, h, nI_sub hn]
set_option maxHeartbeats 100000 in
theorem K_takeWax {d : Nat} {D : Mm} {Q : Option Value → Mm → Prop} {n : Nat} {V : Nat → Int32} (R : Rel D n V) (h12 : n ≤ 12) {s : Nat} (hs : s < n) {x : Int32} (hq1 : V (30 + 8 * s + 1) - x = 0 → ∀ D2, Rel D2 (n - 1) (vGoes (vup V (30 + 8 * s + 1) (V (30 + 8 * s + 1) - x)) s) → FrC D D2 → Q none D2) (hq2 : ¬ V (30 + 8 * s + 1) - x = 0 → ∀ D2, Rel D2 n (vup V (30 + 8 * s + 1) (V (30 + 8 * s + 1) - x)) → FrC D D2 → Q none D2) : Ct (d + 3) 37 [.ref 2, .int (nI s), .int x] D Q := by
  refine ent m37 rfl rfl (ls := [.ref 2, .int (nI s), .int x]) rfl ?_
  refine w_ald0 i37_0 ?_
  refine w_gfR i37_1 (by decide) s_2 rfl ?_
  refine w_ild1 i37_4 ?_
  refine w_dup2 i37_5 rfl rfl ?_
  refine w_ial i37_6 s_4 (by decide) (by omega) (R.c4 hs) ?_
  refine w_ild2 i37_7 ?_
  refine w_isub i37_8 rfl ?_
  refine w_ias i37_9 s_4 (by decide) (by omega) ?_
  refine w_ald0 i37_10 ?_
  refine w_gfR i37_11 (by decide) s_2 rfl ?_
  refine w_ild1 i37_14 ?_
  refine w_ial i37_15 s_4 (by decide) (by omega) mupE ?_
  refine w_ine i37_16 g37_16  (fun h16 => ?_) (fun h16 => ?_)
  · skip
    refine w_rv i37_24 r37 ?_
    first
      | exact hq1 h16 _ (rel_goes (rel_wax R h12 hs) h12 hs) (FrC.tr (FrC.u FrC.rf (by decide) (by decide)) fr_goes)
      | exact hq2 h16 _ (rel_wax R h12 hs) (FrC.u FrC.rf (by decide) (by decide))
  · skip
    refine w_ald0 i37_19 ?_
    refine w_ild1 i37_20 ?_
    refine w_vV2 i37_21 c36 (Or.inl rfl) ⟨by decide +kernel, by decide⟩ rfl ⟨rfl, Nat.le_of_ble_eq_true rfl⟩ (K_remove (rel_wax R h12 hs).ct h12 hs) ?_
    refine w_rv i37_24 r37 ?_
    first
      | exact hq1 h16 _ (rel_goes (rel_wax R h12 hs) h12 hs) (FrC.tr (FrC.u FrC.rf (by decide) (by decide)) fr_goes)
      | exact hq2 h16 _ (rel_wax R h12 hs) (FrC.u FrC.rf (by decide) (by decide))
set_option maxHeartbeats 100000 in
theorem K_min {d : Nat} {D : Mm} {a b : Int32} : Ct (d + 1) 202 [.int a, .int b] D (Ex (some (.int (ifp (a ≤ b) a b))) (D)) := by
  refine ent m202 rfl rfl (ls := [.int a, .int b]) rfl ?_
  refine w_ild0 i202_0 ?_
  refine w_ild1 i202_1 ?_
  refine w_cgt i202_2 g202_2  (fun h2 => ?_) (fun h2 => ?_)
  · skip
    refine w_ild1 i202_9 ?_
    refine w_ri i202_10 r202 ?_
    first | (rw [ifp_t h2]; exact ⟨rfl, rfl⟩) | (rw [ifp_f (Int32.not_le.mpr h2)]; exact ⟨rfl, rfl⟩)
  · skip
    refine w_ild0 i202_5 ?_
    refine w_goto i202_6 g202_6 ?_
    refine w_ri i202_10 r202 ?_
    first | (rw [ifp_t h2]; exact ⟨rfl, rfl⟩) | (rw [ifp_f (Int32.not_le.mpr h2)]; exact ⟨rfl, rfl⟩)
set_option maxHeartbeats 100000 in
theorem K_O_bad1 {d : Nat} {D : Mm} {Q : Option Value → Mm → Prop} {n : Nat} {V : Nat → Int32} (R : Rel D n V) (h12 : n ≤ 12) {a : Int32} (hb : badS n a) {b x : Int32} (h : OutX (.inl (-1011, [])) D Q) : Ct (d + 4) 90 [.ref 0, .int a, .int b, .int x] D Q := by
  refine ent m90 rfl rfl (ls := [.ref 0, .int a, .int b, .int x, .retAddr 0]) rfl ?_
  refine w_ald0 i90_0 ?_
  refine w_ild1 i90_1 ?_
  refine w_vI2 i90_2 c100 (Or.inl rfl) ⟨by decide +kernel, by decide⟩ rfl ⟨rfl, Nat.le_of_ble_eq_true rfl⟩ (K_isStub_f R h12 hb) ?_
  refine w_ieqNT i90_5 g90_5 (by omega) (by omega) ?_
  refine w_sip i90_15 ks_m1011 ?_
  refine w_ri i90_18 r90 ?_
  exact OutX_n h
set_option maxHeartbeats 100000 in
theorem K_O_bad2 {d : Nat} {D : Mm} {Q : Option Value → Mm → Prop} {n : Nat} {V : Nat → Int32} (R : Rel D n V) (h12 : n ≤ 12) {s : Nat} (hs : s < n) {b x : Int32} (hb : badH b) (h : OutX (.inl (-1011, [])) D Q) : Ct (d + 4) 90 [.ref 0, .int (nI s), .int b, .int x] D Q := by
  refine ent m90 rfl rfl (ls := [.ref 0, .int (nI s), .int b, .int x, .retAddr 0]) rfl ?_
  refine w_ald0 i90_0 ?_
  refine w_ild1 i90_1 ?_
  refine w_vI2 i90_2 c100 (Or.inl rfl) ⟨by decide +kernel, by decide⟩ rfl ⟨rfl, Nat.le_of_ble_eq_true rfl⟩ (K_isStub_t R h12 hs) ?_
  refine w_ieqNF i90_5 (by omega) (by omega) ?_
  refine w_ild2 i90_8 ?_
  refine w_sI1 i90_9 c99 rfl  rfl ⟨rfl, Nat.le_of_ble_eq_true rfl⟩ (K_isHouse_f hb) ?_
  refine w_ineNF i90_12 (by omega) (by omega) ?_
  refine w_sip i90_15 ks_m1011 ?_
  refine w_ri i90_18 r90 ?_
  exact OutX_n h
set_option maxHeartbeats 100000 in
theorem K_W_bad1 {d : Nat} {D : Mm} {Q : Option Value → Mm → Prop} {a b x : Int32} (hb : badH b) (h : OutX (.inl (-1011, [])) D Q) : Ct (d + 4) 91 [.ref 0, .int b, .int a, .int x] D Q := by
  refine ent m91 rfl rfl (ls := [.ref 0, .int b, .int a, .int x, .retAddr 0]) rfl ?_
  refine w_ild1 i91_0 ?_
  refine w_sI1 i91_1 c99 rfl  rfl ⟨rfl, Nat.le_of_ble_eq_true rfl⟩ (K_isHouse_f hb) ?_
  refine w_ieqNT i91_4 g91_4 (by omega) (by omega) ?_
  refine w_sip i91_15 ks_m1011 ?_
  refine w_ri i91_18 r91 ?_
  exact OutX_n h
set_option maxHeartbeats 100000 in
theorem K_W_bad2 {d : Nat} {D : Mm} {Q : Option Value → Mm → Prop} {n : Nat} {V : Nat → Int32} (R : Rel D n V) (h12 : n ≤ 12) {a : Int32} (hb : badS n a) {j : Nat} (hj : j < 6) {x : Int32} (h : OutX (.inl (-1011, [])) D Q) : Ct (d + 4) 91 [.ref 0, .int (nI j), .int a, .int x] D Q := by
  refine ent m91 rfl rfl (ls := [.ref 0, .int (nI j), .int a, .int x, .retAddr 0]) rfl ?_
  refine w_ild1 i91_0 ?_
  refine w_sI1 i91_1 c99 rfl  rfl ⟨rfl, Nat.le_of_ble_eq_true rfl⟩ (K_isHouse_t hj) ?_
  refine w_ieqNF i91_4 (by omega) (by omega) ?_
  refine w_ald0 i91_7 ?_
  refine w_ild2 i91_8 ?_
  refine w_vI2 i91_9 c100 (Or.inl rfl) ⟨by decide +kernel, by decide⟩ rfl ⟨rfl, Nat.le_of_ble_eq_true rfl⟩ (K_isStub_f R h12 hb) ?_
  refine w_ineNF i91_12 (by omega) (by omega) ?_
  refine w_sip i91_15 ks_m1011 ?_
  refine w_ri i91_18 r91 ?_
  exact OutX_n h
theorem nI_s1 {j : Nat} : nI j = nI (j + 1) - nI 1 := by rw [nI_sub (by omega), Nat.add_sub_cancel]
theorem le0 {b : Nat} (hb : b < 2147483648) : (nI b ≤ 0) = (b = 0) := by
  apply propext
  constructor
  · intro h
    have h := Int32.le_iff_toInt_le.mp h
    rw [nI_toInt hb] at h
    have e : (0 : Int32).toInt = 0 := rfl
    omega
  · intro h; subst h; decide
/-- creditors and snuffers -/
def crV (n : Nat) (V : Nat → Int32) : Prop := ∀ s, s < n → 0 ≤ V (30 + 8 * s + 3)
theorem cr_le {n s : Nat} {V : Nat → Int32} (h : crV n V) (hs : s < n) (e : ¬ V (30 + 8 * s + 3) - nI 1 = -1) : ¬ V (30 + 8 * s + 3) ≤ 0 := fun g => sbmn e (Int32.le_antisymm g (h s hs))
theorem by_le {n s : Nat} {V : Nat → Int32} (h : byV n V) (hs : s < n) (e : ¬ V (30 + 8 * s + 6) - nI 1 = -1) : ¬ V (30 + 8 * s + 6) ≤ 0 := fun g => sbmn e (Int32.le_antisymm g (h s hs))
theorem sbm_le {x : Int32} (h : x - nI 1 = -1) : x ≤ 0 := by rw [sbm h]; decide
theorem ob2_0 {V : Nat → Int32} {i j n : Nat} {x y : Int32} (hn : V 0 = nI n) (h1 : 0 < i) (h2 : 0 < j) : vup (vup V i x) j y 0 = nI n := by rw [updJ (by omega), updJ (by omega)]; exact hn
set_option maxHeartbeats 100000 in
theorem K_O {d : Nat} {D : Mm} {Q : Option Value → Mm → Prop} {n : Nat} {V : Nat → Int32} (R : Rel D n V) (h12 : n ≤ 12) (hn : V 0 = nI n) (ho : opV V) (hcr : crV n V) {s : Nat} (hs : s < n) {j : Nat} (hj : j < 6) {x : Int32} (h : OutX (vOwes n V s j x) D Q) : Ct (d + 4) 90 [.ref 0, .int (nI s), .int (nI j), .int x] D Q := by
  refine ent m90 rfl rfl (ls := [.ref 0, .int (nI s), .int (nI j), .int x, .retAddr 0]) rfl ?_
  refine w_ald0 i90_0 ?_
  refine w_ild1 i90_1 ?_
  refine w_vI2 i90_2 c100 (Or.inl rfl) ⟨by decide +kernel, by decide⟩ rfl ⟨rfl, Nat.le_of_ble_eq_true rfl⟩ (K_isStub_t R h12 hs) ?_
  refine w_ieqNF i90_5 (by omega) (by omega) ?_
  refine w_ild2 i90_8 ?_
  refine w_sI1 i90_9 c99 rfl  rfl ⟨rfl, Nat.le_of_ble_eq_true rfl⟩ (K_isHouse_t hj) ?_
  refine w_ineNT i90_12 g90_12 (by omega) (by omega) ?_
  refine w_ild3 i90_19 ?_
  refine w_const i90_20 kc_1 ?_
  refine w_bip i90_21 kb_90 ?_
  by_cases hB : badR x (nI 1) (nI 90)
  · skip
    refine w_sI3 i90_23 c98 rfl  rfl ⟨rfl, Nat.le_of_ble_eq_true rfl⟩ (K_isFrom_f hB) ?_
    refine w_ineNF i90_26 (by omega) (by omega) ?_
    refine w_sip i90_29 ks_m1012 ?_
    refine w_ri i90_32 r90 ?_
    exact OutX_n (OutXT h hB)
  · skip
    refine w_sI3 i90_23 c98 rfl  rfl ⟨rfl, Nat.le_of_ble_eq_true rfl⟩ (K_isFrom_t hB) ?_
    refine w_ineNT i90_26 g90_26 (by omega) (by omega) ?_
    refine w_ald0 i90_33 ?_
    refine w_gfR i90_34 (by decide) s_0 rfl ?_
    refine w_gfR i90_37 (by decide) s_1 rfl ?_
    refine w_ast4 i90_40 ?_
    refine w_ald0 i90_42 ?_
    refine w_gfR i90_43 (by decide) s_0 rfl ?_
    refine w_gfR i90_46 (by decide) s_1 rfl ?_
    refine w_ild2 i90_49 ?_
    refine w_zal i90_50 s_11 (by decide) (by omega) (R.c11 (by assumption)) ?_
    refine w_ine i90_51 g90_51  (fun h51 => ?_) (fun h51 => ?_)
    · skip
      refine w_ald4 i90_61 ?_
      refine w_gfR i90_63 (by decide) s_2 rfl ?_
      refine w_ild1 i90_66 ?_
      refine w_ial i90_67 s_3 (by decide) (by omega) (R.c3 (by assumption)) ?_
      refine w_ild2 i90_68 ?_
      refine w_cne i90_69 g90_69  (fun h69 => ?_) (fun h69 => ?_)
      · skip
        refine w_ald4 i90_80 ?_
        refine w_gfR i90_82 (by decide) s_2 rfl ?_
        refine w_ild1 i90_85 ?_
        refine w_ial i90_86 s_6 (by decide) (by omega) (R.c6 (by assumption)) ?_
        refine w_const i90_87 kc_m1 ?_
        refine w_ceq i90_88 g90_88  (fun h88 => ?_) (fun h88 => ?_)
        · skip
          refine w_ald4 i90_105 ?_
          refine w_gfR i90_107 (by decide) s_2 rfl ?_
          refine w_ild1 i90_110 ?_
          refine w_ild2 i90_111 ?_
          refine w_ias i90_112 s_6 (by decide) (by omega) ?_
          refine w_ald4 i90_113 ?_
          refine w_gfR i90_115 (by decide) s_2 rfl ?_
          refine w_ild1 i90_118 ?_
          refine w_ild3 i90_119 ?_
          refine w_ias i90_120 s_7 (by decide) (by omega) ?_
          refine w_ald4 i90_121 ?_
          refine w_ild2 i90_123 ?_
          refine w_vI2 i90_124 c47 (Or.inl rfl) ⟨by decide +kernel, by decide⟩ rfl ⟨rfl, Nat.le_of_ble_eq_true rfl⟩ (K_owedTo (rel_debt (rel_cr R h12 hs nI_s1) h12 hs) h12) ?_
          refine w_ri i90_127 r90 ?_
          exact OutX_s (OutXT (OutXF (OutXT (OutXF h hB) (opV_t ho hj h51)) h69) (sbm_le h88)) (rel_debt (rel_cr R h12 hs nI_s1) h12 hs) (ob2_0 hn (by omega) (by omega)) h12 (FrC.u (FrC.u FrC.rf (by decide) (by decide)) (by decide) (by decide))
        · skip
          refine w_ald0 i90_91 ?_
          refine w_bip i90_92 kb_7 ?_
          refine w_ald4 i90_94 ?_
          refine w_gfR i90_96 (by decide) s_2 rfl ?_
          refine w_ild1 i90_99 ?_
          refine w_ial i90_100 s_6 (by decide) (by omega) (R.c6 (by assumption)) ?_
          refine w_vI3 i90_101 c102 (Or.inl rfl) ⟨by decide +kernel, by decide⟩ rfl ⟨rfl, Nat.le_of_ble_eq_true rfl⟩ K_refuse ?_
          refine w_ri i90_104 r90 ?_
          exact OutX_1 (OutXF (OutXF (OutXT (OutXF h hB) (opV_t ho hj h51)) h69) (cr_le hcr hs h88))
      · skip
        refine w_ald0 i90_72 ?_
        refine w_bip i90_73 kb_8 ?_
        refine w_ild2 i90_75 ?_
        refine w_vI3 i90_76 c102 (Or.inl rfl) ⟨by decide +kernel, by decide⟩ rfl ⟨rfl, Nat.le_of_ble_eq_true rfl⟩ K_refuse ?_
        refine w_ri i90_79 r90 ?_
        exact OutX_1 (OutXT (OutXT (OutXF h hB) (opV_t ho hj h51)) h69)
    · skip
      refine w_ald0 i90_54 ?_
      refine w_const i90_55 kc_2 ?_
      refine w_ild2 i90_56 ?_
      refine w_vI3 i90_57 c102 (Or.inl rfl) ⟨by decide +kernel, by decide⟩ rfl ⟨rfl, Nat.le_of_ble_eq_true rfl⟩ K_refuse ?_
      refine w_ri i90_60 r90 ?_
      exact OutX_1 (OutXF (OutXF h hB) (opV_f h51))
def wrN (n : Nat) (V : Nat → Int32) : Prop := ∀ h, h < 6 → ∃ c, c ≤ 2 ∧ mWritsH n V (nI h) = nI c
theorem wr_eq {n h : Nat} {V : Nat → Int32} (H : wrN n V) (hh : h < 6) (e : nI 2 ≤ mWritsH n V (nI h)) : mWritsH n V (nI h) = nI 2 := by
  obtain ⟨c, h2, e2⟩ := H h hh
  rw [e2] at e ⊢
  have e := Int32.le_iff_toInt_le.mp e
  rw [nI_toInt (by omega), nI_toInt (by omega)] at e
  congr 1; omega
theorem wr_ne {x : Int32} (e : x < nI 2) : ¬ x = nI 2 := fun g => by rw [g] at e; exact absurd e (by decide)
theorem byV_w {n s j : Nat} {V : Nat → Int32} {x : Int32} (H : byV n V) (hj : j < 6) (hs : s < n) : byV n (vup (vup V (30 + 8 * s + 6) (nI (j + 1))) (30 + 8 * s + 5) x) := by
  intro i hi
  rw [updJ (by omega)]
  by_cases e : i = s
  · rw [e, updE]; exact nI_pos' (by omega)
  · rw [updJ (by omega)]; exact H i hi
set_option maxHeartbeats 100000 in
theorem K_W {d : Nat} {D : Mm} {Q : Option Value → Mm → Prop} {n : Nat} {V : Nat → Int32} (R : Rel D n V) (h12 : n ≤ 12) (hn : V 0 = nI n) (ho : opV V) (hby : byV n V) (hw : wrN n V) {s : Nat} (hs : s < n) {j : Nat} (hj : j < 6) {x : Int32} (h : OutX (vSnuffs n V j s x) D Q) : Ct (d + 4) 91 [.ref 0, .int (nI j), .int (nI s), .int x] D Q := by
  refine ent m91 rfl rfl (ls := [.ref 0, .int (nI j), .int (nI s), .int x, .retAddr 0]) rfl ?_
  refine w_ild1 i91_0 ?_
  refine w_sI1 i91_1 c99 rfl  rfl ⟨rfl, Nat.le_of_ble_eq_true rfl⟩ (K_isHouse_t hj) ?_
  refine w_ieqNF i91_4 (by omega) (by omega) ?_
  refine w_ald0 i91_7 ?_
  refine w_ild2 i91_8 ?_
  refine w_vI2 i91_9 c100 (Or.inl rfl) ⟨by decide +kernel, by decide⟩ rfl ⟨rfl, Nat.le_of_ble_eq_true rfl⟩ (K_isStub_t R h12 hs) ?_
  refine w_ineNT i91_12 g91_12 (by omega) (by omega) ?_
  refine w_ild3 i91_19 ?_
  refine w_const i91_20 kc_1 ?_
  refine w_bip i91_21 kb_24 ?_
  by_cases hB : badR x (nI 1) (nI 24)
  · skip
    refine w_sI3 i91_23 c98 rfl  rfl ⟨rfl, Nat.le_of_ble_eq_true rfl⟩ (K_isFrom_f hB) ?_
    refine w_ineNF i91_26 (by omega) (by omega) ?_
    refine w_sip i91_29 ks_m1012 ?_
    refine w_ri i91_32 r91 ?_
    exact OutX_n (OutXT h hB)
  · skip
    refine w_sI3 i91_23 c98 rfl  rfl ⟨rfl, Nat.le_of_ble_eq_true rfl⟩ (K_isFrom_t hB) ?_
    refine w_ineNT i91_26 g91_26 (by omega) (by omega) ?_
    refine w_ald0 i91_33 ?_
    refine w_gfR i91_34 (by decide) s_0 rfl ?_
    refine w_gfR i91_37 (by decide) s_1 rfl ?_
    refine w_ast4 i91_40 ?_
    refine w_ald0 i91_42 ?_
    refine w_gfR i91_43 (by decide) s_0 rfl ?_
    refine w_gfR i91_46 (by decide) s_1 rfl ?_
    refine w_ild1 i91_49 ?_
    refine w_zal i91_50 s_11 (by decide) (by omega) (R.c11 (by assumption)) ?_
    refine w_ine i91_51 g91_51  (fun h51 => ?_) (fun h51 => ?_)
    · skip
      refine w_ald4 i91_61 ?_
      refine w_gfR i91_63 (by decide) s_2 rfl ?_
      refine w_ild2 i91_66 ?_
      refine w_ial i91_67 s_3 (by decide) (by omega) (R.c3 (by assumption)) ?_
      refine w_ild1 i91_68 ?_
      refine w_cne i91_69 g91_69  (fun h69 => ?_) (fun h69 => ?_)
      · skip
        refine w_ald4 i91_80 ?_
        refine w_gfR i91_82 (by decide) s_2 rfl ?_
        refine w_ild2 i91_85 ?_
        refine w_ial i91_86 s_8 (by decide) (by omega) (R.c8 (by assumption)) ?_
        refine w_const i91_87 kc_m1 ?_
        refine w_ceq i91_88 g91_88  (fun h88 => ?_) (fun h88 => ?_)
        · skip
          refine w_ald4 i91_105 ?_
          refine w_ild1 i91_107 ?_
          refine w_vI2 i91_108 c46 (Or.inl rfl) ⟨by decide +kernel, by decide⟩ rfl ⟨rfl, Nat.le_of_ble_eq_true rfl⟩ (K_writsBy R h12) ?_
          refine w_const i91_111 kc_2 ?_
          refine w_clt i91_112 g91_112  (fun h112 => ?_) (fun h112 => ?_)
          · skip
            refine w_ald4 i91_127 ?_
            refine w_gfR i91_129 (by decide) s_2 rfl ?_
            refine w_ild2 i91_132 ?_
            refine w_ild1 i91_133 ?_
            refine w_ias i91_134 s_8 (by decide) (by omega) ?_
            refine w_ald4 i91_135 ?_
            refine w_gfR i91_137 (by decide) s_2 rfl ?_
            refine w_ild2 i91_140 ?_
            refine w_ild3 i91_141 ?_
            refine w_ias i91_142 s_9 (by decide) (by omega) ?_
            refine w_ald4 i91_143 ?_
            refine w_vI1 i91_145 c49 (Or.inl rfl) ⟨by decide +kernel, by decide⟩ rfl ⟨rfl, Nat.le_of_ble_eq_true rfl⟩ (K_allWrits (rel_sd (rel_sn R h12 hs nI_s1) h12 hs) h12 (byV_w hby hj hs)) ?_
            refine w_ri i91_148 r91 ?_
            exact OutX_s (OutXF (OutXT (OutXF (OutXT (OutXF h hB) (opV_t ho hj h51)) h69) (sbm_le h88)) (wr_ne h112)) (rel_sd (rel_sn R h12 hs nI_s1) h12 hs) (ob2_0 hn (by omega) (by omega)) h12 (FrC.u (FrC.u FrC.rf (by decide) (by decide)) (by decide) (by decide))
          · skip
            refine w_ald0 i91_115 ?_
            refine w_const i91_116 kc_1 ?_
            refine w_ald4 i91_117 ?_
            refine w_ild1 i91_119 ?_
            refine w_vI2 i91_120 c46 (Or.inl rfl) ⟨by decide +kernel, by decide⟩ rfl ⟨rfl, Nat.le_of_ble_eq_true rfl⟩ (K_writsBy R h12) ?_
            refine w_vI3 i91_123 c102 (Or.inl rfl) ⟨by decide +kernel, by decide⟩ rfl ⟨rfl, Nat.le_of_ble_eq_true rfl⟩ K_refuse ?_
            refine w_ri i91_126 r91 ?_
            have g := wr_eq hw hj h112
            rw [g]
            exact OutX_1 (OutXT (OutXT (OutXF (OutXT (OutXF h hB) (opV_t ho hj h51)) h69) (sbm_le h88)) g)
        · skip
          refine w_ald0 i91_91 ?_
          refine w_bip i91_92 kb_9 ?_
          refine w_ald4 i91_94 ?_
          refine w_gfR i91_96 (by decide) s_2 rfl ?_
          refine w_ild2 i91_99 ?_
          refine w_ial i91_100 s_9 (by decide) (by omega) (R.c9 (by assumption)) ?_
          refine w_vI3 i91_101 c102 (Or.inl rfl) ⟨by decide +kernel, by decide⟩ rfl ⟨rfl, Nat.le_of_ble_eq_true rfl⟩ K_refuse ?_
          refine w_ri i91_104 r91 ?_
          exact OutX_1 (OutXF (OutXF (OutXT (OutXF h hB) (opV_t ho hj h51)) h69) (by_le hby hs h88))
      · skip
        refine w_ald0 i91_72 ?_
        refine w_bip i91_73 kb_8 ?_
        refine w_ild1 i91_75 ?_
        refine w_vI3 i91_76 c102 (Or.inl rfl) ⟨by decide +kernel, by decide⟩ rfl ⟨rfl, Nat.le_of_ble_eq_true rfl⟩ K_refuse ?_
        refine w_ri i91_79 r91 ?_
        exact OutX_1 (OutXT (OutXT (OutXF h hB) (opV_t ho hj h51)) h69)
    · skip
      refine w_ald0 i91_54 ?_
      refine w_const i91_55 kc_2 ?_
      refine w_ild1 i91_56 ?_
      refine w_vI3 i91_57 c102 (Or.inl rfl) ⟨by decide +kernel, by decide⟩ rfl ⟨rfl, Nat.le_of_ble_eq_true rfl⟩ K_refuse ?_
      refine w_ri i91_60 r91 ?_
      exact OutX_1 (OutXF (OutXF h hB) (opV_f h51))
set_option maxHeartbeats 100000 in
theorem K_P_bad {d : Nat} {D : Mm} {Q : Option Value → Mm → Prop} {n : Nat} {V : Nat → Int32} (R : Rel D n V) (h12 : n ≤ 12) {a : Int32} (hb : badS n a) {x : Int32} (h : OutX (.inl (-1011, [])) D Q) : Ct (d + 4) 92 [.ref 0, .int a, .int x] D Q := by
  refine ent m92 rfl rfl (ls := [.ref 0, .int a, .int x]) rfl ?_
  refine w_ald0 i92_0 ?_
  refine w_ild1 i92_1 ?_
  refine w_vI2 i92_2 c100 (Or.inl rfl) ⟨by decide +kernel, by decide⟩ rfl ⟨rfl, Nat.le_of_ble_eq_true rfl⟩ (K_isStub_f R h12 hb) ?_
  refine w_ineNF i92_5 (by omega) (by omega) ?_
  refine w_sip i92_8 ks_m1011 ?_
  refine w_ri i92_11 r92 ?_
  exact OutX_n h
theorem sumN_upd {V : Nat → Int32} {f : Nat → Nat} {m : Nat} {x : Int32} (hf : ∀ a b, f a = f b → a = b) : ∀ n, m < n → sumN n (fun h => vup V (f m) (V (f m) + x) (f h)) = sumN n (fun h => V (f h)) + x := by
  intro n
  induction n with
  | zero => intro h; exact absurd h (Nat.not_lt_zero m)
  | succ n ih =>
    intro h
    rw [sumS, sumS]
    by_cases e : m = n
    · subst e
      rw [updE]
      have : sumN m (fun h => vup V (f m) (V (f m) + x) (f h)) = sumN m (fun h => V (f h)) := sum_congr (fun i hi => updJ (fun g => by have := hf _ _ g; omega))
      rw [this, Int32.add_assoc]
    · rw [ih (by omega), updJ (fun g => e (hf _ _ g).symm)]
      rw [Int32.add_assoc, Int32.add_assoc, Int32.add_comm x]
theorem mP_add {V : Nat → Int32} {o : Nat} {x : Int32} (ho : o < 6) : mPooled (vup V (6 + 4 * o + 3) (V (6 + 4 * o + 3) + x)) = mPooled V + x := sumN_upd (f := fun h => 6 + 4 * h + 3) (fun a b h => by omega) 6 ho
theorem mP_lo {V : Nat → Int32} {j : Nat} {x : Int32} (hj : 30 ≤ j) : mPooled (vup V j x) = mPooled V := mP_congr (fun i hi => updJ (by omega))
theorem mP_go {V : Nat → Int32} {s : Nat} : mPooled (vGoes V s) = mPooled V := mP_congr (fun i hi => vGoes_lo (by omega) (by omega))
set_option maxHeartbeats 100000 in
theorem K_P {d : Nat} {D : Mm} {Q : Option Value → Mm → Prop} {n : Nat} {V : Nat → Int32} (R : Rel D n V) (h12 : n ≤ 12) (hn : V 0 = nI n) {s : Nat} (hs : s < n) {o : Nat} (ho : V (30 + 8 * s + 0) = nI o) (ho6 : o < 6) {x : Int32} (h : OutX (vPools V s o x) D Q) : Ct (d + 4) 92 [.ref 0, .int (nI s), .int x] D Q := by
  refine ent m92 rfl rfl (ls := [.ref 0, .int (nI s), .int x]) rfl ?_
  refine w_ald0 i92_0 ?_
  refine w_ild1 i92_1 ?_
  refine w_vI2 i92_2 c100 (Or.inl rfl) ⟨by decide +kernel, by decide⟩ rfl ⟨rfl, Nat.le_of_ble_eq_true rfl⟩ (K_isStub_t R h12 hs) ?_
  refine w_ineNT i92_5 g92_5 (by omega) (by omega) ?_
  refine w_ild2 i92_12 ?_
  refine w_const i92_13 kc_1 ?_
  refine w_bip i92_14 kb_30 ?_
  by_cases hB : badR x (nI 1) (nI 30)
  · skip
    refine w_sI3 i92_16 c98 rfl  rfl ⟨rfl, Nat.le_of_ble_eq_true rfl⟩ (K_isFrom_f hB) ?_
    refine w_ineNF i92_19 (by omega) (by omega) ?_
    refine w_sip i92_22 ks_m1012 ?_
    refine w_ri i92_25 r92 ?_
    exact OutX_n (OutXT h hB)
  · skip
    refine w_sI3 i92_16 c98 rfl  rfl ⟨rfl, Nat.le_of_ble_eq_true rfl⟩ (K_isFrom_t hB) ?_
    refine w_ineNT i92_19 g92_19 (by omega) (by omega) ?_
    refine w_ald0 i92_26 ?_
    refine w_gfR i92_27 (by decide) s_0 rfl ?_
    refine w_gfR i92_30 (by decide) s_1 rfl ?_
    refine w_gfR i92_33 (by decide) s_2 rfl ?_
    refine w_ild1 i92_36 ?_
    refine w_ial i92_37 s_4 (by decide) (by omega) (R.c4 (by assumption)) ?_
    refine w_ild2 i92_38 ?_
    refine w_cge i92_39 g92_39  (fun h39 => ?_) (fun h39 => ?_)
    · skip
      refine w_ald0 i92_61 ?_
      refine w_gfR i92_62 (by decide) s_0 rfl ?_
      refine w_gfR i92_65 (by decide) s_1 rfl ?_
      refine w_ald0 i92_68 ?_
      refine w_gfR i92_69 (by decide) s_0 rfl ?_
      refine w_gfR i92_72 (by decide) s_1 rfl ?_
      refine w_gfR i92_75 (by decide) s_2 rfl ?_
      refine w_ild1 i92_78 ?_
      refine w_ial i92_79 s_3 (by decide) (by omega) ((R.c3 hs).trans ho) ?_
      refine w_dup2 i92_80 rfl rfl ?_
      refine w_ial i92_81 s_14 (by decide) (by omega) (R.c14 ho6) ?_
      refine w_ild2 i92_82 ?_
      refine w_iadd i92_83 rfl ?_
      refine w_ias i92_84 s_14 (by decide) (by omega) ?_
      refine w_ald0 i92_85 ?_
      refine w_gfR i92_86 (by decide) s_0 rfl ?_
      refine w_dup i92_89 rfl ?_
      refine w_gfI i92_90 (by decide) s_1 rfl ((mupC (by decide)).trans R.pl) ?_
      refine w_ild2 i92_93 ?_
      refine w_iadd i92_94 rfl ?_
      refine w_pf0 i92_95 (by decide) s_1 rfl ?_
      refine w_ald0 i92_98 ?_
      refine w_gfR i92_99 (by decide) s_0 rfl ?_
      refine w_gfR i92_102 (by decide) s_1 rfl ?_
      refine w_ild1 i92_105 ?_
      refine w_ild2 i92_106 ?_
      refine w_vG3 i92_107 c37 (Or.inl rfl) ⟨by decide +kernel, by decide⟩ rfl ⟨rfl, Nat.le_of_ble_eq_true rfl⟩ ?_
      have e1 : vup (vup V (6 + 4 * o + 3) (V (6 + 4 * o + 3) + x)) (30 + 8 * s + 1) ((vup V (6 + 4 * o + 3) (V (6 + 4 * o + 3) + x)) (30 + 8 * s + 1) - x) = vup (vup V (6 + 4 * o + 3) (V (6 + 4 * o + 3) + x)) (30 + 8 * s + 1) (V (30 + 8 * s + 1) - x) := by rw [updJ (by omega)]
      have fin : ∀ {m : Nat} {V2 : Nat → Int32} {D2 : Mm}, Rel D2 m V2 → V2 0 = nI m → m ≤ 12 → mPooled V2 = mPooled V + x → OutX (.inr (mPooled V2, V2)) D Q → FrC D D2 → Wp (d + 3) 92 Q (107 + 3) [.ref 0, .int (nI s), .int x] [] D2 := by
        intro m V2 D2 g1 g2 g3 g4 g5 g6
        refine w_ald0 i92_110 ?_
        refine w_gfR i92_111 (by decide) s_0 rfl ?_
        refine w_gfI i92_114 (by decide) s_1 rfl g1.pl ?_
        exact w_ri i92_117 r92 (OutX_s g5 g1 g2 g3 g6)
      have fr : FrC D (mup (mup D 14 o (V (6 + 4 * o + 3) + x)) 1 5 (mPooled V + x)) := FrC.u (FrC.u FrC.rf (by decide) (by decide)) (by decide) (by decide)
      have hX := OutXT (OutXF h hB) h39
      refine K_takeWax (rel_pooled R ho6 (mP_add ho6).symm) h12 hs (fun e2 D2 g1 g3 => ?_) (fun e2 D2 g1 g3 => ?_)
      · rw [updJ (by omega)] at e2
        rw [e1] at g1
        exact fin g1 (vGoes_0n (ob2_0 hn (by omega) (by omega)) (by omega)) (by omega) (by rw [mP_go, mP_lo (by omega), mP_add ho6]) (OutXT hX (sub_zero.mp e2)) (fr.tr g3)
      · rw [updJ (by omega)] at e2
        rw [e1] at g1
        exact fin g1 (ob2_0 hn (by omega) (by omega)) h12 (by rw [mP_lo (by omega), mP_add ho6]) (OutXF hX (fun e => e2 (sub_zero.mpr e))) (fr.tr g3)
    · skip
      refine w_ald0 i92_42 ?_
      refine w_bip i92_43 kb_10 ?_
      refine w_ald0 i92_45 ?_
      refine w_gfR i92_46 (by decide) s_0 rfl ?_
      refine w_gfR i92_49 (by decide) s_1 rfl ?_
      refine w_gfR i92_52 (by decide) s_2 rfl ?_
      refine w_ild1 i92_55 ?_
      refine w_ial i92_56 s_4 (by decide) (by omega) (R.c4 (by assumption)) ?_
      refine w_vI3 i92_57 c102 (Or.inl rfl) ⟨by decide +kernel, by decide⟩ rfl ⟨rfl, Nat.le_of_ble_eq_true rfl⟩ K_refuse ?_
      refine w_ri i92_60 r92 ?_
      exact OutX_1 (OutXF (OutXF h hB) (Int32.not_le.mpr h39))
set_option maxHeartbeats 100000 in
theorem K_H_bad1 {d : Nat} {D : Mm} {Q : Option Value → Mm → Prop} {a b : Int32} (hb : badH b) (h : OutX (.inl (-1011, [])) D Q) : Ct (d + 4) 94 [.ref 0, .int b, .int a] D Q := by
  refine ent m94 rfl rfl (ls := [.ref 0, .int b, .int a, .retAddr 0]) rfl ?_
  refine w_ild1 i94_0 ?_
  refine w_sI1 i94_1 c99 rfl  rfl ⟨rfl, Nat.le_of_ble_eq_true rfl⟩ (K_isHouse_f hb) ?_
  refine w_ieqNT i94_4 g94_4 (by omega) (by omega) ?_
  refine w_sip i94_14 ks_m1011 ?_
  refine w_ri i94_17 r94 ?_
  exact OutX_n h
set_option maxHeartbeats 100000 in
theorem K_H_bad2 {d : Nat} {D : Mm} {Q : Option Value → Mm → Prop} {j : Nat} (hj : j < 6) {a : Int32} (hb : badH a) (h : OutX (.inl (-1011, [])) D Q) : Ct (d + 4) 94 [.ref 0, .int (nI j), .int a] D Q := by
  refine ent m94 rfl rfl (ls := [.ref 0, .int (nI j), .int a, .retAddr 0]) rfl ?_
  refine w_ild1 i94_0 ?_
  refine w_sI1 i94_1 c99 rfl  rfl ⟨rfl, Nat.le_of_ble_eq_true rfl⟩ (K_isHouse_t hj) ?_
  refine w_ieqNF i94_4 (by omega) (by omega) ?_
  refine w_ild2 i94_7 ?_
  refine w_sI1 i94_8 c99 rfl  rfl ⟨rfl, Nat.le_of_ble_eq_true rfl⟩ (K_isHouse_f hb) ?_
  refine w_ineNF i94_11 (by omega) (by omega) ?_
  refine w_sip i94_14 ks_m1011 ?_
  refine w_ri i94_17 r94 ?_
  exact OutX_n h
set_option maxHeartbeats 100000 in
theorem K_H {d : Nat} {D : Mm} {Q : Option Value → Mm → Prop} {n : Nat} {V : Nat → Int32} (R : Rel D n V) (h12 : n ≤ 12) (hn : V 0 = nI n) {j : Nat} (hj : j < 6) {i : Nat} (hi : i < 6) (h : OutX (vTells V j i) D Q) : Ct (d + 4) 94 [.ref 0, .int (nI j), .int (nI i)] D Q := by
  refine ent m94 rfl rfl (ls := [.ref 0, .int (nI j), .int (nI i), .retAddr 0]) rfl ?_
  refine w_ild1 i94_0 ?_
  refine w_sI1 i94_1 c99 rfl  rfl ⟨rfl, Nat.le_of_ble_eq_true rfl⟩ (K_isHouse_t hj) ?_
  refine w_ieqNF i94_4 (by omega) (by omega) ?_
  refine w_ild2 i94_7 ?_
  refine w_sI1 i94_8 c99 rfl  rfl ⟨rfl, Nat.le_of_ble_eq_true rfl⟩ (K_isHouse_t hi) ?_
  refine w_ineNT i94_11 g94_11 (by omega) (by omega) ?_
  refine w_ald0 i94_18 ?_
  refine w_gfR i94_19 (by decide) s_0 rfl ?_
  refine w_gfR i94_22 (by decide) s_1 rfl ?_
  refine w_ild1 i94_25 ?_
  refine w_ial i94_26 s_12 (by decide) (by omega) (R.c12 (by assumption)) ?_
  refine w_ist3 i94_27 ?_
  refine w_ild3 i94_28 ?_
  refine w_ild2 i94_29 ?_
  refine w_cne i94_30 g94_30  (fun h30 => ?_) (fun h30 => ?_)
  · skip
    refine w_ald0 i94_41 ?_
    refine w_gfR i94_42 (by decide) s_0 rfl ?_
    refine w_gfR i94_45 (by decide) s_1 rfl ?_
    refine w_ild1 i94_48 ?_
    refine w_ild2 i94_49 ?_
    refine w_ias i94_50 s_12 (by decide) (by omega) ?_
    refine w_ild3 i94_51 ?_
    refine w_ri i94_52 r94 ?_
    exact OutX_s (OutXF h h30) (rel_heir R hj) ((updJ (by omega)).trans hn) h12 (FrC.u FrC.rf (by decide) (by decide))
  · skip
    refine w_ald0 i94_33 ?_
    refine w_bip i94_34 kb_14 ?_
    refine w_ild2 i94_36 ?_
    refine w_vI3 i94_37 c102 (Or.inl rfl) ⟨by decide +kernel, by decide⟩ rfl ⟨rfl, Nat.le_of_ble_eq_true rfl⟩ K_refuse ?_
    refine w_ri i94_40 r94 ?_
    exact OutX_1 (OutXT h h30)
