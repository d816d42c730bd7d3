/-! the class, what shares -/
def shE (n : Nat) (V : Nat → Int32) : Prop := ∃ P c, shD n V P c
def FrS (D D2 : Mm) : Prop := ∀ q, q ≠ 166 → q ≠ 167 → q ≠ 168 → D2 q = D q
theorem FrS.tr {D D2 D3 : Mm} (h : FrS D D2) (g : FrS D2 D3) : FrS D D3 := fun q a b c => (g q a b c).trans (h q a b c)
theorem Rel.frS {D D2 : Mm} {n : Nat} {V : Nat → Int32} (R : Rel D n V) (f : FrS D D2) : Rel D2 n V := R.fr (fun q _ h => f q (by omega) (by omega) (by omega))
theorem shD.zero {n P : Nat} {V : Nat → Int32} {c : Nat → Nat} (H : shD n V P c) (h : ¬ mClaims n V = 0) : 0 < sN6 6 c := by
  rw [H.cl, nI_eq0 H.2.2.2.1] at h
  omega
theorem K_div {d : Nat} {D : Mm} {Q : Option Value → Mm → Prop} {n : Nat} {V : Nat → Int32} (R : Rel D n V) (h12 : n ≤ 12) (ho : opV V) (hS : shE n V) (hq : ∀ D2, (∀ h, h < 6 → D2 166 h = vParts n V h) → (∀ q, q ≠ 166 → q ≠ 168 → D2 q = D q) → Q none D2) : Ct (d + 4) 15 [.ref 165, .ref 1] D Q := by
  obtain ⟨P, c, H⟩ := hS
  by_cases hA : mClaims n V = 0
  · refine K_divide0 R h12 ho hA (hq _ (fun h hh => ?_) (fun q a b => sg_F a b))
    rw [sg_a (by decide), fil6 h hh]
    unfold vParts
    rw [ifp_t hA]
  · have hC := H.zero hA
    have h5 := (H.pos hC).2
    refine K_divide1 R h12 ho hA (H.left hC) (by omega) (hq _ (fun h hh => ?_) (fun q a b => sg_F a b))
    rw [sg_a (by decide)]
    exact H.div hC hh
theorem K_dl {d : Nat} {D : Mm} {Q : Option Value → Mm → Prop} {n : Nat} {V : Nat → Int32} (R : Rel D n V) (h12 : n ≤ 12) (ho : opV V) (hS : shE n V) (hq : ∀ D2, (∀ h, h < 6 → D2 167 h = vParts n V h) → (∀ q, q ≠ 167 → q ≠ 168 → D2 q = D q) → Q none D2) : Ct (d + 4) 17 [.ref 165, .ref 1] D Q := by
  obtain ⟨P, c, H⟩ := hS
  by_cases hA : mClaims n V = 0
  · refine K_deal0 R h12 ho hA (hq _ (fun h hh => ?_) (fun q a b => sg_F a b))
    rw [sg_a (by decide), fil6 h hh]
    unfold vParts
    rw [ifp_t hA]
  · have hC := H.zero hA
    refine K_deal1 R h12 ho hA H.1 H.2.2.2.2 (hq _ (fun h hh => ?_) (fun q a b => sg_F a b))
    rw [sg_a (by decide)]
    exact H.deal hC hh
theorem vSh_eq {P V : Nat → Int32} {h : Nat} : vSh P h V = vup (vup V (6 + 4 * h + 2) (V (6 + 4 * h + 2) + P h)) (6 + 4 * h + 3) (nI 0) := rfl
theorem Sh_lo {P V : Nat → Int32} {j : Nat} : ∀ i, (∀ h, h < i → j ≠ 6 + 4 * h + 2 ∧ j ≠ 6 + 4 * h + 3) → itr (vSh P) i V j = V j := by
  intro i
  induction i with
  | zero => intro _; rfl
  | succ i ih =>
    intro h
    show vSh P i (itr (vSh P) i V) j = V j
    rw [vSh_eq]
    rw [updJ (h i (by omega)).2, updJ (h i (by omega)).1]
    exact ih (fun k hk => h k (by omega))
theorem Sh_p {P V : Nat → Int32} {h : Nat} : ∀ i, h < i → itr (vSh P) i V (6 + 4 * h + 3) = nI 0 := by
  intro i
  induction i with
  | zero => intro g; exact absurd g (Nat.not_lt_zero h)
  | succ i ih =>
    intro g
    show vSh P i (itr (vSh P) i V) (6 + 4 * h + 3) = nI 0
    rw [vSh_eq]
    by_cases e : h = i
    · rw [e, updE]
    · rw [updJ (by omega), updJ (by omega)]
      exact ih (by omega)
theorem Sh_s {P V : Nat → Int32} {h : Nat} : ∀ i, h < i → itr (vSh P) i V (6 + 4 * h + 2) = V (6 + 4 * h + 2) + P h := by
  intro i
  induction i with
  | zero => intro g; exact absurd g (Nat.not_lt_zero h)
  | succ i ih =>
    intro g
    show vSh P i (itr (vSh P) i V) (6 + 4 * h + 2) = _
    rw [vSh_eq]
    by_cases e : h = i
    · rw [e, updJ (by omega), updE, Sh_lo i (fun k hk => ⟨by omega, by omega⟩)]
    · rw [updJ (by omega), updJ (by omega)]
      exact ih (by omega)
theorem Sh_mP {P V : Nat → Int32} : mPooled (itr (vSh P) 6 V) = nI 0 := by
  unfold mPooled
  rw [sumN_nI (g := fun _ => 0) 6 (fun h hh => Sh_p 6 hh)]
  rfl
theorem nI_n0 {x : Int32} : (x = nI 0) = (x = 0) := by rw [nI_0]
set_option maxHeartbeats 100000 in
theorem K_D {d : Nat} {D : Mm} {Q : Option Value → Mm → Prop} {n : Nat} {V : Nat → Int32} (R : Rel D n V) (h12 : n ≤ 12) (hn : V 0 = nI n) (ho : opV V) (hS : shE n V) (h : OutX (vShares n V) D Q) : Ct (d + 6) 93 [.ref 0] D Q := by
  refine ent m93 rfl rfl (ls := [.ref 0, .retAddr 0, .retAddr 0]) rfl ?_
  refine w_ald0 i93_0 ?_
  refine w_gfR i93_1 (by decide) s_0 rfl ?_
  refine w_gfI i93_4 (by decide) s_1 rfl R.pl ?_
  refine w_ine i93_7 g93_7  (fun h7 => ?_) (fun h7 => ?_)
  · skip
    refine w_ald0 i93_27 ?_
    refine w_gfR i93_28 (by decide) s_0 rfl ?_
    refine w_vI1 i93_31 c22 (Or.inl rfl) ⟨by decide +kernel, by decide⟩ rfl ⟨rfl, Nat.le_of_ble_eq_true rfl⟩ (K_allClaims R h12 ho) ?_
    refine w_ine i93_34 g93_34  (fun h34 => ?_) (fun h34 => ?_)
    · skip
      refine w_ald0 i93_51 ?_
      refine w_gfR i93_52 (by decide) s_0 rfl ?_
      refine w_ald0 i93_55 ?_
      refine w_gfR i93_56 (by decide) s_0 rfl ?_
      refine w_vG2 i93_59 c15 (Or.inl rfl) ⟨by decide +kernel, by decide⟩ rfl ⟨rfl, Nat.le_of_ble_eq_true rfl⟩ ?_
      have hX := OutXF (OutXF h h7) h34
      refine K_div R h12 ho hS (fun D2 g1 g2 => ?_)
      have LL : ∀ k i (D1 : Mm), i + k = 6 → Rel (mup D1 1 5 (mPooled (itr (vSh (vParts n V)) i V))) n (itr (vSh (vParts n V)) i V) → (∀ h, h < 6 → D1 166 h = vParts n V h) → (∀ q, (q < 1 ∨ 14 < q) → q ≠ 166 → q ≠ 167 → q ≠ 168 → D1 q = D q) → Wp (d + 5) 93 Q 66 [.ref 0, .int (sumN i (fun h => ifp (vParts n V h ≤ 0) (nI 0) (nI 1))), .int (nI i)] [] D1 := by
        intro k
        induction k with
        | zero =>
          intro i D1 hk gR gp gf
          have h6 : i = 6 := by omega
          subst h6
          rw [Sh_mP] at gR
          refine w_ild2 i93_66 ?_
          refine w_bip i93_67 kb_6 ?_
          refine w_cgeNT i93_69 g93_69 (by omega) (by omega) (by omega) ?_
          refine w_ald0 i93_129 ?_
          refine w_gfR i93_130 (by decide) s_0 rfl ?_
          refine w_const i93_133 kc_0 ?_
          refine w_pf0 i93_134 (by decide) s_1 rfl ?_
          refine w_ild1 i93_137 ?_
          refine w_ri i93_138 r93 ?_
          refine hX _ ?_ (fun q h a b c => (mupF (by omega)).trans (gf q h a b c))
          rw [show itr (vSh (vParts n V)) 6 V 0 = nI n from (Sh_lo 6 (fun k hk => ⟨by omega, by omega⟩)).trans hn, cl_nI (by omega)]
          exact gR
        | succ k ih =>
          intro i D1 hk gR gp gf
          have hi : i < 6 := by omega
          have e2 : itr (vSh (vParts n V)) i V (6 + 4 * i + 2) = V (6 + 4 * i + 2) := Sh_lo i (fun k hk => ⟨by omega, by omega⟩)
          have r13 : D1 13 i = itr (vSh (vParts n V)) i V (6 + 4 * i + 2) := (mupC (by decide)).symm.trans (gR.c13 hi)
          have eI : itr (vSh (vParts n V)) (i + 1) V = vSh (vParts n V) i (itr (vSh (vParts n V)) i V) := rfl
          refine w_ild2 i93_66 ?_
          refine w_bip i93_67 kb_6 ?_
          refine w_cgeNF i93_69 (by omega) (by omega) (by omega) ?_
          refine w_ald0 i93_72 ?_
          refine w_gfR i93_73 (by decide) s_0 rfl ?_
          refine w_gfR i93_76 (by decide) s_1 rfl ?_
          refine w_ild2 i93_79 ?_
          refine w_dup2 i93_80 rfl rfl ?_
          refine w_ial i93_81 s_13 (by decide) (by omega) r13 ?_
          refine w_ald0 i93_82 ?_
          refine w_gfR i93_83 (by decide) s_0 rfl ?_
          refine w_gfR i93_86 (by decide) s_165 rfl ?_
          refine w_ild2 i93_89 ?_
          refine w_ial i93_90 s_166 (by decide) (by omega) (gp i hi) ?_
          refine w_iadd i93_91 rfl ?_
          refine w_ias i93_92 s_13 (by decide) (by omega) ?_
          refine w_ald0 i93_93 ?_
          refine w_gfR i93_94 (by decide) s_0 rfl ?_
          refine w_gfR i93_97 (by decide) s_1 rfl ?_
          refine w_ild2 i93_100 ?_
          refine w_const i93_101 kc_0 ?_
          refine w_ias i93_102 s_14 (by decide) (by omega) ?_
          refine w_ild1 i93_103 ?_
          refine w_ald0 i93_104 ?_
          refine w_gfR i93_105 (by decide) s_0 rfl ?_
          refine w_gfR i93_108 (by decide) s_165 rfl ?_
          refine w_ild2 i93_111 ?_
          refine w_ial i93_112 s_166 (by decide) (by omega) ((mupC (by decide)).trans ((mupC (by decide)).trans (gp i hi))) ?_
          have g3 := rel_pooled (rel_store (x := itr (vSh (vParts n V)) i V (6 + 4 * i + 2) + vParts n V i) gR hi) hi (x := nI 0) rfl
          rw [mup_comm (c := 1) (c2 := 13) (by decide), mup_comm (c := 1) (c2 := 14) (by decide), mup_up] at g3
          have gp2 : ∀ h, h < 6 → mup (mup D1 13 i (itr (vSh (vParts n V)) i V (6 + 4 * i + 2) + vParts n V i)) 14 i (nI 0) 166 h = vParts n V h := fun h hh => (mupC (by decide)).trans ((mupC (by decide)).trans (gp h hh))
          have gf2 : ∀ q, (q < 1 ∨ 14 < q) → q ≠ 166 → q ≠ 167 → q ≠ 168 → mup (mup D1 13 i (itr (vSh (vParts n V)) i V (6 + 4 * i + 2) + vParts n V i)) 14 i (nI 0) q = D q := fun q h a b c => (mupF (by omega)).trans ((mupF (by omega)).trans (gf q h a b c))
          have ih2 := ih (i + 1) _ (by omega) g3 gp2 gf2
          rw [sumS] at ih2
          refine w_ile i93_113 g93_113 (fun h113 => ?_) (fun h113 => ?_)
          · refine w_const i93_120 kc_0 ?_
            refine w_iadd i93_121 rfl ?_
            refine w_ist1 i93_122 ?_
            refine w_inc2 i93_123 (inc1 _) ?_
            refine w_goto i93_126 g93_126 ?_
            rw [ifp_t h113] at ih2
            exact ih2
          · refine w_const i93_116 kc_1 ?_
            refine w_goto i93_117 g93_117 ?_
            refine w_iadd i93_121 rfl ?_
            refine w_ist1 i93_122 ?_
            refine w_inc2 i93_123 (inc1 _) ?_
            refine w_goto i93_126 g93_126 ?_
            rw [ifp_f (Int32.not_le.mpr h113)] at ih2
            exact ih2
      refine w_const i93_62 kc_0 ?_
      refine w_ist1 i93_63 ?_
      refine w_const i93_64 kc_0 ?_
      refine w_ist2 i93_65 ?_
      refine LL 6 0 D2 rfl ?_ g1 (fun q _ a b c => g2 q a c)
      have g3 : Rel D2 n V := R.fr (fun q _ hq2 => g2 q (by omega) (by omega))
      show Rel (mup D2 1 5 (mPooled V)) n V
      rw [mup_id g3.pl]
      exact g3
    · skip
      refine w_ald0 i93_37 ?_
      refine w_bip i93_38 kb_12 ?_
      refine w_ald0 i93_40 ?_
      refine w_gfR i93_41 (by decide) s_0 rfl ?_
      refine w_gfI i93_44 (by decide) s_1 rfl R.pl ?_
      refine w_vI3 i93_47 c102 (Or.inl rfl) ⟨by decide +kernel, by decide⟩ rfl ⟨rfl, Nat.le_of_ble_eq_true rfl⟩ K_refuse ?_
      refine w_ri i93_50 r93 ?_
      exact OutX_1 (OutXT (OutXF h h7) h34)
  · skip
    refine w_ald0 i93_10 ?_
    refine w_bip i93_11 kb_11 ?_
    refine w_ald0 i93_13 ?_
    refine w_gfR i93_14 (by decide) s_0 rfl ?_
    refine w_gfR i93_17 (by decide) s_1 rfl ?_
    refine w_gfI i93_20 (by decide) s_2 rfl R.ct ?_
    refine w_vI3 i93_23 c102 (Or.inl rfl) ⟨by decide +kernel, by decide⟩ rfl ⟨rfl, Nat.le_of_ble_eq_true rfl⟩ K_refuse ?_
    refine w_ri i93_26 r93 ?_
    exact OutX_1 (OutXT h h7)
set_option maxHeartbeats 100000 in
theorem K_part_bad {d : Nat} {D : Mm} {a : Int32} (hb : badH a) : Ct (d + 7) 61 [.ref 0, .int a] D (Ex (some (.int (-1011))) D) := by
  refine ent m61 rfl rfl (ls := [.ref 0, .int a]) rfl ?_
  refine w_ild1 i61_0 ?_
  refine w_sI1 i61_1 c99 rfl  rfl ⟨rfl, Nat.le_of_ble_eq_true rfl⟩ (K_isHouse_f hb) ?_
  refine w_ineNF i61_4 (by omega) (by omega) ?_
  refine w_sip i61_7 ks_m1011 ?_
  refine w_ri i61_10 r61 ?_
  exact ⟨rfl, rfl⟩
set_option maxHeartbeats 100000 in
theorem K_part {d : Nat} {D : Mm} {Q : Option Value → Mm → Prop} {n : Nat} {V : Nat → Int32} (R : Rel D n V) (h12 : n ≤ 12) (ho : opV V) (hS : shE n V) {j : Nat} (hj : j < 6) (hq : ∀ D2, FrS D D2 → Q (some (.int (vParts n V j))) D2) : Ct (d + 7) 61 [.ref 0, .int (nI j)] D Q := by
  refine ent m61 rfl rfl (ls := [.ref 0, .int (nI j)]) rfl ?_
  refine w_ild1 i61_0 ?_
  refine w_sI1 i61_1 c99 rfl  rfl ⟨rfl, Nat.le_of_ble_eq_true rfl⟩ (K_isHouse_t hj) ?_
  refine w_ineNT i61_4 g61_4 (by omega) (by omega) ?_
  refine w_ald0 i61_11 ?_
  refine w_gfR i61_12 (by decide) s_0 rfl ?_
  refine w_ald0 i61_15 ?_
  refine w_gfR i61_16 (by decide) s_0 rfl ?_
  refine w_vG2 i61_19 c15 (Or.inl rfl) ⟨by decide +kernel, by decide⟩ rfl ⟨rfl, Nat.le_of_ble_eq_true rfl⟩ ?_
  refine K_div R h12 ho hS (fun D2 g1 g2 => ?_)
  refine w_ald0 i61_22 ?_
  refine w_gfR i61_23 (by decide) s_0 rfl ?_
  refine w_gfR i61_26 (by decide) s_165 rfl ?_
  refine w_ild1 i61_29 ?_
  refine w_ial i61_30 s_166 (by decide) (by omega) (g1 j hj) ?_
  refine w_ri i61_31 r61 ?_
  exact hq _ (fun q a b c => g2 q (by assumption) c)
set_option maxHeartbeats 100000 in
theorem K_partA_bad {d : Nat} {D : Mm} {a : Int32} (hb : badH a) : Ct (d + 7) 62 [.ref 0, .int a] D (Ex (some (.int (-1011))) D) := by
  refine ent m62 rfl rfl (ls := [.ref 0, .int a]) rfl ?_
  refine w_ild1 i62_0 ?_
  refine w_sI1 i62_1 c99 rfl  rfl ⟨rfl, Nat.le_of_ble_eq_true rfl⟩ (K_isHouse_f hb) ?_
  refine w_ineNF i62_4 (by omega) (by omega) ?_
  refine w_sip i62_7 ks_m1011 ?_
  refine w_ri i62_10 r62 ?_
  exact ⟨rfl, rfl⟩
set_option maxHeartbeats 100000 in
theorem K_partA {d : Nat} {D : Mm} {Q : Option Value → Mm → Prop} {n : Nat} {V : Nat → Int32} (R : Rel D n V) (h12 : n ≤ 12) (ho : opV V) (hS : shE n V) {j : Nat} (hj : j < 6) (hq : ∀ D2, FrS D D2 → Q (some (.int (vParts n V j))) D2) : Ct (d + 7) 62 [.ref 0, .int (nI j)] D Q := by
  refine ent m62 rfl rfl (ls := [.ref 0, .int (nI j)]) rfl ?_
  refine w_ild1 i62_0 ?_
  refine w_sI1 i62_1 c99 rfl  rfl ⟨rfl, Nat.le_of_ble_eq_true rfl⟩ (K_isHouse_t hj) ?_
  refine w_ineNT i62_4 g62_4 (by omega) (by omega) ?_
  refine w_ald0 i62_11 ?_
  refine w_gfR i62_12 (by decide) s_0 rfl ?_
  refine w_ald0 i62_15 ?_
  refine w_gfR i62_16 (by decide) s_0 rfl ?_
  refine w_vG2 i62_19 c17 (Or.inl rfl) ⟨by decide +kernel, by decide⟩ rfl ⟨rfl, Nat.le_of_ble_eq_true rfl⟩ ?_
  refine K_dl R h12 ho hS (fun D2 g1 g2 => ?_)
  refine w_ald0 i62_22 ?_
  refine w_gfR i62_23 (by decide) s_0 rfl ?_
  refine w_gfR i62_26 (by decide) s_165 rfl ?_
  refine w_ild1 i62_29 ?_
  refine w_ial i62_30 s_167 (by decide) (by omega) (g1 j hj) ?_
  refine w_ri i62_31 r62 ?_
  exact hq _ (fun q a b c => g2 q (by assumption) c)
set_option maxHeartbeats 100000 in
theorem K_wax {d : Nat} {D : Mm} {n : Nat} {V : Nat → Int32} (R : Rel D n V) (h12 : n ≤ 12) (hb : V 1 = mOfAll n V 1 + mStores V + mPooled V + V 2) : Ct (d + 3) 105 [.ref 0] D (Ex (some (.int (nI 1))) D) := by
  refine ent m105 rfl rfl (ls := [.ref 0, .retAddr 0]) rfl ?_
  refine w_ald0 i105_0 ?_
  refine w_gfR i105_1 (by decide) s_0 rfl ?_
  refine w_gfR i105_4 (by decide) s_1 rfl ?_
  refine w_vI1 i105_7 c50 (Or.inl rfl) ⟨by decide +kernel, by decide⟩ rfl ⟨rfl, Nat.le_of_ble_eq_true rfl⟩ (K_allWax R h12) ?_
  refine w_ald0 i105_10 ?_
  refine w_gfR i105_11 (by decide) s_0 rfl ?_
  refine w_vI1 i105_14 c23 (Or.inl rfl) ⟨by decide +kernel, by decide⟩ rfl ⟨rfl, Nat.le_of_ble_eq_true rfl⟩ (K_allStores R h12) ?_
  refine w_iadd i105_17 rfl ?_
  refine w_ald0 i105_18 ?_
  refine w_gfR i105_19 (by decide) s_0 rfl ?_
  refine w_gfI i105_22 (by decide) s_1 rfl R.pl ?_
  refine w_iadd i105_25 rfl ?_
  refine w_ist1 i105_26 ?_
  refine w_ald0 i105_27 ?_
  refine w_gfR i105_28 (by decide) s_0 rfl ?_
  refine w_gfI i105_31 (by decide) s_1 rfl R.f6 ?_
  refine w_ild1 i105_34 ?_
  refine w_ald0 i105_35 ?_
  refine w_gfR i105_36 (by decide) s_0 rfl ?_
  refine w_gfI i105_39 (by decide) s_1 rfl R.f7 ?_
  refine w_iadd i105_42 rfl ?_
  refine w_cneF i105_43  hb ?_
  refine w_ald0 i105_46 ?_
  refine w_gfR i105_47 (by decide) s_0 rfl ?_
  refine w_gfI i105_50 (by decide) s_1 rfl R.pl ?_
  refine w_ald0 i105_53 ?_
  refine w_gfR i105_54 (by decide) s_0 rfl ?_
  refine w_vI1 i105_57 c24 (Or.inl rfl) ⟨by decide +kernel, by decide⟩ rfl ⟨rfl, Nat.le_of_ble_eq_true rfl⟩ (K_allPooled R h12) ?_
  refine w_cneF i105_60  rfl ?_
  refine w_const i105_63 kc_1 ?_
  refine w_goto i105_64 g105_64 ?_
  refine w_rz i105_68 r105 nar_z1 ?_
  exact ⟨rfl, rfl⟩
set_option maxHeartbeats 100000 in
theorem K_wts {d : Nat} {D : Mm} {n : Nat} {V : Nat → Int32} (R : Rel D n V) (h12 : n ≤ 12) (hw : ∀ h, h < 6 → wbo n V (nI h) = mTray n V (nI h)) : Ct (d + 4) 107 [.ref 0] D (Ex (some (.int (nI 1))) D) := by
  refine ent m107 rfl rfl (ls := [.ref 0, .retAddr 0]) rfl ?_
  refine w_const i107_0 kc_0 ?_
  refine w_ist1 i107_1 ?_
  refine down0 (n := 6) (P := fun i => Wp _ _ _ 2 [.ref 0, .int (nI i)] [] D) ?_ ?_
  · skip
    refine w_ild1 i107_2 ?_
    refine w_bip i107_3 kb_6 ?_
    refine w_cgeNT i107_5 g107_5 (by omega) (by omega) (by omega) ?_
    refine w_const i107_41 kc_1 ?_
    refine w_rz i107_42 r107 nar_z1 ?_
    exact ⟨rfl, rfl⟩
  · intro i hi ih
    refine w_ild1 i107_2 ?_
    refine w_bip i107_3 kb_6 ?_
    refine w_cgeNF i107_5 (by omega) (by omega) (by omega) ?_
    refine w_ald0 i107_8 ?_
    refine w_gfR i107_9 (by decide) s_0 rfl ?_
    refine w_gfR i107_12 (by decide) s_1 rfl ?_
    refine w_ild1 i107_15 ?_
    refine w_vI2 i107_16 c43 (Or.inl rfl) ⟨by decide +kernel, by decide⟩ rfl ⟨rfl, Nat.le_of_ble_eq_true rfl⟩ (K_weightOn R h12) ?_
    refine w_ald0 i107_19 ?_
    refine w_gfR i107_20 (by decide) s_0 rfl ?_
    refine w_gfR i107_23 (by decide) s_1 rfl ?_
    refine w_ild1 i107_26 ?_
    refine w_vI2 i107_27 c44 (Or.inl rfl) ⟨by decide +kernel, by decide⟩ rfl ⟨rfl, Nat.le_of_ble_eq_true rfl⟩ (K_wbo R h12) ?_
    refine w_ceqT i107_30 g107_30  (hw i hi).symm ?_
    refine w_inc1 i107_35 (inc1 _) ?_
    refine w_goto i107_38 g107_38 ?_
    exact ih
theorem sum_parts {n : Nat} {V : Nat → Int32} (hS : shE n V) (hA : ¬ mClaims n V = 0) : sumN 6 (vParts n V) = mPooled V := by
  obtain ⟨P, c, H⟩ := hS
  obtain ⟨z, h1, h2⟩ := H.sum (H.zero hA)
  rw [sumN_nI 6 h1, h2, H.1]
set_option maxHeartbeats 100000 in
theorem K_shs {d : Nat} {D : Mm} {Q : Option Value → Mm → Prop} {n : Nat} {V : Nat → Int32} (R : Rel D n V) (h12 : n ≤ 12) (ho : opV V) (hS : shE n V) (hq : ∀ D2, FrS D D2 → Q (some (.int (nI 1))) D2) : Ct (d + 6) 106 [.ref 0] D Q := by
  refine ent m106 rfl rfl (ls := [.ref 0, .retAddr 0, .retAddr 0]) rfl ?_
  refine w_ald0 i106_0 ?_
  refine w_gfR i106_1 (by decide) s_0 rfl ?_
  refine w_ald0 i106_4 ?_
  refine w_gfR i106_5 (by decide) s_0 rfl ?_
  refine w_vG2 i106_8 c15 (Or.inl rfl) ⟨by decide +kernel, by decide⟩ rfl ⟨rfl, Nat.le_of_ble_eq_true rfl⟩ ?_
  refine K_div R h12 ho hS (fun D2 g1 g2 => ?_)
  have fS2 : FrS D D2 := fun q a b c => g2 q a c
  refine w_ald0 i106_11 ?_
  refine w_gfR i106_12 (by decide) s_0 rfl ?_
  refine w_ald0 i106_15 ?_
  refine w_gfR i106_16 (by decide) s_0 rfl ?_
  refine w_vG2 i106_19 c17 (Or.inl rfl) ⟨by decide +kernel, by decide⟩ rfl ⟨rfl, Nat.le_of_ble_eq_true rfl⟩ ?_
  refine K_dl (R.frS fS2) h12 ho hS (fun D3 g3 g4 => ?_)
  have fS3 : FrS D D3 := fS2.tr (fun q a b c => g4 q b c)
  have R3 := R.frS fS3
  refine w_const i106_22 kc_0 ?_
  refine w_ist1 i106_23 ?_
  refine w_const i106_24 kc_0 ?_
  refine w_ist2 i106_25 ?_
  refine down0 (n := 6) (P := fun i => Wp _ _ _ 26 [.ref 0, .int (sumN i (vParts n V)), .int (nI i)] [] D3) ?_ ?_
  · skip
    refine w_ild2 i106_26 ?_
    refine w_bip i106_27 kb_6 ?_
    refine w_cgeNT i106_29 g106_29 (by omega) (by omega) (by omega) ?_
    refine w_ald0 i106_73 ?_
    refine w_gfR i106_74 (by decide) s_0 rfl ?_
    refine w_vI1 i106_77 c22 (Or.inl rfl) ⟨by decide +kernel, by decide⟩ rfl ⟨rfl, Nat.le_of_ble_eq_true rfl⟩ (K_allClaims R3 h12 ho) ?_
    refine w_ieq i106_80 g106_80  (fun h80 => ?_) (fun h80 => ?_)
    · skip
      refine w_const i106_94 kc_1 ?_
      refine w_goto i106_95 g106_95 ?_
      refine w_rz i106_99 r106 nar_z1 ?_
      exact hq _ fS3
    · skip
      refine w_ild1 i106_83 ?_
      refine w_ald0 i106_84 ?_
      refine w_gfR i106_85 (by decide) s_0 rfl ?_
      refine w_gfI i106_88 (by decide) s_1 rfl R3.pl ?_
      refine w_cne i106_91 g106_91  (fun h91 => ?_) (fun h91 => ?_)
      · skip
        exact absurd (sum_parts hS h80) h91
      · skip
        refine w_const i106_94 kc_1 ?_
        refine w_goto i106_95 g106_95 ?_
        refine w_rz i106_99 r106 nar_z1 ?_
        exact hq _ fS3
  · intro i hi ih
    refine w_ild2 i106_26 ?_
    refine w_bip i106_27 kb_6 ?_
    refine w_cgeNF i106_29 (by omega) (by omega) (by omega) ?_
    refine w_ald0 i106_32 ?_
    refine w_gfR i106_33 (by decide) s_0 rfl ?_
    refine w_gfR i106_36 (by decide) s_165 rfl ?_
    refine w_ild2 i106_39 ?_
    refine w_ial i106_40 s_166 (by decide) (by omega) ((congrFun (g4 166 (by decide) (by decide)) i).trans (g1 i hi)) ?_
    refine w_ald0 i106_41 ?_
    refine w_gfR i106_42 (by decide) s_0 rfl ?_
    refine w_gfR i106_45 (by decide) s_165 rfl ?_
    refine w_ild2 i106_48 ?_
    refine w_ial i106_49 s_167 (by decide) (by omega) (g3 i hi) ?_
    refine w_ceqT i106_50 g106_50  rfl ?_
    refine w_ild1 i106_55 ?_
    refine w_ald0 i106_56 ?_
    refine w_gfR i106_57 (by decide) s_0 rfl ?_
    refine w_gfR i106_60 (by decide) s_165 rfl ?_
    refine w_ild2 i106_63 ?_
    refine w_ial i106_64 s_166 (by decide) (by omega) ((congrFun (g4 166 (by decide) (by decide)) i).trans (g1 i hi)) ?_
    refine w_iadd i106_65 rfl ?_
    refine w_ist1 i106_66 ?_
    refine w_inc2 i106_67 (inc1 _) ?_
    refine w_goto i106_70 g106_70 ?_
    rw [sumS] at ih; exact ih
set_option maxHeartbeats 100000 in
theorem K_isBal {d : Nat} {D : Mm} {Q : Option Value → Mm → Prop} {n : Nat} {V : Nat → Int32} (R : Rel D n V) (h12 : n ≤ 12) (ho : opV V) (hS : shE n V) (hb : V 1 = mOfAll n V 1 + mStores V + mPooled V + V 2) (hw : ∀ h, h < 6 → wbo n V (nI h) = mTray n V (nI h)) (hq : ∀ D2, FrS D D2 → Q (some (.int (nI 1))) D2) : Ct (d + 7) 81 [.ref 0] D Q := by
  refine ent m81 rfl rfl (ls := [.ref 0]) rfl ?_
  refine w_ald0 i81_0 ?_
  refine w_vI1 i81_1 c105 (Or.inl rfl) ⟨by decide +kernel, by decide⟩ rfl ⟨rfl, Nat.le_of_ble_eq_true rfl⟩ (K_wax R h12 hb) ?_
  refine w_ieqNF i81_4 (by omega) (by omega) ?_
  refine w_ald0 i81_7 ?_
  refine w_vG1 i81_8 c106 (Or.inl rfl) ⟨by decide +kernel, by decide⟩ rfl ⟨rfl, Nat.le_of_ble_eq_true rfl⟩ ?_
  refine K_shs R h12 ho hS (fun D2 f => ?_)
  refine w_ieqNF i81_11 (by omega) (by omega) ?_
  refine w_ald0 i81_14 ?_
  refine w_vI1 i81_15 c107 (Or.inl rfl) ⟨by decide +kernel, by decide⟩ rfl ⟨rfl, Nat.le_of_ble_eq_true rfl⟩ (K_wts (R.frS f) h12 hw) ?_
  refine w_ieqNF i81_18 (by omega) (by omega) ?_
  refine w_const i81_21 kc_1 ?_
  refine w_goto i81_22 g81_22 ?_
  refine w_ri i81_26 r81 ?_
  exact hq _ f
