/-! the class, copies -/
/-- a state as an object, with its rows behind it -/
def StA (b : Nat) : Prop := (sh b = (5, 11, [some (b + 1), some (b + 10), some (b + 11), some (b + 12), some (b + 13), none, none, none, none, none, none]) ∧ b < 180 ∧ rk b = nC 19) ∧ StS (b + 1) ∧ sh (b + 10) = (21, 6, []) ∧ sh (b + 11) = (20, 6, []) ∧ sh (b + 12) = (20, 6, []) ∧ sh (b + 13) = (20, 6, [])
theorem StS.k33 {p : Nat} (h : StS p) : rk p = nC 33 ∧ p < 1010 := ⟨h.1.2.2.trans (by decide +kernel), by have := h.1.2.1; omega⟩
theorem StS.k34 {p : Nat} (h : StS p) : rk p = nC 34 ∧ p < 1010 := ⟨h.1.2.2, by have := h.1.2.1; omega⟩
theorem StA.k19 {p : Nat} (h : StA p) : rk p = nC 19 ∧ p < 1010 := ⟨h.1.2.2, by have := h.1.2.1; omega⟩
theorem StA_t {t : Nat} (h : t < 11) : StA (1 + 14 * t) := by
  rcases (by omega : t = 0 ∨ t = 1 ∨ t = 2 ∨ t = 3 ∨ t = 4 ∨ t = 5 ∨ t = 6 ∨ t = 7 ∨ t = 8 ∨ t = 9 ∨ t = 10) with e | e | e | e | e | e | e | e | e | e | e
  · subst e; exact ⟨⟨s_1, by decide, by decide +kernel⟩, ⟨⟨s_2, by decide, by decide +kernel⟩, s_3, s_4, s_5, s_6, s_7, s_8, s_9, s_10⟩, s_11, s_12, s_13, s_14⟩
  · subst e; exact ⟨⟨s_15, by decide, by decide +kernel⟩, ⟨⟨s_16, by decide, by decide +kernel⟩, s_17, s_18, s_19, s_20, s_21, s_22, s_23, s_24⟩, s_25, s_26, s_27, s_28⟩
  · subst e; exact ⟨⟨s_29, by decide, by decide +kernel⟩, ⟨⟨s_30, by decide, by decide +kernel⟩, s_31, s_32, s_33, s_34, s_35, s_36, s_37, s_38⟩, s_39, s_40, s_41, s_42⟩
  · subst e; exact ⟨⟨s_43, by decide, by decide +kernel⟩, ⟨⟨s_44, by decide, by decide +kernel⟩, s_45, s_46, s_47, s_48, s_49, s_50, s_51, s_52⟩, s_53, s_54, s_55, s_56⟩
  · subst e; exact ⟨⟨s_57, by decide, by decide +kernel⟩, ⟨⟨s_58, by decide, by decide +kernel⟩, s_59, s_60, s_61, s_62, s_63, s_64, s_65, s_66⟩, s_67, s_68, s_69, s_70⟩
  · subst e; exact ⟨⟨s_71, by decide, by decide +kernel⟩, ⟨⟨s_72, by decide, by decide +kernel⟩, s_73, s_74, s_75, s_76, s_77, s_78, s_79, s_80⟩, s_81, s_82, s_83, s_84⟩
  · subst e; exact ⟨⟨s_85, by decide, by decide +kernel⟩, ⟨⟨s_86, by decide, by decide +kernel⟩, s_87, s_88, s_89, s_90, s_91, s_92, s_93, s_94⟩, s_95, s_96, s_97, s_98⟩
  · subst e; exact ⟨⟨s_99, by decide, by decide +kernel⟩, ⟨⟨s_100, by decide, by decide +kernel⟩, s_101, s_102, s_103, s_104, s_105, s_106, s_107, s_108⟩, s_109, s_110, s_111, s_112⟩
  · subst e; exact ⟨⟨s_113, by decide, by decide +kernel⟩, ⟨⟨s_114, by decide, by decide +kernel⟩, s_115, s_116, s_117, s_118, s_119, s_120, s_121, s_122⟩, s_123, s_124, s_125, s_126⟩
  · subst e; exact ⟨⟨s_127, by decide, by decide +kernel⟩, ⟨⟨s_128, by decide, by decide +kernel⟩, s_129, s_130, s_131, s_132, s_133, s_134, s_135, s_136⟩, s_137, s_138, s_139, s_140⟩
  · subst e; exact ⟨⟨s_141, by decide, by decide +kernel⟩, ⟨⟨s_142, by decide, by decide +kernel⟩, s_143, s_144, s_145, s_146, s_147, s_148, s_149, s_150⟩, s_151, s_152, s_153, s_154⟩
theorem nv_ref {p : Nat} (h : p < 181) : nvB (.ref p) = true := by
  have h1 : (p == 181) = false := beq_eq_false_iff_ne.mpr (by omega)
  have h2 : (p == 182) = false := beq_eq_false_iff_ne.mpr (by omega)
  show (!(p == 181) && !(p == 182) && decide (p < 5000)) = true
  rw [h1, h2, decide_eq_true (by omega)]; rfl
def cpL (D : Mm) (p q i : Nat) : Mm := fun k j => if p + 1 ≤ k ∧ k ≤ p + 8 ∧ j < i then D (q + (k - p)) j else D k j
theorem cpL0 {D : Mm} {p q : Nat} : cpL D p q 0 = D := by funext k j; unfold cpL; rw [if_neg (by omega)]
theorem cpLS {D : Mm} {p q i : Nat} (h : p + 8 < q ∨ q + 8 < p) : cpS (cpL D p q i) p q i i = cpL D p q (i + 1) := by
  funext k j
  unfold cpS
  by_cases z : p + 1 ≤ k ∧ k ≤ p + 8 ∧ j = i
  · rw [if_pos z]
    unfold cpL
    rw [if_neg (by omega), if_pos (by omega), z.2.2]
  · rw [if_neg z]
    unfold cpL
    by_cases y : p + 1 ≤ k ∧ k ≤ p + 8 ∧ j < i
    · rw [if_pos y, if_pos (by omega)]
    · rw [if_neg y, if_neg (by omega)]
theorem cpL_F {D : Mm} {p q i k : Nat} (h : k < p + 1 ∨ p + 8 < k) : cpL D p q i k = D k := by funext j; unfold cpL; rw [if_neg (by omega)]
theorem cpL_at {D : Mm} {p q i j f : Nat} (h : 1 ≤ f) (h2 : f ≤ 8) (hj : j < i) : cpL D p q i (p + f) j = D (q + f) j := by unfold cpL; rw [if_pos (by omega), Nat.add_sub_cancel_left]
set_option maxHeartbeats 100000 in
theorem K_copyStubs {d : Nat} {D : Mm} {p q : Nat} (hp : StS p) (hq : StS q) (hpq : p + 8 < q ∨ q + 8 < p) : Ct (d + 2) 33 [.ref p, .ref q] D (Ex none (cpL (mup D p 8 (D q 8)) p q 12)) := by
  have np := nv_ref (p := p) (by have := hp.1.2.1; omega)
  have nq := nv_ref (p := q) (by have := hq.1.2.1; omega)
  refine ent m33 rfl rfl (ls := [.ref p, .ref q, .retAddr 0]) rfl ?_
  refine w_ald0 i33_0 ?_
  refine w_ald1 i33_1 ?_
  refine w_gfI i33_2 (by decide) hq.1.1 rfl rfl ?_
  refine w_pf0 i33_5 (by decide) hp.1.1 rfl ?_
  refine w_const i33_8 kc_0 ?_
  refine w_ist2 i33_9 ?_
  refine wpD (D2 := cpL (mup D p 8 (D q 8)) p q 0) cpL0.symm ?_
  refine down0 (n := 12) (P := fun i => Wp _ _ _ 10 [.ref p, .ref q, .int (nI i)] [] (cpL (mup D p 8 (D q 8)) p q i)) ?_ ?_
  · skip
    refine w_ild2 i33_10 ?_
    refine w_bip i33_11 kb_12 ?_
    refine w_cgeNT i33_13 g33_13 (by omega) (by omega) (by omega) ?_
    refine w_rv i33_29 r33 ?_
    exact ⟨rfl, rfl⟩
  · intro i hi ih
    refine w_ild2 i33_10 ?_
    refine w_bip i33_11 kb_12 ?_
    refine w_cgeNF i33_13 (by omega) (by omega) (by omega) ?_
    refine w_ald0 i33_16 ?_
    refine w_ild2 i33_17 ?_
    refine w_ald1 i33_18 ?_
    refine w_ild2 i33_19 ?_
    refine w_vV4 i33_20 c34 (Or.inl rfl) hp.k34 (by repeat (first | exact nv_nil | refine nv_cons (by first | rfl | assumption) ?_)) ⟨(by repeat (first | exact nv_nil | refine nv_cons (by first | rfl | assumption) ?_)), Nat.le_of_ble_eq_true rfl⟩ (K_copyStub hp hq (Or.inr hpq) (by omega) (by omega)) ?_
    refine w_inc2 i33_23 (inc1 _) ?_
    refine w_goto i33_26 g33_26 ?_
    rw [cpLS hpq]; exact ih
theorem nar_op {V : Nat → Int32} {h : Nat} (H : opV V) (hh : h < 6) : vp_nar .boolean (V (6 + 4 * h + 0)) = V (6 + 4 * h + 0) := by
  rcases H h hh with e | e <;> rw [e] <;> decide
set_option maxHeartbeats 100000 in
theorem K_copyFrom {d : Nat} {D : Mm} {Q : Option Value → Mm → Prop} {b c n : Nat} {V : Nat → Int32} (hb : StA b) (hc : StA c) (hbc : b + 13 < c ∨ c + 13 < b) (R : RelB D c n V) (h12 : n ≤ 12) (ho : opV V) (hq : ∀ D2, RelB D2 b n V → (∀ q, (q < b ∨ b + 13 < q) → D2 q = D q) → Q none D2) : Ct (d + 3) 19 [.ref b, .ref c] D Q := by
  have np := nv_ref (p := b) (by have := hb.1.2.1; omega)
  have nq := nv_ref (p := c) (by have := hc.1.2.1; omega)
  refine ent m19 rfl rfl (ls := [.ref b, .ref c, .retAddr 0]) rfl ?_
  refine w_ald0 i19_0 ?_
  refine w_gfR i19_1 (by decide) hb.1.1 rfl ?_
  refine w_ald1 i19_4 ?_
  refine w_gfR i19_5 (by decide) hc.1.1 rfl ?_
  refine w_vG2 i19_8 c33 (Or.inl rfl) hb.2.1.k33 (by repeat (first | exact nv_nil | refine nv_cons (by first | rfl | assumption) ?_)) ⟨(by repeat (first | exact nv_nil | refine nv_cons (by first | rfl | assumption) ?_)), Nat.le_of_ble_eq_true rfl⟩ ?_
  refine Ct_exq (K_copyStubs hb.2.1 hc.2.1 (by omega)) ?_
  have ct1 : cpL (mup D (b + 1) 8 (D (c + 1) 8)) (b + 1) (c + 1) 12 (b + 1) 8 = nI n := (congrFun (cpL_F (by omega)) 8).trans (mupE.trans R.1.1)
  have st1 : ∀ f, 1 ≤ f → f ≤ 8 → ∀ s, s < 12 → cpL (mup D (b + 1) 8 (D (c + 1) 8)) (b + 1) (c + 1) 12 (b + 1 + f) s = D (c + 1 + f) s := fun f h1 h2 s hs => (cpL_at h1 h2 hs).trans (mupC (by omega))
  have e1 : ∀ q, (q < b ∨ b + 13 < q) → cpL (mup D (b + 1) 8 (D (c + 1) 8)) (b + 1) (c + 1) 12 q = D q := fun q h => (cpL_F (by omega)).trans (mupF (by omega))
  have e2 : ∀ q, (q < b + 1 ∨ b + 9 < q) → cpL (mup D (b + 1) 8 (D (c + 1) 8)) (b + 1) (c + 1) 12 q = D q := fun q h => (cpL_F (by omega)).trans (mupF (by omega))
  generalize hDD : cpL (mup D (b + 1) 8 (D (c + 1) 8)) (b + 1) (c + 1) 12 = DD at ct1 st1 e1 e2
  refine w_const i19_11 kc_0 ?_
  refine w_ist2 i19_12 ?_
  have L13 : ∀ k i D1, i + k = 6 → (∀ h, h < i → D1 (b + 10) h = V (6 + 4 * h + 0) ∧ D1 (b + 11) h = V (6 + 4 * h + 1) ∧ D1 (b + 12) h = V (6 + 4 * h + 2) ∧ D1 (b + 13) h = V (6 + 4 * h + 3)) → (∀ q, (q < b + 10 ∨ b + 13 < q) → D1 q = DD q) → Wp (d + 2) 19 Q 13 [.ref b, .ref c, .int (nI i)] [] D1 := by
    intro k
    induction k with
    | zero =>
      intro i D1 hk g1 f1
      have h6 : i = 6 := by omega
      subst h6
      replace f1 : ∀ q, (q < b + 10 ∨ b + 13 < q) → D1 q = DD q := f1
      have fD : ∀ q, (q < b ∨ b + 13 < q) → D1 q = D q := fun q h => (f1 q (by omega)).trans (e1 q h)
      refine w_ild2 i19_13 ?_
      refine w_bip i19_14 kb_6 ?_
      refine w_cgeNT i19_16 g19_16 (by omega) (by omega) (by omega) ?_
      refine w_ald0 i19_73 ?_
      refine w_ald1 i19_74 ?_
      refine w_gfI i19_75 (by decide) hc.1.1 rfl ((congrFun (fD c (by omega)) 5).trans R.1.2.1) ?_
      refine w_pf0 i19_78 (by decide) hb.1.1 rfl ?_
      refine w_ald0 i19_81 ?_
      refine w_ald1 i19_82 ?_
      refine w_gfI i19_83 (by decide) hc.1.1 rfl (Eq.trans (mupC (by omega)) ((congrFun (fD c (by omega)) 6).trans R.1.2.2.1)) ?_
      refine w_pf0 i19_86 (by decide) hb.1.1 rfl ?_
      refine w_ald0 i19_89 ?_
      refine w_ald1 i19_90 ?_
      refine w_gfI i19_91 (by decide) hc.1.1 rfl (Eq.trans (mupC (by omega)) (Eq.trans (mupC (by omega)) ((congrFun (fD c (by omega)) 7).trans R.1.2.2.2.1))) ?_
      refine w_pf0 i19_94 (by decide) hb.1.1 rfl ?_
      refine w_ald0 i19_97 ?_
      refine w_ald1 i19_98 ?_
      refine w_gfI i19_99 (by decide) hc.1.1 rfl (Eq.trans (mupC (by omega)) (Eq.trans (mupC (by omega)) (Eq.trans (mupC (by omega)) ((congrFun (fD c (by omega)) 8).trans R.1.2.2.2.2.1)))) ?_
      refine w_pf0 i19_102 (by decide) hb.1.1 rfl ?_
      refine w_ald0 i19_105 ?_
      refine w_ald1 i19_106 ?_
      refine w_gfI i19_107 (by decide) hc.1.1 rfl (Eq.trans (mupC (by omega)) (Eq.trans (mupC (by omega)) (Eq.trans (mupC (by omega)) (Eq.trans (mupC (by omega)) ((congrFun (fD c (by omega)) 9).trans R.1.2.2.2.2.2.1))))) ?_
      refine w_pf0 i19_110 (by decide) hb.1.1 rfl ?_
      refine w_ald0 i19_113 ?_
      refine w_ald1 i19_114 ?_
      refine w_gfI i19_115 (by decide) hc.1.1 rfl (Eq.trans (mupC (by omega)) (Eq.trans (mupC (by omega)) (Eq.trans (mupC (by omega)) (Eq.trans (mupC (by omega)) (Eq.trans (mupC (by omega)) ((congrFun (fD c (by omega)) 10).trans R.1.2.2.2.2.2.2)))))) ?_
      refine w_pf0 i19_118 (by decide) hb.1.1 rfl ?_
      refine w_rv i19_121 r19 ?_
      refine hq _ ⟨⟨Eq.trans (mupC (by omega)) (Eq.trans (mupC (by omega)) (Eq.trans (mupC (by omega)) (Eq.trans (mupC (by omega)) (Eq.trans (mupC (by omega)) (Eq.trans (mupC (by omega)) ((congrFun (f1 (b + 1) (by omega)) 8).trans ct1)))))), Eq.trans (mupJ (by decide)) (Eq.trans (mupJ (by decide)) (Eq.trans (mupJ (by decide)) (Eq.trans (mupJ (by decide)) (Eq.trans (mupJ (by decide)) (mupE))))), Eq.trans (mupJ (by decide)) (Eq.trans (mupJ (by decide)) (Eq.trans (mupJ (by decide)) (Eq.trans (mupJ (by decide)) (mupE)))), Eq.trans (mupJ (by decide)) (Eq.trans (mupJ (by decide)) (Eq.trans (mupJ (by decide)) (mupE))), Eq.trans (mupJ (by decide)) (Eq.trans (mupJ (by decide)) (mupE)), Eq.trans (mupJ (by decide)) (mupE), mupE⟩, fun s hs => ?_, fun h hh => ?_⟩ (fun q hq2 => ?_)
      · obtain ⟨z1, z2, z3, z4, z5, z6, z7, z8⟩ := R.2.1 s hs
        exact ⟨Eq.trans (mupC (by omega)) (Eq.trans (mupC (by omega)) (Eq.trans (mupC (by omega)) (Eq.trans (mupC (by omega)) (Eq.trans (mupC (by omega)) (Eq.trans (mupC (by omega)) ((congrFun (f1 (b + 1 + 1) (by omega)) s).trans ((st1 1 (by decide) (by decide) s (by omega)).trans z1))))))), Eq.trans (mupC (by omega)) (Eq.trans (mupC (by omega)) (Eq.trans (mupC (by omega)) (Eq.trans (mupC (by omega)) (Eq.trans (mupC (by omega)) (Eq.trans (mupC (by omega)) ((congrFun (f1 (b + 1 + 2) (by omega)) s).trans ((st1 2 (by decide) (by decide) s (by omega)).trans z2))))))), Eq.trans (mupC (by omega)) (Eq.trans (mupC (by omega)) (Eq.trans (mupC (by omega)) (Eq.trans (mupC (by omega)) (Eq.trans (mupC (by omega)) (Eq.trans (mupC (by omega)) ((congrFun (f1 (b + 1 + 3) (by omega)) s).trans ((st1 3 (by decide) (by decide) s (by omega)).trans z3))))))), Eq.trans (mupC (by omega)) (Eq.trans (mupC (by omega)) (Eq.trans (mupC (by omega)) (Eq.trans (mupC (by omega)) (Eq.trans (mupC (by omega)) (Eq.trans (mupC (by omega)) ((congrFun (f1 (b + 1 + 4) (by omega)) s).trans ((st1 4 (by decide) (by decide) s (by omega)).trans z4))))))), Eq.trans (mupC (by omega)) (Eq.trans (mupC (by omega)) (Eq.trans (mupC (by omega)) (Eq.trans (mupC (by omega)) (Eq.trans (mupC (by omega)) (Eq.trans (mupC (by omega)) ((congrFun (f1 (b + 1 + 5) (by omega)) s).trans ((st1 5 (by decide) (by decide) s (by omega)).trans z5))))))), Eq.trans (mupC (by omega)) (Eq.trans (mupC (by omega)) (Eq.trans (mupC (by omega)) (Eq.trans (mupC (by omega)) (Eq.trans (mupC (by omega)) (Eq.trans (mupC (by omega)) ((congrFun (f1 (b + 1 + 6) (by omega)) s).trans ((st1 6 (by decide) (by decide) s (by omega)).trans z6))))))), Eq.trans (mupC (by omega)) (Eq.trans (mupC (by omega)) (Eq.trans (mupC (by omega)) (Eq.trans (mupC (by omega)) (Eq.trans (mupC (by omega)) (Eq.trans (mupC (by omega)) ((congrFun (f1 (b + 1 + 7) (by omega)) s).trans ((st1 7 (by decide) (by decide) s (by omega)).trans z7))))))), Eq.trans (mupC (by omega)) (Eq.trans (mupC (by omega)) (Eq.trans (mupC (by omega)) (Eq.trans (mupC (by omega)) (Eq.trans (mupC (by omega)) (Eq.trans (mupC (by omega)) ((congrFun (f1 (b + 1 + 8) (by omega)) s).trans ((st1 8 (by decide) (by decide) s (by omega)).trans z8)))))))⟩
      · obtain ⟨z1, z2, z3, z4⟩ := g1 h hh
        exact ⟨Eq.trans (mupC (by omega)) (Eq.trans (mupC (by omega)) (Eq.trans (mupC (by omega)) (Eq.trans (mupC (by omega)) (Eq.trans (mupC (by omega)) (Eq.trans (mupC (by omega)) (z1)))))), Eq.trans (mupC (by omega)) (Eq.trans (mupC (by omega)) (Eq.trans (mupC (by omega)) (Eq.trans (mupC (by omega)) (Eq.trans (mupC (by omega)) (Eq.trans (mupC (by omega)) (z2)))))), Eq.trans (mupC (by omega)) (Eq.trans (mupC (by omega)) (Eq.trans (mupC (by omega)) (Eq.trans (mupC (by omega)) (Eq.trans (mupC (by omega)) (Eq.trans (mupC (by omega)) (z3)))))), Eq.trans (mupC (by omega)) (Eq.trans (mupC (by omega)) (Eq.trans (mupC (by omega)) (Eq.trans (mupC (by omega)) (Eq.trans (mupC (by omega)) (Eq.trans (mupC (by omega)) (z4))))))⟩
      · exact Eq.trans (mupF (by omega)) (Eq.trans (mupF (by omega)) (Eq.trans (mupF (by omega)) (Eq.trans (mupF (by omega)) (Eq.trans (mupF (by omega)) (Eq.trans (mupF (by omega)) ((f1 q (by omega)).trans (e1 q hq2)))))))
    | succ k ih =>
      intro i D1 hk g1 f1
      have hi : i < 6 := by omega
      have fD : ∀ q, (q < b ∨ b + 13 < q) → D1 q = D q := fun q h => (f1 q (by omega)).trans (e1 q h)
      refine w_ild2 i19_13 ?_
      refine w_bip i19_14 kb_6 ?_
      refine w_cgeNF i19_16 (by omega) (by omega) (by omega) ?_
      refine w_ald0 i19_19 ?_
      refine w_gfR i19_20 (by decide) hb.1.1 rfl ?_
      refine w_ild2 i19_23 ?_
      refine w_ald1 i19_24 ?_
      refine w_gfR i19_25 (by decide) hc.1.1 rfl ?_
      refine w_ild2 i19_28 ?_
      refine w_zal i19_29 hc.2.2.1 (by decide) (by omega) ((congrFun (fD (c + 10) (by omega)) i).trans (R.2.2 i hi).1) ?_
      refine w_zas i19_30 hb.2.2.1 (by decide) (by omega) ?_
      refine w_ald0 i19_31 ?_
      refine w_gfR i19_32 (by decide) hb.1.1 rfl ?_
      refine w_ild2 i19_35 ?_
      refine w_ald1 i19_36 ?_
      refine w_gfR i19_37 (by decide) hc.1.1 rfl ?_
      refine w_ild2 i19_40 ?_
      refine w_ial i19_41 hc.2.2.2.1 (by decide) (by omega) (Eq.trans (mupC (by omega)) ((congrFun (fD (c + 11) (by omega)) i).trans (R.2.2 i hi).2.1)) ?_
      refine w_ias i19_42 hb.2.2.2.1 (by decide) (by omega) ?_
      refine w_ald0 i19_43 ?_
      refine w_gfR i19_44 (by decide) hb.1.1 rfl ?_
      refine w_ild2 i19_47 ?_
      refine w_ald1 i19_48 ?_
      refine w_gfR i19_49 (by decide) hc.1.1 rfl ?_
      refine w_ild2 i19_52 ?_
      refine w_ial i19_53 hc.2.2.2.2.1 (by decide) (by omega) (Eq.trans (mupC (by omega)) (Eq.trans (mupC (by omega)) ((congrFun (fD (c + 12) (by omega)) i).trans (R.2.2 i hi).2.2.1))) ?_
      refine w_ias i19_54 hb.2.2.2.2.1 (by decide) (by omega) ?_
      refine w_ald0 i19_55 ?_
      refine w_gfR i19_56 (by decide) hb.1.1 rfl ?_
      refine w_ild2 i19_59 ?_
      refine w_ald1 i19_60 ?_
      refine w_gfR i19_61 (by decide) hc.1.1 rfl ?_
      refine w_ild2 i19_64 ?_
      refine w_ial i19_65 hc.2.2.2.2.2 (by decide) (by omega) (Eq.trans (mupC (by omega)) (Eq.trans (mupC (by omega)) (Eq.trans (mupC (by omega)) ((congrFun (fD (c + 13) (by omega)) i).trans (R.2.2 i hi).2.2.2)))) ?_
      refine w_ias i19_66 hb.2.2.2.2.2 (by decide) (by omega) ?_
      refine w_inc2 i19_67 (inc1 _) ?_
      refine w_goto i19_70 g19_70 ?_
      refine ih (i + 1) _ (by omega) (fun h hh => ?_) (fun q hq2 => Eq.trans (mupF (by omega)) (Eq.trans (mupF (by omega)) (Eq.trans (mupF (by omega)) (Eq.trans (mupF (by omega)) (f1 q hq2)))))
      by_cases e : h = i
      · subst e
        exact ⟨Eq.trans (mupC (by omega)) (Eq.trans (mupC (by omega)) (Eq.trans (mupC (by omega)) (mupE.trans (nar_op ho hi)))), Eq.trans (mupC (by omega)) (Eq.trans (mupC (by omega)) mupE), Eq.trans (mupC (by omega)) mupE, mupE⟩
      · obtain ⟨z1, z2, z3, z4⟩ := g1 h (by omega)
        exact ⟨Eq.trans (mupC (by omega)) (Eq.trans (mupC (by omega)) (Eq.trans (mupC (by omega)) (Eq.trans (mupJ e) z1))), Eq.trans (mupC (by omega)) (Eq.trans (mupC (by omega)) (Eq.trans (mupJ e) (Eq.trans (mupC (by omega)) z2))), Eq.trans (mupC (by omega)) (Eq.trans (mupJ e) (Eq.trans (mupC (by omega)) (Eq.trans (mupC (by omega)) z3))), Eq.trans (mupJ e) (Eq.trans (mupC (by omega)) (Eq.trans (mupC (by omega)) (Eq.trans (mupC (by omega)) z4)))⟩
  exact L13 6 0 _ rfl (fun h hh => absurd hh (Nat.not_lt_zero h)) (fun q _ => rfl)
