/-! the class, both ways to share -/
def sg (D : Mm) (a b : Nat) (A B : Nat → Int32) : Mm := setc (setc D a A) b B
theorem sg_F {D : Mm} {a b : Nat} {A B : Nat → Int32} {q : Nat} (h1 : q ≠ a) (h2 : q ≠ b) : sg D a b A B q = D q := by unfold sg; rw [setcF h2, setcF h1]
theorem sg_a {D : Mm} {a b : Nat} {A B : Nat → Int32} {j : Nat} (h : a ≠ b) : sg D a b A B a j = A j := by unfold sg; rw [setcF h, setcE]
theorem sg_b {D : Mm} {a b : Nat} {A B : Nat → Int32} {j : Nat} : sg D a b A B b j = B j := by unfold sg; rw [setcE]
theorem sg_B {D : Mm} {a b : Nat} {A B : Nat → Int32} : sg D a b A B b = B := by unfold sg; rw [setcE]
theorem sg_ma {D : Mm} {a b : Nat} {A B : Nat → Int32} {j : Nat} {x : Int32} (h : a ≠ b) : mup (sg D a b A B) a j x = sg D a b (vup A j x) B := mup_setc2 h
theorem sg_mb {D : Mm} {a b : Nat} {A B : Nat → Int32} {j : Nat} {x : Int32} : mup (sg D a b A B) b j x = sg D a b A (vup B j x) := mup_setc
theorem sg_self {D : Mm} {a b : Nat} : sg D a b (D a) (D b) = D := by unfold sg; rw [setc_self, setc_self]
theorem Rel.sg {D : Mm} {n : Nat} {V : Nat → Int32} (R : Rel D n V) {a b : Nat} {A B : Nat → Int32} (ha : 14 < a) (hb : 14 < b) : Rel (sg D a b A B) n V := R.fr (fun q _ h => sg_F (by omega) (by omega))
noncomputable def hz1 (A B : Nat → Int32) : (Nat → Int32) × (Nat → Int32) := ifp (B (amx B 5) ≤ 0) (A, B) (vup A (amx B 5) (A (amx B 5) + nI 1), vup B (amx B 5) (nI 0))
noncomputable def vHz : Nat → (Nat → Int32) → (Nat → Int32) → (Nat → Int32) × (Nat → Int32)
  | 0, A, B => (A, B)
  | L + 1, A, B => vHz L (hz1 A B).1 (hz1 A B).2
noncomputable def vDl (C : Int32) : Nat → (Nat → Int32) → (Nat → Int32) → (Nat → Int32) × (Nat → Int32)
  | 0, A, B => (A, B)
  | L + 1, A, B => vDl C L (vup A (amx B 5) (A (amx B 5) + nI 1)) (vup B (amx B 5) (B (amx B 5) - C))
noncomputable def vDu (n : Nat) (V : Nat → Int32) (h : Nat) : Int32 := mPooled V * mClaim n V h
set_option maxHeartbeats 100000 in
theorem K_greatest {d : Nat} {D : Mm} : Ct (d + 1) 18 [.ref 168] D (Ex (some (.int (nI (amx (D 168) 5)))) D) := by
  refine ent m18 rfl rfl (ls := [.ref 168, .retAddr 0, .retAddr 0]) rfl ?_
  refine w_const i18_0 kc_0 ?_
  refine w_ist1 i18_1 ?_
  refine w_const i18_2 kc_1 ?_
  refine w_ist2 i18_3 ?_
  refine down0 (n := 5) (P := fun i => Wp _ _ _ 4 [.ref 168, .int (nI (amx (D 168) i)), .int (nI (i + 1))] [] D) ?_ ?_
  · skip
    refine w_ild2 i18_4 ?_
    refine w_bip i18_5 kb_6 ?_
    refine w_cgeNT i18_7 g18_7 (by omega) (by omega) (by omega) ?_
    refine w_ild1 i18_27 ?_
    refine w_ri i18_28 r18 ?_
    exact ⟨rfl, rfl⟩
  · intro i hi ih
    have hb := amx_le (B := D 168) i
    refine w_ild2 i18_4 ?_
    refine w_bip i18_5 kb_6 ?_
    refine w_cgeNF i18_7 (by omega) (by omega) (by omega) ?_
    refine w_ald0 i18_10 ?_
    refine w_ild2 i18_11 ?_
    refine w_ial i18_12 s_168 (by decide) (by omega) rfl ?_
    refine w_ald0 i18_13 ?_
    refine w_ild1 i18_14 ?_
    refine w_ial i18_15 s_168 (by decide) (by omega) rfl ?_
    refine w_cle i18_16 g18_16  (fun h16 => ?_) (fun h16 => ?_)
    · skip
      refine w_inc2 i18_21 (inc1 _) ?_
      refine w_goto i18_24 g18_24 ?_
      first | (rw [show amx (D 168) (i + 1) = _ from ifp_t h16] at ih; exact ih) | (rw [show amx (D 168) (i + 1) = _ from ifp_f (Int32.not_lt.mpr h16)] at ih; exact ih)
    · skip
      refine w_ild2 i18_19 ?_
      refine w_ist1 i18_20 ?_
      refine w_inc2 i18_21 (inc1 _) ?_
      refine w_goto i18_24 g18_24 ?_
      first | (rw [show amx (D 168) (i + 1) = _ from ifp_t h16] at ih; exact ih) | (rw [show amx (D 168) (i + 1) = _ from ifp_f (Int32.not_lt.mpr h16)] at ih; exact ih)
theorem K_greatestV {d : Nat} {D : Mm} {B : Nat → Int32} (e : D 168 = B) : Ct (d + 1) 18 [.ref 168] D (Ex (some (.int (nI (amx B 5)))) D) := by subst e; exact K_greatest
set_option maxHeartbeats 100000 in
theorem K_give {d : Nat} {D : Mm} {A B : Nat → Int32} : Ct (d + 2) 16 [.ref 165] (sg D 166 168 A B) (Ex none (sg D 166 168 (hz1 A B).1 (hz1 A B).2)) := by
  have hb := amx_le (B := B) 5
  have e168 : (sg D 166 168 A B) 168 = B := sg_B
  refine ent m16 rfl rfl (ls := [.ref 165, .retAddr 0]) rfl ?_
  refine w_ald0 i16_0 ?_
  refine w_gfR i16_1 (by decide) s_165 rfl ?_
  refine w_sI1 i16_4 c18 rfl  rfl ⟨rfl, Nat.le_of_ble_eq_true rfl⟩ (K_greatestV e168) ?_
  refine w_ist1 i16_7 ?_
  refine w_ald0 i16_8 ?_
  refine w_gfR i16_9 (by decide) s_165 rfl ?_
  refine w_ild1 i16_12 ?_
  refine w_ial i16_13 s_168 (by decide) (by omega) sg_b ?_
  refine w_ile i16_14 g16_14  (fun h14 => ?_) (fun h14 => ?_)
  · skip
    refine w_rv i16_34 r16 ?_
    first
      | (unfold hz1; rw [ifp_t h14]; exact ⟨rfl, rfl⟩)
      | (unfold hz1; rw [ifp_f (Int32.not_le.mpr h14)]; refine ⟨rfl, ?_⟩; rw [sg_ma (by decide), sg_mb])
  · skip
    refine w_ald0 i16_17 ?_
    refine w_gfR i16_18 (by decide) s_165 rfl ?_
    refine w_ild1 i16_21 ?_
    refine w_dup2 i16_22 rfl rfl ?_
    refine w_ial i16_23 s_166 (by decide) (by omega) (sg_a (by decide)) ?_
    refine w_const i16_24 kc_1 ?_
    refine w_iadd i16_25 rfl ?_
    refine w_ias i16_26 s_166 (by decide) (by omega) ?_
    refine w_ald0 i16_27 ?_
    refine w_gfR i16_28 (by decide) s_165 rfl ?_
    refine w_ild1 i16_31 ?_
    refine w_const i16_32 kc_0 ?_
    refine w_ias i16_33 s_168 (by decide) (by omega) ?_
    refine w_rv i16_34 r16 ?_
    first
      | (unfold hz1; rw [ifp_t h14]; exact ⟨rfl, rfl⟩)
      | (unfold hz1; rw [ifp_f (Int32.not_le.mpr h14)]; refine ⟨rfl, ?_⟩; rw [sg_ma (by decide), sg_mb])
set_option maxHeartbeats 100000 in
theorem K_divide0 {d : Nat} {D : Mm} {Q : Option Value → Mm → Prop} {n : Nat} {V : Nat → Int32} (R : Rel D n V) (h12 : n ≤ 12) (ho : opV V) (hA : mClaims n V = 0) (hq : Q none (sg D 166 168 (fil (D 166) 6 (fun _ => nI 0)) (fil (D 168) 6 (fun _ => nI 0)))) : Ct (d + 4) 15 [.ref 165, .ref 1] D Q := by
  refine ent m15 rfl rfl (ls := [.ref 165, .ref 1, .retAddr 0, .retAddr 0, .retAddr 0, .retAddr 0]) rfl ?_
  refine w_ald1 i15_0 ?_
  refine w_vI1 i15_1 c22 (Or.inl rfl) ⟨by decide +kernel, by decide⟩ (by repeat (first | exact nv_nil | refine nv_cons (by first | rfl | assumption) ?_)) ⟨rfl, Nat.le_of_ble_eq_true rfl⟩ (K_allClaims R h12 ho) ?_
  refine w_ist2 i15_4 ?_
  refine w_ild2 i15_5 ?_
  refine w_ineF i15_6  hA ?_
  refine w_const i15_9 kc_0 ?_
  refine w_goto i15_10 g15_10 ?_
  refine w_ist3 i15_17 ?_
  refine w_const i15_18 kc_0 ?_
  refine w_ist4 i15_19 ?_
  refine wpD (D2 := sg D 166 168 (fil (D 166) 0 (fun _ => nI 0)) (fil (D 168) 0 (fun _ => nI 0))) (by rw [fil0, fil0, sg_self]) ?_
  refine down0 (n := 6) (P := fun i => ∀ (x : Value), nvB x = true → Wp _ _ _ 21 [.ref 165, .ref 1, .int (mClaims n V), .int (nI 0), .int (nI i), x] [] (sg D 166 168 (fil (D 166) i (fun _ => nI 0)) (fil (D 168) i (fun _ => nI 0)))) ?_ ?_ _ (by first | rfl | assumption)
  · intro x hx
    refine w_ild4 i15_21 ?_
    refine w_bip i15_23 kb_6 ?_
    refine w_cgeNT i15_25 g15_25 (by omega) (by omega) (by omega) ?_
    refine w_const i15_95 kc_0 ?_
    refine w_ist4 i15_96 ?_
    refine w_ild4 i15_98 ?_
    refine w_bip i15_100 kb_6 ?_
    refine w_cgeNF i15_102 (by omega) (by omega) (by omega) ?_
    refine w_ild4 i15_105 ?_
    refine w_ild3 i15_107 ?_
    refine w_cgeNT i15_108 g15_108 (by omega) (by omega) (by omega) ?_
    refine w_rv i15_121 r15 ?_
    exact hq
  · intro i hi ih x hx
    refine w_ild4 i15_21 ?_
    refine w_bip i15_23 kb_6 ?_
    refine w_cgeNF i15_25 (by omega) (by omega) (by omega) ?_
    refine w_ald1 i15_28 ?_
    refine w_gfI i15_29 (by decide) s_1 rfl (R.sg (by decide) (by decide)).pl ?_
    refine w_ald1 i15_32 ?_
    refine w_ild4 i15_33 ?_
    refine w_vI2 i15_35 c21 (Or.inl rfl) ⟨by decide +kernel, by decide⟩ (by repeat (first | exact nv_nil | refine nv_cons (by first | rfl | assumption) ?_)) ⟨rfl, Nat.le_of_ble_eq_true rfl⟩ (K_claimOf (R.sg (by decide) (by decide)) h12 ho hi) ?_
    refine w_imul i15_38 rfl ?_
    refine w_ist5 i15_39 ?_
    refine w_ald0 i15_41 ?_
    refine w_gfR i15_42 (by decide) s_165 rfl ?_
    refine w_ild4 i15_45 ?_
    refine w_ild2 i15_47 ?_
    refine w_ineF i15_48  hA ?_
    refine w_const i15_51 kc_0 ?_
    refine w_goto i15_52 g15_52 ?_
    refine w_ias i15_59 s_166 (by decide) (by omega) ?_
    rw [sg_ma (by decide), filS (f := fun _ => nI 0)]
    refine w_ald0 i15_60 ?_
    refine w_gfR i15_61 (by decide) s_165 rfl ?_
    refine w_ild4 i15_64 ?_
    refine w_ild2 i15_66 ?_
    refine w_ineF i15_67  hA ?_
    refine w_const i15_70 kc_0 ?_
    refine w_goto i15_71 g15_71 ?_
    refine w_ias i15_78 s_168 (by decide) (by omega) ?_
    rw [sg_mb, filS (f := fun _ => nI 0)]
    refine w_ild3 i15_79 ?_
    refine w_ald0 i15_80 ?_
    refine w_gfR i15_81 (by decide) s_165 rfl ?_
    refine w_ild4 i15_84 ?_
    refine w_ial i15_86 s_166 (by decide) (by omega) (show sg D 166 168 (fil (D 166) (i + 1) (fun _ => nI 0)) (fil (D 168) (i + 1) (fun _ => nI 0)) 166 i = (fun _ => nI 0) i from by rw [sg_a (by decide)]; unfold fil; rw [if_pos (by omega)]) ?_
    refine w_isub i15_87 (Int32.sub_zero _) ?_
    refine w_ist3 i15_88 ?_
    refine w_inc4 i15_89 (inc1 _) ?_
    refine w_goto i15_92 g15_92 ?_
    exact ih _ (by first | rfl | assumption)
set_option maxHeartbeats 100000 in
theorem K_divide1 {d : Nat} {D : Mm} {Q : Option Value → Mm → Prop} {n : Nat} {V : Nat → Int32} (R : Rel D n V) (h12 : n ≤ 12) (ho : opV V) (hA0 : ¬ mClaims n V = 0) {L : Nat} (hL : vLeft n V = nI L) (hL6 : L ≤ 6) (hq : Q none (sg D 166 168 (vHz L (fil (D 166) 6 (vPt n V)) (fil (D 168) 6 (vRs n V))).1 (vHz L (fil (D 166) 6 (vPt n V)) (fil (D 168) 6 (vRs n V))).2)) : Ct (d + 4) 15 [.ref 165, .ref 1] D Q := by
  refine ent m15 rfl rfl (ls := [.ref 165, .ref 1, .retAddr 0, .retAddr 0, .retAddr 0, .retAddr 0]) rfl ?_
  refine w_ald1 i15_0 ?_
  refine w_vI1 i15_1 c22 (Or.inl rfl) ⟨by decide +kernel, by decide⟩ (by repeat (first | exact nv_nil | refine nv_cons (by first | rfl | assumption) ?_)) ⟨rfl, Nat.le_of_ble_eq_true rfl⟩ (K_allClaims R h12 ho) ?_
  refine w_ist2 i15_4 ?_
  refine w_ild2 i15_5 ?_
  refine w_ineT i15_6 g15_6  hA0 ?_
  refine w_ald1 i15_13 ?_
  refine w_gfI i15_14 (by decide) s_1 rfl R.pl ?_
  refine w_ist3 i15_17 ?_
  refine w_const i15_18 kc_0 ?_
  refine w_ist4 i15_19 ?_
  refine wpD (D2 := sg D 166 168 (fil (D 166) 0 (vPt n V)) (fil (D 168) 0 (vRs n V))) (by rw [fil0, fil0, sg_self]) ?_
  refine down0 (n := 6) (P := fun i => ∀ (x : Value), nvB x = true → Wp _ _ _ 21 [.ref 165, .ref 1, .int (mClaims n V), .int (subN (mPooled V) (vPt n V) i), .int (nI i), x] [] (sg D 166 168 (fil (D 166) i (vPt n V)) (fil (D 168) i (vRs n V)))) ?_ ?_ _ (by first | rfl | assumption)
  · intro x hx
    refine w_ild4 i15_21 ?_
    refine w_bip i15_23 kb_6 ?_
    refine w_cgeNT i15_25 g15_25 (by omega) (by omega) (by omega) ?_
    refine w_const i15_95 kc_0 ?_
    refine w_ist4 i15_96 ?_
    have L98 : ∀ k (A B : Nat → Int32) (g : Nat) (u : Value), nvB u = true → g + k = L → Q none (sg D 166 168 (vHz k A B).1 (vHz k A B).2) → Wp (d + 3) 15 Q 98 [.ref 165, .ref 1, .int (mClaims n V), .int (nI L), .int (nI g), u] [] (sg D 166 168 A B) := by
      intro k
      induction k with
      | zero =>
        intro A B g u hu hk hqq
        refine w_ild4 i15_98 ?_
        refine w_bip i15_100 kb_6 ?_
        refine w_cgeN i15_102 g15_102 (by omega) (by omega) (fun h102 => ?_) (fun h102 => ?_)
        · refine w_rv i15_121 r15 ?_
          exact hqq
        · refine w_ild4 i15_105 ?_
          refine w_ild3 i15_107 ?_
          refine w_cgeNT i15_108 g15_108 (by omega) (by omega) (by omega) ?_
          refine w_rv i15_121 r15 ?_
          exact hqq
      | succ k ih =>
        intro A B g u hu hk hqq
        unfold vHz at hqq
        refine w_ild4 i15_98 ?_
        refine w_bip i15_100 kb_6 ?_
        refine w_cgeNF i15_102 (by omega) (by omega) (by omega) ?_
        refine w_ild4 i15_105 ?_
        refine w_ild3 i15_107 ?_
        refine w_cgeNF i15_108 (by omega) (by omega) (by omega) ?_
        refine w_ald0 i15_111 ?_
        refine w_vV1 i15_112 c16 (Or.inl rfl) ⟨by decide +kernel, by decide⟩ (by repeat (first | exact nv_nil | refine nv_cons (by first | rfl | assumption) ?_)) ⟨rfl, Nat.le_of_ble_eq_true rfl⟩ K_give ?_
        refine w_inc4 i15_115 (inc1 _) ?_
        refine w_goto i15_118 g15_118 ?_
        exact ih _ _ _ _ hu (by omega) hqq
    rw [show subN (mPooled V) (vPt n V) 6 = nI L from hL]
    exact L98 L _ _ 0 _ (by first | rfl | assumption) (by omega) hq
  · intro i hi ih x hx
    refine w_ild4 i15_21 ?_
    refine w_bip i15_23 kb_6 ?_
    refine w_cgeNF i15_25 (by omega) (by omega) (by omega) ?_
    refine w_ald1 i15_28 ?_
    refine w_gfI i15_29 (by decide) s_1 rfl (R.sg (by decide) (by decide)).pl ?_
    refine w_ald1 i15_32 ?_
    refine w_ild4 i15_33 ?_
    refine w_vI2 i15_35 c21 (Or.inl rfl) ⟨by decide +kernel, by decide⟩ (by repeat (first | exact nv_nil | refine nv_cons (by first | rfl | assumption) ?_)) ⟨rfl, Nat.le_of_ble_eq_true rfl⟩ (K_claimOf (R.sg (by decide) (by decide)) h12 ho hi) ?_
    refine w_imul i15_38 rfl ?_
    refine w_ist5 i15_39 ?_
    refine w_ald0 i15_41 ?_
    refine w_gfR i15_42 (by decide) s_165 rfl ?_
    refine w_ild4 i15_45 ?_
    refine w_ild2 i15_47 ?_
    refine w_ineT i15_48 g15_48  hA0 ?_
    refine w_ild5 i15_55 ?_
    refine w_ild2 i15_57 ?_
    refine w_idiv i15_58 hA0 rfl ?_
    refine w_ias i15_59 s_166 (by decide) (by omega) ?_
    rw [sg_ma (by decide), show mPooled V * mClaim n V i / mClaims n V = vPt n V i from rfl, filS]
    refine w_ald0 i15_60 ?_
    refine w_gfR i15_61 (by decide) s_165 rfl ?_
    refine w_ild4 i15_64 ?_
    refine w_ild2 i15_66 ?_
    refine w_ineT i15_67 g15_67  hA0 ?_
    refine w_ild5 i15_74 ?_
    refine w_ild2 i15_76 ?_
    refine w_irem i15_77 hA0 rfl ?_
    refine w_ias i15_78 s_168 (by decide) (by omega) ?_
    rw [sg_mb, show mPooled V * mClaim n V i - mPooled V * mClaim n V i / mClaims n V * mClaims n V = vRs n V i from rfl, filS]
    refine w_ild3 i15_79 ?_
    refine w_ald0 i15_80 ?_
    refine w_gfR i15_81 (by decide) s_165 rfl ?_
    refine w_ild4 i15_84 ?_
    refine w_ial i15_86 s_166 (by decide) (by omega) (show sg D 166 168 (fil (D 166) (i + 1) (vPt n V)) (fil (D 168) (i + 1) (vRs n V)) 166 i = (vPt n V) i from by rw [sg_a (by decide)]; unfold fil; rw [if_pos (by omega)]) ?_
    refine w_isub i15_87 rfl ?_
    refine w_ist3 i15_88 ?_
    refine w_inc4 i15_89 (inc1 _) ?_
    refine w_goto i15_92 g15_92 ?_
    exact ih _ (by first | rfl | assumption)
set_option maxHeartbeats 100000 in
theorem K_deal0 {d : Nat} {D : Mm} {Q : Option Value → Mm → Prop} {n : Nat} {V : Nat → Int32} (R : Rel D n V) (h12 : n ≤ 12) (ho : opV V) (hA : mClaims n V = 0) (hq : Q none (sg D 167 168 (fil (D 167) 6 (fun _ => nI 0)) (fil (D 168) 6 (vDu n V)))) : Ct (d + 4) 17 [.ref 165, .ref 1] D Q := by
  refine ent m17 rfl rfl (ls := [.ref 165, .ref 1, .retAddr 0, .retAddr 0, .retAddr 0, .retAddr 0]) rfl ?_
  refine w_ald1 i17_0 ?_
  refine w_vI1 i17_1 c22 (Or.inl rfl) ⟨by decide +kernel, by decide⟩ (by repeat (first | exact nv_nil | refine nv_cons (by first | rfl | assumption) ?_)) ⟨rfl, Nat.le_of_ble_eq_true rfl⟩ (K_allClaims R h12 ho) ?_
  refine w_ist2 i17_4 ?_
  refine w_const i17_5 kc_0 ?_
  refine w_ist3 i17_6 ?_
  refine wpD (D2 := sg D 167 168 (fil (D 167) 0 (fun _ => nI 0)) (fil (D 168) 0 (vDu n V))) (by rw [fil0, fil0, sg_self]) ?_
  refine down0 (n := 6) (P := fun i => ∀ (x : Value) (y : Value), nvB x = true → nvB y = true → Wp _ _ _ 7 [.ref 165, .ref 1, .int (mClaims n V), .int (nI i), x, y] [] (sg D 167 168 (fil (D 167) i (fun _ => nI 0)) (fil (D 168) i (vDu n V)))) ?_ ?_ _ _ (by first | rfl | assumption) (by first | rfl | assumption)
  · intro x y hx hy
    refine w_ild3 i17_7 ?_
    refine w_bip i17_8 kb_6 ?_
    refine w_cgeNT i17_10 g17_10 (by omega) (by omega) (by omega) ?_
    refine w_ild2 i17_42 ?_
    refine w_ineF i17_43  hA ?_
    refine w_const i17_46 kc_0 ?_
    refine w_goto i17_47 g17_47 ?_
    refine w_ist3 i17_54 ?_
    refine w_const i17_55 kc_0 ?_
    refine w_ist4 i17_56 ?_
    refine w_ild4 i17_58 ?_
    refine w_ild3 i17_60 ?_
    refine w_cgeNT i17_61 g17_61 (by omega) (by omega) (by omega) ?_
    refine w_rv i17_101 r17 ?_
    exact hq
  · intro i hi ih x y hx hy
    refine w_ild3 i17_7 ?_
    refine w_bip i17_8 kb_6 ?_
    refine w_cgeNF i17_10 (by omega) (by omega) (by omega) ?_
    refine w_ald0 i17_13 ?_
    refine w_gfR i17_14 (by decide) s_165 rfl ?_
    refine w_ild3 i17_17 ?_
    refine w_const i17_18 kc_0 ?_
    refine w_ias i17_19 s_167 (by decide) (by omega) ?_
    rw [sg_ma (by decide), filS (f := fun _ => nI 0)]
    refine w_ald0 i17_20 ?_
    refine w_gfR i17_21 (by decide) s_165 rfl ?_
    refine w_ild3 i17_24 ?_
    refine w_ald1 i17_25 ?_
    refine w_gfI i17_26 (by decide) s_1 rfl (R.sg (by decide) (by decide)).pl ?_
    refine w_ald1 i17_29 ?_
    refine w_ild3 i17_30 ?_
    refine w_vI2 i17_31 c21 (Or.inl rfl) ⟨by decide +kernel, by decide⟩ (by repeat (first | exact nv_nil | refine nv_cons (by first | rfl | assumption) ?_)) ⟨rfl, Nat.le_of_ble_eq_true rfl⟩ (K_claimOf (R.sg (by decide) (by decide)) h12 ho hi) ?_
    refine w_imul i17_34 rfl ?_
    refine w_ias i17_35 s_168 (by decide) (by omega) ?_
    rw [sg_mb, show mPooled V * mClaim n V i = vDu n V i from rfl, filS]
    refine w_inc3 i17_36 (inc1 _) ?_
    refine w_goto i17_39 g17_39 ?_
    exact ih _ _ (by first | rfl | assumption) (by first | rfl | assumption)
set_option maxHeartbeats 100000 in
theorem K_deal1 {d : Nat} {D : Mm} {Q : Option Value → Mm → Prop} {n : Nat} {V : Nat → Int32} (R : Rel D n V) (h12 : n ≤ 12) (ho : opV V) (hA0 : ¬ mClaims n V = 0) {P : Nat} (hP : mPooled V = nI P) (hP2 : P < 2147483648) (hq : Q none (sg D 167 168 (vDl (mClaims n V) P (fil (D 167) 6 (fun _ => nI 0)) (fil (D 168) 6 (vDu n V))).1 (vDl (mClaims n V) P (fil (D 167) 6 (fun _ => nI 0)) (fil (D 168) 6 (vDu n V))).2)) : Ct (d + 4) 17 [.ref 165, .ref 1] D Q := by
  refine ent m17 rfl rfl (ls := [.ref 165, .ref 1, .retAddr 0, .retAddr 0, .retAddr 0, .retAddr 0]) rfl ?_
  refine w_ald1 i17_0 ?_
  refine w_vI1 i17_1 c22 (Or.inl rfl) ⟨by decide +kernel, by decide⟩ (by repeat (first | exact nv_nil | refine nv_cons (by first | rfl | assumption) ?_)) ⟨rfl, Nat.le_of_ble_eq_true rfl⟩ (K_allClaims R h12 ho) ?_
  refine w_ist2 i17_4 ?_
  refine w_const i17_5 kc_0 ?_
  refine w_ist3 i17_6 ?_
  refine wpD (D2 := sg D 167 168 (fil (D 167) 0 (fun _ => nI 0)) (fil (D 168) 0 (vDu n V))) (by rw [fil0, fil0, sg_self]) ?_
  refine down0 (n := 6) (P := fun i => ∀ (x : Value) (y : Value), nvB x = true → nvB y = true → Wp _ _ _ 7 [.ref 165, .ref 1, .int (mClaims n V), .int (nI i), x, y] [] (sg D 167 168 (fil (D 167) i (fun _ => nI 0)) (fil (D 168) i (vDu n V)))) ?_ ?_ _ _ (by first | rfl | assumption) (by first | rfl | assumption)
  · intro x y hx hy
    refine w_ild3 i17_7 ?_
    refine w_bip i17_8 kb_6 ?_
    refine w_cgeNT i17_10 g17_10 (by omega) (by omega) (by omega) ?_
    refine w_ild2 i17_42 ?_
    refine w_ineT i17_43 g17_43  hA0 ?_
    refine w_ald1 i17_50 ?_
    refine w_gfI i17_51 (by decide) s_1 rfl (R.sg (by decide) (by decide)).pl ?_
    refine w_ist3 i17_54 ?_
    refine w_const i17_55 kc_0 ?_
    refine w_ist4 i17_56 ?_
    have L58 : ∀ k (A B : Nat → Int32) (g : Nat) (u : Value), nvB u = true → g + k = P → Q none (sg D 167 168 (vDl (mClaims n V) k A B).1 (vDl (mClaims n V) k A B).2) → Wp (d + 3) 17 Q 58 [.ref 165, .ref 1, .int (mClaims n V), .int (nI P), .int (nI g), u] [] (sg D 167 168 A B) := by
      intro k
      induction k with
      | zero =>
        intro A B g u hu hk hqq
        refine w_ild4 i17_58 ?_
        refine w_ild3 i17_60 ?_
        refine w_cgeNT i17_61 g17_61 (by omega) (by omega) (by omega) ?_
        refine w_rv i17_101 r17 ?_
        exact hqq
      | succ k ih =>
        intro A B g u hu hk hqq
        unfold vDl at hqq
        have hb := amx_le (B := B) 5
        have e168 : (sg D 167 168 A B) 168 = B := sg_B
        refine w_ild4 i17_58 ?_
        refine w_ild3 i17_60 ?_
        refine w_cgeNF i17_61 (by omega) (by omega) (by omega) ?_
        refine w_ald0 i17_64 ?_
        refine w_gfR i17_65 (by decide) s_165 rfl ?_
        refine w_sI1 i17_68 c18 rfl (by repeat (first | exact nv_nil | refine nv_cons (by first | rfl | assumption) ?_)) ⟨rfl, Nat.le_of_ble_eq_true rfl⟩ (K_greatestV e168) ?_
        refine w_ist5 i17_71 ?_
        refine w_ald0 i17_73 ?_
        refine w_gfR i17_74 (by decide) s_165 rfl ?_
        refine w_ild5 i17_77 ?_
        refine w_dup2 i17_79 rfl rfl ?_
        refine w_ial i17_80 s_167 (by decide) (by omega) (sg_a (by decide)) ?_
        refine w_const i17_81 kc_1 ?_
        refine w_iadd i17_82 rfl ?_
        refine w_ias i17_83 s_167 (by decide) (by omega) ?_
        rw [sg_ma (by decide)]
        refine w_ald0 i17_84 ?_
        refine w_gfR i17_85 (by decide) s_165 rfl ?_
        refine w_ild5 i17_88 ?_
        refine w_dup2 i17_90 rfl rfl ?_
        refine w_ial i17_91 s_168 (by decide) (by omega) sg_b ?_
        refine w_ild2 i17_92 ?_
        refine w_isub i17_93 rfl ?_
        refine w_ias i17_94 s_168 (by decide) (by omega) ?_
        rw [sg_mb]
        refine w_inc4 i17_95 (inc1 _) ?_
        refine w_goto i17_98 g17_98 ?_
        exact ih _ _ _ _ rfl (by omega) hqq
    rw [hP]
    exact L58 P _ _ 0 _ (by first | rfl | assumption) (by omega) hq
  · intro i hi ih x y hx hy
    refine w_ild3 i17_7 ?_
    refine w_bip i17_8 kb_6 ?_
    refine w_cgeNF i17_10 (by omega) (by omega) (by omega) ?_
    refine w_ald0 i17_13 ?_
    refine w_gfR i17_14 (by decide) s_165 rfl ?_
    refine w_ild3 i17_17 ?_
    refine w_const i17_18 kc_0 ?_
    refine w_ias i17_19 s_167 (by decide) (by omega) ?_
    rw [sg_ma (by decide), filS (f := fun _ => nI 0)]
    refine w_ald0 i17_20 ?_
    refine w_gfR i17_21 (by decide) s_165 rfl ?_
    refine w_ild3 i17_24 ?_
    refine w_ald1 i17_25 ?_
    refine w_gfI i17_26 (by decide) s_1 rfl (R.sg (by decide) (by decide)).pl ?_
    refine w_ald1 i17_29 ?_
    refine w_ild3 i17_30 ?_
    refine w_vI2 i17_31 c21 (Or.inl rfl) ⟨by decide +kernel, by decide⟩ (by repeat (first | exact nv_nil | refine nv_cons (by first | rfl | assumption) ?_)) ⟨rfl, Nat.le_of_ble_eq_true rfl⟩ (K_claimOf (R.sg (by decide) (by decide)) h12 ho hi) ?_
    refine w_imul i17_34 rfl ?_
    refine w_ias i17_35 s_168 (by decide) (by omega) ?_
    rw [sg_mb, show mPooled V * mClaim n V i = vDu n V i from rfl, filS]
    refine w_inc3 i17_36 (inc1 _) ?_
    refine w_goto i17_39 g17_39 ?_
    exact ih _ _ (by first | rfl | assumption) (by first | rfl | assumption)
