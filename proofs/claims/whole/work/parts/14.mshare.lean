/-! the reference, shares -/
theorem U_tray {d : Nat} {D : Mm} {V : Nat → Int32} {n : Nat} {h : Int32} (hV : D 172 = V) (hn : V 0 = nI n) (h12 : n ≤ 12)  : Ct (d + 2) 120 [.ref 171, .int h] D (Ex (some (.int (mTray n V h))) D) := by subst hV; exact T_tray hn h12 
theorem U_owed {d : Nat} {D : Mm} {V : Nat → Int32} {n : Nat} {h : Int32} (hV : D 172 = V) (hn : V 0 = nI n) (h12 : n ≤ 12)  : Ct (d + 2) 122 [.ref 171, .int h] D (Ex (some (.int (mOwed n V h))) D) := by subst hV; exact T_owed hn h12 
theorem U_writsH {d : Nat} {D : Mm} {V : Nat → Int32} {n : Nat} {h : Int32} (hV : D 172 = V) (hn : V 0 = nI n) (h12 : n ≤ 12) (h0 : 0 ≤ h) : Ct (d + 2) 123 [.ref 171, .int h] D (Ex (some (.int (mWritsH n V h))) D) := by subst hV; exact T_writsH hn h12 h0
theorem U_writs {d : Nat} {D : Mm} {V : Nat → Int32} {n : Nat} (hV : D 172 = V) (hn : V 0 = nI n) (h12 : n ≤ 12)  : Ct (d + 2) 123 [.ref 171, .int (-1)] D (Ex (some (.int (mWrits n V))) D) := by subst hV; exact T_writs hn h12 
theorem U_claim {d : Nat} {D : Mm} {V : Nat → Int32} {n : Nat} {j : Nat} (hV : D 172 = V) (hn : V 0 = nI n) (h12 : n ≤ 12) (hj : j < 6) : Ct (d + 3) 139 [.ref 171, .int (nI j)] D (Ex (some (.int (mClaim n V j))) D) := by subst hV; exact T_claim hn h12 hj
theorem U_claims {d : Nat} {D : Mm} {V : Nat → Int32} {n : Nat} (hV : D 172 = V) (hn : V 0 = nI n) (h12 : n ≤ 12)  : Ct (d + 4) 140 [.ref 171] D (Ex (some (.int (mClaims n V))) D) := by subst hV; exact T_claims hn h12 
theorem U_ofAll {d : Nat} {D : Mm} {V : Nat → Int32} {n : Nat} {w : Nat} (hV : D 172 = V) (hn : V 0 = nI n) (h12 : n ≤ 12) (hw : w < 8) : Ct (d + 2) 182 [.ref 171, .int (nI w)] D (Ex (some (.int (mOfAll n V w))) D) := by subst hV; exact T_ofAll hn h12 hw
theorem T_pooledV {d : Nat} {D : Mm} {V : Nat → Int32} (hV : D 172 = V) : Ct (d + 2) 136 [.ref 171] D (Ex (some (.int (mPooled V))) D) := by subst hV; exact T_pooled
def subN (w : Int32) (f : Nat → Int32) : Nat → Int32
  | 0 => w
  | n + 1 => subN w f n - f n
noncomputable def amx (B : Nat → Int32) : Nat → Nat
  | 0 => 0
  | i + 1 => ifp (B (amx B i) < B (i + 1)) (i + 1) (amx B i)
theorem amx_le {B : Nat → Int32} : ∀ i, amx B i ≤ i := by
  intro i
  induction i with
  | zero => exact Nat.le_refl _
  | succ i ih =>
    unfold amx
    by_cases h : B (amx B i) < B (i + 1)
    · rw [ifp_t h]; exact Nat.le_refl _
    · rw [ifp_f h]; omega
noncomputable def vHam : Nat → (Nat → Int32) → (Nat → Int32) → (Nat → Int32) × (Nat → Int32)
  | 0, A, B => (A, B)
  | L + 1, A, B => vHam L (vup A (amx B 5) (A (amx B 5) + nI 1)) (vup B (amx B 5) (-1))
noncomputable def vPt (n : Nat) (V : Nat → Int32) (h : Nat) : Int32 := mPooled V * mClaim n V h / mClaims n V
noncomputable def vRs (n : Nat) (V : Nat → Int32) (h : Nat) : Int32 := mPooled V * mClaim n V h - mPooled V * mClaim n V h / mClaims n V * mClaims n V
noncomputable def vLeft (n : Nat) (V : Nat → Int32) : Int32 := subN (mPooled V) (vPt n V) 6
noncomputable def vParts (n : Nat) (V : Nat → Int32) (h : Nat) : Int32 := ifp (mClaims n V = 0) (nI 0) ((vHam (vLeft n V).toNatClampNeg (vPt n V) (vRs n V)).1 h)
def ag6 (A B : Nat → Int32) : Prop := ∀ h, h < 6 → A h = B h
theorem amx_ag {A B : Nat → Int32} (h : ag6 A B) : ∀ i, i < 6 → amx A i = amx B i := by
  intro i
  induction i with
  | zero => intro _; rfl
  | succ i ih =>
    intro hi
    have e := ih (by omega)
    have hb := amx_le (B := B) i
    unfold amx
    rw [e, h _ (by omega), h _ hi]
theorem vup_ag {A B : Nat → Int32} {j : Nat} {x : Int32} (h : ag6 A B) : ag6 (vup A j x) (vup B j x) := by
  intro i hi
  unfold vup
  by_cases e : i = j
  · rw [if_pos e, if_pos e]
  · rw [if_neg e, if_neg e]; exact h i hi
theorem vHam_ag : ∀ L {A B A2 B2 : Nat → Int32}, ag6 A A2 → ag6 B B2 → ag6 (vHam L A B).1 (vHam L A2 B2).1 := by
  intro L
  induction L with
  | zero => intro A B A2 B2 h _; exact h
  | succ L ih =>
    intro A B A2 B2 h g
    unfold vHam
    have e := amx_ag g 5 (by omega)
    have hb := amx_le (B := B2) 5
    rw [e, h _ (by omega)]
    exact ih (vup_ag h) (vup_ag g)
def fil (W : Nat → Int32) (i : Nat) (f : Nat → Int32) : Nat → Int32 := fun j => if j < i then f j else W j
theorem fil0 {W f : Nat → Int32} : fil W 0 f = W := by funext j; unfold fil; rw [if_neg (Nat.not_lt_zero _)]
theorem filS {W f : Nat → Int32} {i : Nat} : vup (fil W i f) i (f i) = fil W (i + 1) f := by
  funext j
  unfold vup fil
  by_cases h : j = i
  · subst h; rw [if_pos rfl, if_pos (Nat.lt_succ_self _)]
  · rw [if_neg h]
    by_cases g : j < i
    · rw [if_pos g, if_pos (by omega)]
    · rw [if_neg g, if_neg (by omega)]
theorem fil6 {W f : Nat → Int32} : ag6 (fil W 6 f) f := by intro h hh; unfold fil; rw [if_pos hh]
theorem mup_setc2 {D : Mm} {a b j : Nat} {A B : Nat → Int32} {x : Int32} (h : a ≠ b) : mup (setc (setc D a A) b B) a j x = setc (setc D a (vup A j x)) b B := by
  funext q i
  unfold mup setc vup
  by_cases e : q = a
  · subst e; rw [if_pos rfl, if_neg h, if_pos rfl, if_neg h, if_pos rfl]
  · rw [if_neg e]
    by_cases g : q = b
    · rw [if_pos g, if_pos g]
    · rw [if_neg g, if_neg g, if_neg e, if_neg e]
theorem decN (k : Nat) : nI (k + 1) + Int32.ofInt (-1) = nI k := by
  rw [nI_succ, show Int32.ofInt (-1) = -1 from rfl, Int32.add_assoc, show (1 : Int32) + -1 = 0 by decide, Int32.add_zero]
def s2 (D : Mm) (A B : Nat → Int32) : Mm := setc (setc D 177 A) 178 B
theorem s2_F {D : Mm} {A B : Nat → Int32} {q : Nat} (h1 : q ≠ 177) (h2 : q ≠ 178) : s2 D A B q = D q := by unfold s2; rw [setcF h2, setcF h1]
theorem s2_7 {D : Mm} {A B : Nat → Int32} {j : Nat} : s2 D A B 177 j = A j := by unfold s2; rw [setcF (by decide), setcE]
theorem s2_8 {D : Mm} {A B : Nat → Int32} {j : Nat} : s2 D A B 178 j = B j := by unfold s2; rw [setcE]
theorem s2_m7 {D : Mm} {A B : Nat → Int32} {j : Nat} {x : Int32} : mup (s2 D A B) 177 j x = s2 D (vup A j x) B := mup_setc2 (by decide)
theorem s2_m8 {D : Mm} {A B : Nat → Int32} {j : Nat} {x : Int32} : mup (s2 D A B) 178 j x = s2 D A (vup B j x) := mup_setc
theorem s2_self {D : Mm} : s2 D (D 177) (D 178) = D := by unfold s2; rw [setc_self, setc_self]
theorem s2_at {D : Mm} {A B : Nat → Int32} {q j : Nat} {x : Int32} (h1 : q ≠ 177) (h2 : q ≠ 178) (h : D q j = x) : s2 D A B q j = x := by rw [s2_F h1 h2]; exact h
set_option maxHeartbeats 100000 in
theorem T_finds0 {d : Nat} {D : Mm} {n : Nat} (hn : D 172 0 = nI n) (h12 : n ≤ 12) (hA : mClaims n (D 172) = 0) : Ct (d + 5) 141 [.ref 171] D (Ex none (s2 D (fil (D 177) 6 (fun _ => nI 0)) (fil (D 178) 6 (fun _ => nI 0)))) := by
  refine ent m141 rfl rfl (ls := [.ref 171, .retAddr 0, .retAddr 0, .retAddr 0, .retAddr 0, .retAddr 0]) rfl ?_
  refine w_ald0 i141_0 ?_
  refine w_vI1 i141_1 c136 (Or.inl rfl) ⟨by decide +kernel, by decide⟩ (by repeat (first | exact nv_nil | refine nv_cons (by first | rfl | assumption) ?_)) ⟨rfl, Nat.le_of_ble_eq_true rfl⟩ T_pooled ?_
  refine w_ist1 i141_4 ?_
  refine w_ald0 i141_5 ?_
  refine w_vI1 i141_6 c140 (Or.inl rfl) ⟨by decide +kernel, by decide⟩ (by repeat (first | exact nv_nil | refine nv_cons (by first | rfl | assumption) ?_)) ⟨rfl, Nat.le_of_ble_eq_true rfl⟩ (T_claims hn h12) ?_
  refine w_ist2 i141_9 ?_
  refine w_ild1 i141_10 ?_
  refine w_ist3 i141_11 ?_
  refine w_const i141_12 kc_0 ?_
  refine w_ist4 i141_13 ?_
  refine wpD (D2 := s2 D (fil (D 177) 0 (fun _ => nI 0)) (fil (D 178) 0 (fun _ => nI 0))) (by rw [fil0, fil0, s2_self]) ?_
  refine down0 (n := 6) (P := fun i => Wp _ _ _ 15 [.ref 171, .int (mPooled (D 172)), .int (mClaims n (D 172)), .int (subN (mPooled (D 172)) (fun _ => nI 0) i), .int (nI i), .retAddr 0] [] (s2 D (fil (D 177) i (fun _ => nI 0)) (fil (D 178) i (fun _ => nI 0)))) ?_ ?_
  · skip
    refine w_ild4 i141_15 ?_
    refine w_bip i141_17 kb_6 ?_
    refine w_cgeNT i141_19 g141_19 (by omega) (by omega) (by omega) ?_
    refine w_ild3 i141_88 ?_
    refine w_ile i141_89 g141_89  (fun h89 => ?_) (fun h89 => ?_)
    · skip
      refine w_rv i141_161 r141 ?_
      exact ⟨rfl, rfl⟩
    · skip
      refine w_ild2 i141_92 ?_
      refine w_ileT i141_93 g141_93  (by rw [hA]; decide) ?_
      refine w_rv i141_161 r141 ?_
      exact ⟨rfl, rfl⟩
  · intro i hi ih
    refine w_ild4 i141_15 ?_
    refine w_bip i141_17 kb_6 ?_
    refine w_cgeNF i141_19 (by omega) (by omega) (by omega) ?_
    refine w_ald0 i141_22 ?_
    refine w_gfR i141_23 (by decide) s_171 rfl ?_
    refine w_ild4 i141_26 ?_
    refine w_ild2 i141_28 ?_
    refine w_ineF i141_29  hA ?_
    refine w_const i141_32 kc_0 ?_
    refine w_goto i141_33 g141_33 ?_
    refine w_ias i141_46 s_177 (by decide) (by omega) ?_
    rw [s2_m7, filS (f := (fun _ => nI 0))]
    refine w_ald0 i141_47 ?_
    refine w_gfR i141_48 (by decide) s_171 rfl ?_
    refine w_ild4 i141_51 ?_
    refine w_ild2 i141_53 ?_
    refine w_ineF i141_54  hA ?_
    refine w_const i141_57 kc_0 ?_
    refine w_goto i141_58 g141_58 ?_
    refine w_ias i141_71 s_178 (by decide) (by omega) ?_
    rw [s2_m8, filS (f := (fun _ => nI 0))]
    refine w_ild3 i141_72 ?_
    refine w_ald0 i141_73 ?_
    refine w_gfR i141_74 (by decide) s_171 rfl ?_
    refine w_ild4 i141_77 ?_
    refine w_ial i141_79 s_177 (by decide) (by omega) rfl ?_
    refine w_isub i141_80 rfl ?_
    refine w_ist3 i141_81 ?_
    refine w_inc4 i141_82 (inc1 _) ?_
    refine w_goto i141_85 g141_85 ?_
    rw [show (s2 D (fil (D 177) (i + 1) (fun _ => nI 0)) (fil (D 178) (i + 1) (fun _ => nI 0))) 177 i = nI 0 from by rw [s2_7]; unfold fil; rw [if_pos (by omega)]]; exact ih
set_option maxHeartbeats 100000 in
theorem T_finds1 {d : Nat} {D : Mm} {Q : Option Value → Mm → Prop} {n L : Nat} (hn : D 172 0 = nI n) (h12 : n ≤ 12) (hA : 0 < mClaims n (D 172)) (hL2 : L < 2147483648) (hL : vLeft n (D 172) = nI L) (hq : Q none (s2 D (vHam L (fil (D 177) 6 (vPt n (D 172))) (fil (D 178) 6 (vRs n (D 172)))).1 (vHam L (fil (D 177) 6 (vPt n (D 172))) (fil (D 178) 6 (vRs n (D 172)))).2)) : Ct (d + 5) 141 [.ref 171] D Q := by
  have hA0 : ¬ mClaims n (D 172) = 0 := fun q => by rw [q] at hA; exact absurd hA (by decide)
  have hL : subN (mPooled (D 172)) (vPt n (D 172)) 6 = nI L := hL
  refine ent m141 rfl rfl (ls := [.ref 171, .retAddr 0, .retAddr 0, .retAddr 0, .retAddr 0, .retAddr 0]) rfl ?_
  refine w_ald0 i141_0 ?_
  refine w_vI1 i141_1 c136 (Or.inl rfl) ⟨by decide +kernel, by decide⟩ (by repeat (first | exact nv_nil | refine nv_cons (by first | rfl | assumption) ?_)) ⟨rfl, Nat.le_of_ble_eq_true rfl⟩ T_pooled ?_
  refine w_ist1 i141_4 ?_
  refine w_ald0 i141_5 ?_
  refine w_vI1 i141_6 c140 (Or.inl rfl) ⟨by decide +kernel, by decide⟩ (by repeat (first | exact nv_nil | refine nv_cons (by first | rfl | assumption) ?_)) ⟨rfl, Nat.le_of_ble_eq_true rfl⟩ (T_claims hn h12) ?_
  refine w_ist2 i141_9 ?_
  refine w_ild1 i141_10 ?_
  refine w_ist3 i141_11 ?_
  refine w_const i141_12 kc_0 ?_
  refine w_ist4 i141_13 ?_
  refine wpD (D2 := s2 D (fil (D 177) 0 (vPt n (D 172))) (fil (D 178) 0 (vRs n (D 172)))) (by rw [fil0, fil0, s2_self]) ?_
  refine down0 (n := 6) (P := fun i => Wp _ _ _ 15 [.ref 171, .int (mPooled (D 172)), .int (mClaims n (D 172)), .int (subN (mPooled (D 172)) (vPt n (D 172)) i), .int (nI i), .retAddr 0] [] (s2 D (fil (D 177) i (vPt n (D 172))) (fil (D 178) i (vRs n (D 172))))) ?_ ?_
  · skip
    refine w_ild4 i141_15 ?_
    refine w_bip i141_17 kb_6 ?_
    refine w_cgeNT i141_19 g141_19 (by omega) (by omega) (by omega) ?_
    have L88 : ∀ k (A B : Nat → Int32) (w u : Value), nvB w = true → nvB u = true → k < 2147483648 → Q none (s2 D (vHam k A B).1 (vHam k A B).2) → Wp (d + 4) 141 Q 88 [.ref 171, .int (mPooled (D 172)), .int (mClaims n (D 172)), .int (nI k), w, u] [] (s2 D A B) := by
      intro k
      induction k with
      | zero =>
        intro A B w u hw hu hk hq
        refine w_ild3 i141_88 ?_
        refine w_ileNT i141_89 g141_89 (by omega) (by omega) ?_
        refine w_rv i141_161 r141 ?_
        exact hq
      | succ k ih =>
        intro A B w u hw hu hk hq
        unfold vHam at hq
        refine w_ild3 i141_88 ?_
        refine w_ileNF i141_89 (by omega) (by omega) ?_
        refine w_ild2 i141_92 ?_
        refine w_ileF i141_93  hA ?_
        refine w_const i141_96 kc_0 ?_
        refine w_ist4 i141_97 ?_
        refine w_const i141_99 kc_1 ?_
        refine w_ist5 i141_100 ?_
        refine down0 (n := 5) (P := fun i => Wp _ _ _ 102 [.ref 171, .int (mPooled (D 172)), .int (mClaims n (D 172)), .int (nI (k + 1)), .int (nI (amx B i)), .int (nI (i + 1))] [] (s2 D A B)) ?_ ?_
        · skip
          have hb := amx_le (B := B) 5
          refine w_ild5 i141_102 ?_
          refine w_bip i141_104 kb_6 ?_
          refine w_cgeNT i141_106 g141_106 (by omega) (by omega) (by omega) ?_
          refine w_ald0 i141_136 ?_
          refine w_gfR i141_137 (by decide) s_171 rfl ?_
          refine w_ild4 i141_140 ?_
          refine w_dup2 i141_142 rfl rfl ?_
          refine w_ial i141_143 s_177 (by decide) (by omega) rfl ?_
          refine w_const i141_144 kc_1 ?_
          refine w_iadd i141_145 rfl ?_
          refine w_ias i141_146 s_177 (by decide) (by omega) ?_
          rw [s2_7, s2_m7]
          refine w_ald0 i141_147 ?_
          refine w_gfR i141_148 (by decide) s_171 rfl ?_
          refine w_ild4 i141_151 ?_
          refine w_const i141_153 kc_m1 ?_
          refine w_ias i141_154 s_178 (by decide) (by omega) ?_
          rw [s2_m8]
          refine w_inc3 i141_155 (decN _) ?_
          refine w_goto i141_158 g141_158 ?_
          exact ih _ _ _ _ rfl rfl (by omega) hq
        · intro i hi ih
          have hb := amx_le (B := B) i
          refine w_ild5 i141_102 ?_
          refine w_bip i141_104 kb_6 ?_
          refine w_cgeNF i141_106 (by omega) (by omega) (by omega) ?_
          refine w_ald0 i141_109 ?_
          refine w_gfR i141_110 (by decide) s_171 rfl ?_
          refine w_ild5 i141_113 ?_
          refine w_ial i141_115 s_178 (by decide) (by omega) s2_8 ?_
          refine w_ald0 i141_116 ?_
          refine w_gfR i141_117 (by decide) s_171 rfl ?_
          refine w_ild4 i141_120 ?_
          refine w_ial i141_122 s_178 (by decide) (by omega) s2_8 ?_
          refine w_cle i141_123 g141_123  (fun h123 => ?_) (fun h123 => ?_)
          · skip
            refine w_inc5 i141_130 (inc1 _) ?_
            refine w_goto i141_133 g141_133 ?_
            first | (rw [show amx B (i + 1) = _ from ifp_t h123] at ih; exact ih) | (rw [show amx B (i + 1) = _ from ifp_f (Int32.not_lt.mpr h123)] at ih; exact ih)
          · skip
            refine w_ild5 i141_126 ?_
            refine w_ist4 i141_128 ?_
            refine w_inc5 i141_130 (inc1 _) ?_
            refine w_goto i141_133 g141_133 ?_
            first | (rw [show amx B (i + 1) = _ from ifp_t h123] at ih; exact ih) | (rw [show amx B (i + 1) = _ from ifp_f (Int32.not_lt.mpr h123)] at ih; exact ih)
    rw [hL]
    exact L88 L _ _ _ _ rfl rfl hL2 hq
  · intro i hi ih
    refine w_ild4 i141_15 ?_
    refine w_bip i141_17 kb_6 ?_
    refine w_cgeNF i141_19 (by omega) (by omega) (by omega) ?_
    refine w_ald0 i141_22 ?_
    refine w_gfR i141_23 (by decide) s_171 rfl ?_
    refine w_ild4 i141_26 ?_
    refine w_ild2 i141_28 ?_
    refine w_ineT i141_29 g141_29  hA0 ?_
    refine w_ild1 i141_36 ?_
    refine w_ald0 i141_37 ?_
    refine w_ild4 i141_38 ?_
    refine w_vI2 i141_40 c139 (Or.inl rfl) ⟨by decide +kernel, by decide⟩ (by repeat (first | exact nv_nil | refine nv_cons (by first | rfl | assumption) ?_)) ⟨rfl, Nat.le_of_ble_eq_true rfl⟩ (U_claim (s2_F (by decide) (by decide)) hn h12 (by omega)) ?_
    refine w_imul i141_43 rfl ?_
    refine w_ild2 i141_44 ?_
    refine w_idiv i141_45 hA0 rfl ?_
    refine w_ias i141_46 s_177 (by decide) (by omega) ?_
    rw [s2_m7, show mPooled (D 172) * mClaim n (D 172) i / mClaims n (D 172) = vPt n (D 172) i from rfl, filS]
    refine w_ald0 i141_47 ?_
    refine w_gfR i141_48 (by decide) s_171 rfl ?_
    refine w_ild4 i141_51 ?_
    refine w_ild2 i141_53 ?_
    refine w_ineT i141_54 g141_54  hA0 ?_
    refine w_ild1 i141_61 ?_
    refine w_ald0 i141_62 ?_
    refine w_ild4 i141_63 ?_
    refine w_vI2 i141_65 c139 (Or.inl rfl) ⟨by decide +kernel, by decide⟩ (by repeat (first | exact nv_nil | refine nv_cons (by first | rfl | assumption) ?_)) ⟨rfl, Nat.le_of_ble_eq_true rfl⟩ (U_claim (s2_F (by decide) (by decide)) hn h12 (by omega)) ?_
    refine w_imul i141_68 rfl ?_
    refine w_ild2 i141_69 ?_
    refine w_irem i141_70 hA0 rfl ?_
    refine w_ias i141_71 s_178 (by decide) (by omega) ?_
    rw [s2_m8, show mPooled (D 172) * mClaim n (D 172) i - mPooled (D 172) * mClaim n (D 172) i / mClaims n (D 172) * mClaims n (D 172) = vRs n (D 172) i from rfl, filS]
    refine w_ild3 i141_72 ?_
    refine w_ald0 i141_73 ?_
    refine w_gfR i141_74 (by decide) s_171 rfl ?_
    refine w_ild4 i141_77 ?_
    refine w_ial i141_79 s_177 (by decide) (by omega) rfl ?_
    refine w_isub i141_80 rfl ?_
    refine w_ist3 i141_81 ?_
    refine w_inc4 i141_82 (inc1 _) ?_
    refine w_goto i141_85 g141_85 ?_
    rw [show (s2 D (fil (D 177) (i + 1) (vPt n (D 172))) (fil (D 178) (i + 1) (vRs n (D 172)))) 177 i = vPt n (D 172) i from by rw [s2_7]; unfold fil; rw [if_pos (by omega)]]; exact ih
theorem T_finds {d : Nat} {D : Mm} {Q : Option Value → Mm → Prop} {V : Nat → Int32} {n : Nat} (hV : D 172 = V) (hn : V 0 = nI n) (h12 : n ≤ 12) (hF : ¬ mClaims n V = 0 → 0 < mClaims n V ∧ ¬ vLeft n V < 0) (hq : ∀ D2 : Mm, (∀ h, h < 6 → D2 177 h = vParts n V h) → (∀ q, q ≠ 177 → q ≠ 178 → D2 q = D q) → Q none D2) : Ct (d + 5) 141 [.ref 171] D Q := by
  subst hV
  by_cases hA : mClaims n (D 172) = 0
  · refine Ct_exq (T_finds0 hn h12 hA) (hq _ (fun h hh => ?_) (fun q a b => s2_F a b))
    rw [s2_7, fil6 h hh]; unfold vParts; rw [ifp_t hA]
  · obtain ⟨h1, h2⟩ := hF hA
    obtain ⟨L, hL, e⟩ := nI_of h2
    refine T_finds1 hn h12 h1 hL e (hq _ (fun h hh => ?_) (fun q a b => s2_F a b))
    rw [s2_7, vHam_ag L fil6 fil6 h hh]
    unfold vParts
    rw [ifp_f hA, e, nI_clamp hL]
def vSh (P : Nat → Int32) (h : Nat) (V : Nat → Int32) : Nat → Int32 := vup (vup V (6 + 4 * h + 2) (V (6 + 4 * h + 2) + P h)) (6 + 4 * h + 3) (nI 0)
noncomputable def vShares (n : Nat) (V : Nat → Int32) : Out := ifp (mPooled V = 0) (.inl (-1014, [(nI 11, nI n)])) (ifp (mClaims n V = 0) (.inl (-1014, [(nI 12, mPooled V)]))
  (.inr (sumN 6 (fun h => ifp (vParts n V h ≤ 0) (nI 0) (nI 1)), itr (vSh (vParts n V)) 6 V)))
set_option maxHeartbeats 100000 in
theorem T_shares {d : Nat} {D : Mm} {Q : Option Value → Mm → Prop} {V : Nat → Int32} {n : Nat} (hV : D 172 = V) (hn : V 0 = nI n) (h12 : n ≤ 12) (hF : ¬ mClaims n V = 0 → 0 < mClaims n V ∧ ¬ vLeft n V < 0) (h : OutM (vShares n V) D Q) : Ct (d + 6) 142 [.ref 171] D Q := by
  subst hV
  refine ent m142 rfl rfl (ls := [.ref 171, .retAddr 0, .retAddr 0]) rfl ?_
  refine w_ald0 i142_0 ?_
  refine w_vI1 i142_1 c136 (Or.inl rfl) ⟨by decide +kernel, by decide⟩ rfl ⟨rfl, Nat.le_of_ble_eq_true rfl⟩ T_pooled ?_
  refine w_ine i142_4 g142_4  (fun h4 => ?_) (fun h4 => ?_)
  · skip
    refine w_ald0 i142_20 ?_
    refine w_vI1 i142_21 c140 (Or.inl rfl) ⟨by decide +kernel, by decide⟩ rfl ⟨rfl, Nat.le_of_ble_eq_true rfl⟩ (T_claims hn h12) ?_
    refine w_ine i142_24 g142_24  (fun h24 => ?_) (fun h24 => ?_)
    · skip
      refine w_const i142_38 kc_0 ?_
      refine w_ist1 i142_39 ?_
      refine w_ald0 i142_40 ?_
      refine w_vG1 i142_41 c141 (Or.inl rfl) ⟨by decide +kernel, by decide⟩ rfl ⟨rfl, Nat.le_of_ble_eq_true rfl⟩ ?_
      refine T_finds rfl hn h12 hF (fun D2 g1 g2 => ?_)
      have g3 : D2 172 = D 172 := g2 172 (by decide) (by decide)
      refine w_const i142_44 kc_0 ?_
      refine w_ist2 i142_45 ?_
      refine wpD (D2 := setc D2 172 (itr (vSh (vParts n (D 172))) 0 (D 172))) (by show D2 = setc D2 172 (D 172); rw [← g3, setc_self]) ?_
      refine down0 (n := 6) (P := fun i => Wp _ _ _ 46 [.ref 171, .int (sumN i (fun h => ifp (vParts n (D 172) h ≤ 0) (nI 0) (nI 1))), .int (nI i)] [] (setc D2 172 (itr (vSh (vParts n (D 172))) i (D 172)))) ?_ ?_
      · skip
        refine w_ild2 i142_46 ?_
        refine w_bip i142_47 kb_6 ?_
        refine w_cgeNT i142_49 g142_49 (by omega) (by omega) (by omega) ?_
        refine w_ild1 i142_105 ?_
        refine w_ri i142_106 r142 ?_
        exact (OutF (OutF h h4) h24) _ setcE (fun j _ => by rw [setcF (by decide), g2 171 (by decide) (by decide)]) (fun q a b c e => by rw [setcF b, g2 q c e])
      · intro i hi ih
        refine w_ild2 i142_46 ?_
        refine w_bip i142_47 kb_6 ?_
        refine w_cgeNF i142_49 (by omega) (by omega) (by omega) ?_
        refine w_ild1 i142_52 ?_
        refine w_ald0 i142_53 ?_
        refine w_gfR i142_54 (by decide) s_171 rfl ?_
        refine w_ild2 i142_57 ?_
        refine w_ial i142_58 s_177 (by decide) (by omega) ((setcG (by decide)).trans (g1 _ (by omega))) ?_
        refine w_ile i142_59 g142_59  (fun h59 => ?_) (fun h59 => ?_)
        · skip
          refine w_const i142_66 kc_0 ?_
          refine w_iadd i142_67 rfl ?_
          refine w_ist1 i142_68 ?_
          refine w_ald0 i142_69 ?_
          refine w_gfR i142_70 (by decide) s_171 rfl ?_
          refine w_ild2 i142_73 ?_
          refine w_const i142_74 kc_2 ?_
          refine w_sI2 i142_75 c114 rfl  rfl ⟨rfl, Nat.le_of_ble_eq_true rfl⟩ T_at ?_
          refine w_dup2 i142_78 rfl rfl ?_
          refine w_ial i142_79 s_172 (by decide) (by omega) setcR ?_
          refine w_ald0 i142_80 ?_
          refine w_gfR i142_81 (by decide) s_171 rfl ?_
          refine w_ild2 i142_84 ?_
          refine w_ial i142_85 s_177 (by decide) (by omega) ((setcG (by decide)).trans (g1 _ (by omega))) ?_
          refine w_iadd i142_86 rfl ?_
          refine w_iasS i142_87 s_172 (by decide) (by omega) ?_
          refine w_ald0 i142_88 ?_
          refine w_gfR i142_89 (by decide) s_171 rfl ?_
          refine w_ild2 i142_92 ?_
          refine w_const i142_93 kc_3 ?_
          refine w_sI2 i142_94 c114 rfl  rfl ⟨rfl, Nat.le_of_ble_eq_true rfl⟩ T_at ?_
          refine w_const i142_97 kc_0 ?_
          refine w_iasS i142_98 s_172 (by decide) (by omega) ?_
          refine w_inc2 i142_99 (inc1 _) ?_
          refine w_goto i142_102 g142_102 ?_
          rw [sumS] at ih
          first | (rw [ifp_t h59] at ih; exact ih) | (rw [ifp_f (Int32.not_le.mpr h59)] at ih; exact ih)
        · skip
          refine w_const i142_62 kc_1 ?_
          refine w_goto i142_63 g142_63 ?_
          refine w_iadd i142_67 rfl ?_
          refine w_ist1 i142_68 ?_
          refine w_ald0 i142_69 ?_
          refine w_gfR i142_70 (by decide) s_171 rfl ?_
          refine w_ild2 i142_73 ?_
          refine w_const i142_74 kc_2 ?_
          refine w_sI2 i142_75 c114 rfl  rfl ⟨rfl, Nat.le_of_ble_eq_true rfl⟩ T_at ?_
          refine w_dup2 i142_78 rfl rfl ?_
          refine w_ial i142_79 s_172 (by decide) (by omega) setcR ?_
          refine w_ald0 i142_80 ?_
          refine w_gfR i142_81 (by decide) s_171 rfl ?_
          refine w_ild2 i142_84 ?_
          refine w_ial i142_85 s_177 (by decide) (by omega) ((setcG (by decide)).trans (g1 _ (by omega))) ?_
          refine w_iadd i142_86 rfl ?_
          refine w_iasS i142_87 s_172 (by decide) (by omega) ?_
          refine w_ald0 i142_88 ?_
          refine w_gfR i142_89 (by decide) s_171 rfl ?_
          refine w_ild2 i142_92 ?_
          refine w_const i142_93 kc_3 ?_
          refine w_sI2 i142_94 c114 rfl  rfl ⟨rfl, Nat.le_of_ble_eq_true rfl⟩ T_at ?_
          refine w_const i142_97 kc_0 ?_
          refine w_iasS i142_98 s_172 (by decide) (by omega) ?_
          refine w_inc2 i142_99 (inc1 _) ?_
          refine w_goto i142_102 g142_102 ?_
          rw [sumS] at ih
          first | (rw [ifp_t h59] at ih; exact ih) | (rw [ifp_f (Int32.not_le.mpr h59)] at ih; exact ih)
    · skip
      refine w_ald0 i142_27 ?_
      refine w_bip i142_28 kb_12 ?_
      refine w_ald0 i142_30 ?_
      refine w_vI1 i142_31 c136 (Or.inl rfl) ⟨by decide +kernel, by decide⟩ rfl ⟨rfl, Nat.le_of_ble_eq_true rfl⟩ T_pooled ?_
      refine w_vI3 i142_34 c109 (Or.inl rfl) ⟨by decide +kernel, by decide⟩ rfl ⟨rfl, Nat.le_of_ble_eq_true rfl⟩ T_refuses ?_
      refine w_ri i142_37 r142 ?_
      exact (OutT (OutF h h4) h24) _ rfl (by intro q hq hq2; simp only [mRB, mRef, mupF hq, mupF hq2, setcF hq2])
  · skip
    refine w_ald0 i142_7 ?_
    refine w_bip i142_8 kb_11 ?_
    refine w_ald0 i142_10 ?_
    refine w_gfR i142_11 (by decide) s_171 rfl ?_
    refine w_const i142_14 kc_0 ?_
    refine w_ial i142_15 s_172 (by decide) (by omega) hn ?_
    refine w_vI3 i142_16 c109 (Or.inl rfl) ⟨by decide +kernel, by decide⟩ rfl ⟨rfl, Nat.le_of_ble_eq_true rfl⟩ T_refuses ?_
    refine w_ri i142_19 r142 ?_
    exact (OutT h h4) _ rfl (by intro q hq hq2; simp only [mRB, mRef, mupF hq, mupF hq2, setcF hq2])
