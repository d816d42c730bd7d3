/-! builders are made -/
theorem mup_ix {D : Mm} {o c : Nat} {x : Int32} (h : D o c = x) : mup D o c x = D := by
  funext q j
  unfold mup
  by_cases e : q = o
  · rw [if_pos e]
    by_cases e2 : j = c
    · rw [if_pos e2, e, e2, h]
    · rw [if_neg e2]
  · rw [if_neg e]
/-- a builder that is made, its row not yet -/
def NwX (D : Mm) (lo u o : Nat) : Prop := dyn D o 0 ∧ D o 1 = nI 0 ∧ D o 3 = nI 0 ∧ DB + lo ≤ o ∧ nxt D ≤ usd D ∧ usd D ≤ u ∧ u ≤ 1000000
theorem NwX.new {D : Mm} {u : Nat} (h1 : nxt D ≤ usd D) (h2 : usd D + 5 ≤ u) (h3 : u ≤ 1000000) : NwX (alD D (rwO 0) 4) (nxt D) u (DB + nxt D) := by
  have hf : fitU D 4 := ⟨by omega, h1⟩
  refine ⟨dyn_new hf (by rw [rwO_k]; exact nI_clamp (by omega)), ?_, ?_, Nat.le_refl _, by rw [al_nxt hf, al_usd hf]; omega, by rw [al_usd hf]; omega, h3⟩
  · rw [al_new]; decide
  · rw [al_new]; decide
theorem NwX.fr {D D2 : Mm} {lo u u2 o : Nat} (h : NwX D lo u o) (hn : nxt D ≤ nxt D2) (ho : D2 o = D o) (h1 : nxt D2 ≤ usd D2) (h2 : usd D2 ≤ u2) (h3 : u2 ≤ 1000000) : NwX D2 lo u2 o :=
  ⟨dyn_fr h.1 hn ho, by rw [ho]; exact h.2.1, by rw [ho]; exact h.2.2.1, h.2.2.2.1, h1, h2, h3⟩
def inX (D : Mm) (o n : Nat) : Mm := mup (alD D (rwA 22 n) n) o 0 (nI (DB + nxt D))
theorem init_x {D : Mm} {lo T u o n : Nat} (h : NwX D lo u o) (h0 : 1 ≤ n) (h1 : n ≤ 2 * T + 16) (hT : T ≤ 5000) : SbX (inX D o n) lo T u o (DB + nxt D) [] ∧ FrD D (inX D o n) o o ∧ fitU D n ∧ lo ≤ nxt D := by
  obtain ⟨a1, a2, a3, a4, a5, a6, a7⟩ := h
  have go := dyn_ge a1
  have hL := LENv; have hB := DBv; have hK := KNDv
  have hf : fitU D n := ⟨by omega, a5⟩
  have hne : o ≠ DB + nxt D := by omega
  have eo : ∀ j, j ≠ 0 → inX D o n o j = D o j := fun j hj => by
    unfold inX
    rw [show mup (alD D (rwA 22 n) n) o 0 (nI (DB + nxt D)) o j = alD D (rwA 22 n) n o j from mupJ hj, al_old hne (by omega)]
  have eb : inX D o n (DB + nxt D) = rwA 22 n := by
    unfold inX
    rw [mupF (fun e => hne e.symm), al_new]
  have ec : cap (inX D o n) (DB + nxt D) = n := by
    unfold cap
    rw [eb, rwA_l]; exact nI_clamp (by omega)
  have eu : usd (inX D o n) = usd D + (n + 1) := by unfold inX; rw [usd_mup (by omega), al_usd hf]
  have en : nxt (inX D o n) = nxt D + 1 := by unfold inX; rw [nxt_mup (by omega), al_nxt hf]
  refine ⟨⟨dyn_mup (dyn_al a1 hf) (by omega) (Or.inr (by omega)), dyn_mup (dyn_new hf (by rw [rwA_k]; exact nI_clamp (by omega))) (by omega) (Or.inl hne), mupE, (eo 1 (by decide)).trans a2, (eo 3 (by decide)).trans a3, Nat.zero_le _, by rw [ec]; exact h1, hT, ⟨fun i hi => absurd hi (Nat.not_lt_zero i), fun c hc => (by cases hc)⟩, fun j hj => ?_, ⟨a4, by omega⟩, by rw [en, eu]; omega, by rw [eu, ec]; omega, a7⟩, ⟨fun q x1 x2 x3 x4 => ?_, by rw [en]; omega⟩, hf, by omega⟩
  · rw [ec] at hj
    rw [eb, rwA_0 (by omega)]; decide
  · unfold inX
    rw [mupF x3, al_old (by omega) x2]
set_option maxHeartbeats 100000 in
theorem K_init0 {d : Nat} {D : Mm} {Q : Option Value → Mm → Prop} {lo T u o : Nat} (h : NwX D lo u o) (hT : T ≤ 5000) (hq : SbX (inX D o 16) lo T u o (DB + nxt D) [] → FrD D (inX D o 16) o o → Q none (inX D o 16)) : Ct (d + 1) 124 [.ref o, .int (nI 16)] D Q := by
  have hdo := h.1.1
  have go := dyn_ge h.1
  have hBE := DBv
  have hKE := KNDv
  obtain ⟨g1, g2, hf, g4⟩ := init_x (T := T) (n := 16) h (by omega) (by omega) hT
  have hod := dyn_al (f := rwA 22 16) (n := 16) h.1 hf
  have hbd := dyn_new (f := rwA 22 16) (k := 22) hf (by rw [rwA_k]; exact nI_clamp (by omega))
  refine ent m124 rfl rfl (ls := [.ref o, .int (nI 16)]) rfl ?_
  refine w_ald0 i124_0 ?_
  refine w_oin i124_1 ⟨rfl, Nat.le_of_ble_eq_true rfl⟩ ?_
  refine w_gst (w := .int (nI 1)) i124_4 rfl ?_
  refine w_ieqNF i124_7 (by omega) (by omega) ?_
  refine w_ald0 i124_10 ?_
  refine w_ild1 i124_11 ?_
  refine w_nab i124_12 (by omega) (nvL_ok (by repeat (first | exact nvL_nil | refine nvL_cons (by first | assumption | trivial | exact nvSt (by decide) | exact nvD (by assumption) | exact nvK (by omega) (by omega)) ?_))) (nvL_ok (by repeat (first | exact nvL_nil | refine nvL_cons (by first | assumption | trivial | exact nvSt (by decide) | exact nvD (by assumption) | exact nvK (by omega) (by omega)) ?_))) hf ?_
  refine w_pfDR i124_14 hod hbd.1 ?_
  refine w_ald0 i124_17 ?_
  refine w_const i124_18 kc_0 ?_
  refine w_pfDB i124_19 g1.ob (by decide) (by decide) ⟨by decide, by decide⟩ ?_
  rw [mup_ix (D := mup (alD D (rwA 22 16) 16) o 0 (nI (DB + nxt D))) (x := nI 0) g1.cod]
  refine w_goto i124_22 g124_22 ?_
  refine w_rv i124_38 r124 ?_
  exact hq g1 g2
set_option maxHeartbeats 100000 in
theorem K_newSB {d : Nat} {D : Mm} {Q : Option Value → Mm → Prop} {lo T u o : Nat} (h : NwX D lo u o) (hT : T ≤ 5000) (hq : ∀ D2 b2, SbX D2 lo T u o b2 [] → FrD D D2 o o → DB + nxt D ≤ b2 → Q none D2) : Ct (d + 2) 122 [.ref o] D Q := by
  have hdo := h.1.1
  have go := dyn_ge h.1
  have hBE := DBv
  have hKE := KNDv
  
  refine ent m122 rfl rfl (ls := [.ref o]) rfl ?_
  refine w_ald0 i122_0 ?_
  refine w_bip i122_1 kb_16 ?_
  refine w_PD2 i122_3 c124 (Or.inr rfl) (Or.inr ⟨h.1.1, by rw [h.1.2]; decide +kernel, by rw [h.1.2]; decide⟩) (by repeat (first | exact nvL_nil | refine nvL_cons (by first | assumption | trivial | exact nvSt (by decide) | exact nvD (by assumption) | exact nvK (by omega) (by omega)) ?_)) ⟨(by repeat (first | exact nvL_nil | refine nvL_cons (by first | assumption | trivial | exact nvSt (by decide) | exact nvD (by assumption) | exact nvK (by omega) (by omega)) ?_)), rfl, Nat.le_of_ble_eq_true rfl⟩ ?_
  refine K_init0 h hT (fun g1 g2 => ?_)
  refine w_rv i122_6 r122 ?_
  exact hq _ _ g1 g2 (Nat.le_refl _)
set_option maxHeartbeats 100000 in
theorem K_initS0 {d : Nat} {D : Mm} {Q : Option Value → Mm → Prop} {lo T u o : Nat} (h : NwX D lo u o) (hT : T ≤ 5000) {a bt : Nat} {k : List Nat} (x : TxD D a bt k) (hk : k.length ≤ T) (hq : ∀ D2 b2, SbX D2 lo T u o b2 k → FrD D D2 o o → DB + nxt D ≤ b2 → Q none D2) : Ct (d + 8) 125 [.ref o, .ref a] D Q := by
  have hdo := h.1.1
  have go := dyn_ge h.1
  have hBE := DBv
  have hKE := KNDv
  have hna := x.nv.1
  have hkl := x.2.1
  obtain ⟨g1, g2, hf, g4⟩ := init_x (T := T) (n := k.length + 16) h (by omega) (by omega) hT
  have hod := dyn_al (f := rwA 22 (k.length + 16)) (n := k.length + 16) h.1 hf
  have hbd := dyn_new (f := rwA 22 (k.length + 16)) (k := 22) hf (by rw [rwA_k]; exact nI_clamp (by omega))
  have hao : a ≠ o := fun e => by
    rcases x.2.2 with ⟨z1, -⟩ | ⟨z1, z2, -⟩
    · have q1 := z1.2; have q2 := h.1.2; rw [e] at q1; omega
    · omega
  have hbo : bt ≠ o ∧ bt ≠ DB + nxt D ∧ a ≠ DB + nxt D := by
    rcases x.2.2 with ⟨z1, z2, -⟩ | ⟨z1, z2, z3, -⟩
    · have q1 := z2.2; have q2 := h.1.2; have q3 := dyn_ge z2; have q4 := dyn_ge z1
      exact ⟨fun e => by rw [e] at q1; omega, by omega, by omega⟩
    · omega
  have x2 : TxD (inX D o (k.length + 16)) a bt k := by
    refine x.fr g2.2 ?_ ?_
    · rcases Nat.lt_or_ge a 5000 with q | q
      · exact Or.inl q
      · rcases x.2.2 with ⟨z1, -⟩ | ⟨z1, z2, -⟩
        · exact Or.inr (g2.1 a z1.1.2 (by omega) hao hao)
        · omega
    · rcases Nat.lt_or_ge bt 5000 with q | q
      · exact Or.inl q
      · rcases x.2.2 with ⟨z1, z2, -⟩ | ⟨z1, z2, z3, -⟩
        · exact Or.inr (g2.1 bt z2.1.2 (by omega) hbo.1 hbo.1)
        · omega
  have hna2 := x2.nv.1
  have hdo2 := g1.ob.1
  refine ent m125 rfl rfl (ls := [.ref o, .ref a, .retAddr 0, .retAddr 0, .retAddr 0]) rfl ?_
  refine w_ald0 i125_0 ?_
  refine w_oin i125_1 ⟨rfl, Nat.le_of_ble_eq_true rfl⟩ ?_
  refine w_ald1 i125_4 ?_
  refine w_VD1 i125_5 c204 (Or.inl rfl) (x.rec (by decide +kernel)) (by repeat (first | exact nvL_nil | refine nvL_cons (by first | assumption | trivial | exact nvSt (by decide) | exact nvD (by assumption) | exact nvK (by omega) (by omega)) ?_)) ⟨(by repeat (first | exact nvL_nil | refine nvL_cons (by first | assumption | trivial | exact nvSt (by decide) | exact nvD (by assumption) | exact nvK (by omega) (by omega)) ?_)), rfl, Nat.le_of_ble_eq_true rfl⟩ (Ex_go (K_slenX x) ?_)
  refine w_ist2 i125_8 ?_
  refine w_ild2 i125_9 ?_
  refine w_ldcI i125_10 (c := 1) rfl rfl ?_
  refine w_cgeF i125_12  (by exact Int32.lt_iff_toInt_lt.mpr (by rw [nI_toInt (by omega)]; exact Int.lt_of_le_of_lt (by omega : ((k.length : Nat) : Int) ≤ 5000) (by decide))) ?_
  refine w_ild2 i125_15 ?_
  refine w_bip i125_16 kb_16 ?_
  refine w_iadd i125_18 (nI_add _ _) ?_
  refine w_goto i125_19 g125_19 ?_
  refine w_ist3 i125_24 ?_
  refine w_ald1 i125_25 ?_
  refine w_VD1 i125_26 c209 (Or.inl rfl) (x.rec (by decide +kernel)) (by repeat (first | exact nvL_nil | refine nvL_cons (by first | assumption | trivial | exact nvSt (by decide) | exact nvD (by assumption) | exact nvK (by omega) (by omega)) ?_)) ⟨(by repeat (first | exact nvL_nil | refine nvL_cons (by first | assumption | trivial | exact nvSt (by decide) | exact nvD (by assumption) | exact nvK (by omega) (by omega)) ?_)), rfl, Nat.le_of_ble_eq_true rfl⟩ (Ex_go (K_codX x) ?_)
  refine w_ist4 i125_29 ?_
  refine w_ald0 i125_31 ?_
  refine w_ild4 i125_32 ?_
  refine w_pfDB i125_34 h.1 (by decide) (by decide) ⟨by decide, by decide⟩ ?_
  rw [mup_ix h.2.1]
  refine w_ald0 i125_37 ?_
  refine w_ild4 i125_38 ?_
  refine w_ineNF i125_40 (by omega) (by omega) ?_
  refine w_ild3 i125_43 ?_
  refine w_nab i125_44 (by omega) (nvL_ok (by repeat (first | exact nvL_nil | refine nvL_cons (by first | assumption | trivial | exact nvSt (by decide) | exact nvD (by assumption) | exact nvK (by omega) (by omega)) ?_))) (nvL_ok (by repeat (first | exact nvL_nil | refine nvL_cons (by first | assumption | trivial | exact nvSt (by decide) | exact nvD (by assumption) | exact nvK (by omega) (by omega)) ?_))) hf ?_
  refine w_goto i125_46 g125_46 ?_
  refine w_pfDR i125_53 hod hbd.1 ?_
  refine w_ald0 i125_56 ?_
  refine w_ald1 i125_57 ?_
  refine w_VD2 i125_58 c127 (Or.inr (Or.inr rfl)) (g1.rec (by decide +kernel)) (by repeat (first | exact nvL_nil | refine nvL_cons (by first | assumption | trivial | exact nvSt (by decide) | exact nvD (by assumption) | exact nvK (by omega) (by omega)) ?_)) ⟨(by repeat (first | exact nvL_nil | refine nvL_cons (by first | assumption | trivial | exact nvSt (by decide) | exact nvD (by assumption) | exact nvK (by omega) (by omega)) ?_)), rfl, Nat.le_of_ble_eq_true rfl⟩ ?_
  refine K_appSDb g1 x2 (by rw [List.length_nil]; omega) hao hbo.2.1 (fun D2 b2 g => ?_)
  rw [List.nil_append] at g
  refine w_pop i125_61 rfl ?_
  refine w_rv i125_62 r125 ?_
  refine hq D2 b2 g.1 ⟨fun q y1 y2 y3 y4 => (g.2.1.1 q (by have := g2.2; omega) y2 y3 (by omega)).trans (g2.1 q y1 y2 y3 y4), Nat.le_trans g2.2 g.2.1.2⟩ ?_
  have := g2.2
  rcases g.2.2 with e | e <;> omega
set_option maxHeartbeats 100000 in
theorem K_newSBS {d : Nat} {D : Mm} {Q : Option Value → Mm → Prop} {lo T u o : Nat} (h : NwX D lo u o) (hT : T ≤ 5000) {a bt : Nat} {k : List Nat} (x : TxD D a bt k) (hk : k.length ≤ T) (hq : ∀ D2 b2, SbX D2 lo T u o b2 k → FrD D D2 o o → DB + nxt D ≤ b2 → Q none D2) : Ct (d + 9) 123 [.ref o, .ref a] D Q := by
  have hdo := h.1.1
  have go := dyn_ge h.1
  have hBE := DBv
  have hKE := KNDv
  have hna := x.nv.1
  have hkl := x.2.1
  
  refine ent m123 rfl rfl (ls := [.ref o, .ref a]) rfl ?_
  refine w_ald0 i123_0 ?_
  refine w_ald1 i123_1 ?_
  refine w_PD2 i123_2 c125 (Or.inr rfl) (Or.inr ⟨h.1.1, by rw [h.1.2]; decide +kernel, by rw [h.1.2]; decide⟩) (by repeat (first | exact nvL_nil | refine nvL_cons (by first | assumption | trivial | exact nvSt (by decide) | exact nvD (by assumption) | exact nvK (by omega) (by omega)) ?_)) ⟨(by repeat (first | exact nvL_nil | refine nvL_cons (by first | assumption | trivial | exact nvSt (by decide) | exact nvD (by assumption) | exact nvK (by omega) (by omega)) ?_)), rfl, Nat.le_of_ble_eq_true rfl⟩ ?_
  refine K_initS0 h hT x hk (fun D2 b2 g1 g2 g3 => ?_)
  refine w_rv i123_5 r123 ?_
  exact hq _ _ g1 g2 g3
