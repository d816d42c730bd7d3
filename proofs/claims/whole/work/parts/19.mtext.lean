/-! the reference, reading -/
def dgs (U : Nat → Nat) (e : Nat) : Nat → Nat → Nat → Nat × Nat
  | 0, x, p => (x, p)
  | k + 1, x, p => if p < e ∧ 48 ≤ U p ∧ U p ≤ 57 then dgs U e k (10 * x + (U p - 48)) (p + 1) else (x, p)
theorem dgs_no {U : Nat → Nat} {e k x p : Nat} (h : ¬ (p < e ∧ 48 ≤ U p ∧ U p ≤ 57)) : dgs U e (k + 1) x p = (x, p) := by unfold dgs; rw [if_neg h]
theorem dgs_ye {U : Nat → Nat} {e k x p : Nat} (h : p < e ∧ 48 ≤ U p ∧ U p ≤ 57) : dgs U e (k + 1) x p = dgs U e k (10 * x + (U p - 48)) (p + 1) := by rw [dgs]; rw [if_pos h]
theorem dgs_le {U : Nat → Nat} {e : Nat} : ∀ k x p, p ≤ e → p ≤ (dgs U e k x p).2 ∧ (dgs U e k x p).2 ≤ e := by
  intro k
  induction k with
  | zero => intro x p h; exact ⟨Nat.le_refl _, h⟩
  | succ k ih =>
    intro x p h
    by_cases g : p < e ∧ 48 ≤ U p ∧ U p ≤ 57
    · rw [dgs_ye g]
      have := ih (10 * x + (U p - 48)) (p + 1) g.1
      exact ⟨by omega, this.2⟩
    · rw [dgs_no g]
      exact ⟨Nat.le_refl _, h⟩
/-- a text that is read: where, and whether wrong -/
def PSt (D : Mm) (U : Nat → Nat) (e p w : Nat) : Prop := D 171 20 = nI p ∧ D 171 21 = nI e ∧ p ≤ e ∧ e ≤ 60 ∧ (∀ i, i < e → D 179 i = nI (U i)) ∧ (∀ i, i < e → 32 ≤ U i ∧ U i ≤ 126) ∧ D 171 23 = nI w
def FrP (D D2 : Mm) : Prop := (∀ j, j ≠ 20 → j ≠ 23 → D2 171 j = D 171 j) ∧ (∀ q, q ≠ 171 → D2 q = D q)
theorem FrP.rf {D : Mm} : FrP D D := ⟨fun _ _ _ => rfl, fun _ _ => rfl⟩
theorem FrP.tr {D D2 D3 : Mm} (h : FrP D D2) (g : FrP D2 D3) : FrP D D3 := ⟨fun j a b => (g.1 j a b).trans (h.1 j a b), fun q a => (g.2 q a).trans (h.2 q a)⟩
theorem FrP.u20 {D D2 : Mm} {x : Int32} (h : FrP D D2) : FrP D (mup D2 171 20 x) := ⟨fun j a b => (mupJ a).trans (h.1 j a b), fun q a => (mupF a).trans (h.2 q a)⟩
theorem FrP.u23 {D D2 : Mm} {x : Int32} (h : FrP D D2) : FrP D (mup D2 171 23 x) := ⟨fun j a b => (mupJ b).trans (h.1 j a b), fun q a => (mupF a).trans (h.2 q a)⟩
theorem PSt.of {D D2 : Mm} {U : Nat → Nat} {e p w p2 w2 : Nat} (h : PSt D U e p w) (f : FrP D D2) (h2 : D2 171 20 = nI p2) (h3 : D2 171 23 = nI w2) (hp : p2 ≤ e) : PSt D2 U e p2 w2 := by
  obtain ⟨a1, a2, a3, a4, a5, a6, a7⟩ := h
  refine ⟨h2, ?_, hp, a4, ?_, a6, h3⟩
  · rw [f.1 21 (by decide) (by decide)]; exact a2
  · intro i hi; rw [f.2 179 (by decide)]; exact a5 i hi
theorem PSt.w0 {D : Mm} {U : Nat → Nat} {e p w : Nat} (h : PSt D U e p w) (g : w = 0) : PSt D U e p 0 := g ▸ h
theorem nI_or0 : nI 0 ||| nI 0 = nI 0 := by decide
theorem nI_or1 : nI 0 ||| nI 1 = nI 1 := by decide
theorem nI_badR {x a b : Nat} (h : x < a ∨ b < x) (hb : x < 2147483648 ∧ a < 2147483648 ∧ b < 2147483648) : badR (nI x) (nI a) (nI b) := by
  rcases h with h | h
  · left; exact Int32.lt_iff_toInt_lt.mpr (by rw [nI_toInt hb.1, nI_toInt hb.2.1]; omega)
  · right; exact Int32.lt_iff_toInt_lt.mpr (by rw [nI_toInt hb.1, nI_toInt hb.2.2]; omega)
theorem ne1 {c : Nat} (h : c < 2147483648) : ¬ (-1 : Int32) = nI c := by
  intro e
  have := congrArg Int32.toInt e
  rw [nI_toInt h] at this
  have e2 : (-1 : Int32).toInt = -1 := by decide
  omega
set_option maxHeartbeats 100000 in
theorem T_sign_in {d : Nat} {D : Mm} {U : Nat → Nat} {e p w : Nat} (h : PSt D U e p w) (hp : p < e) : Ct (d + 1) 168 [.ref 171] D (Ex (some (.int (nI (U p)))) D) := by
  have a1 := h.1; have a2 := h.2.1; have a3 := h.2.2.1; have a4 := h.2.2.2.1; have a5 := h.2.2.2.2.1; have a6 := h.2.2.2.2.2.1; have a7 := h.2.2.2.2.2.2
  refine ent m168 rfl rfl (ls := [.ref 171]) rfl ?_
  refine w_ald0 i168_0 ?_
  refine w_gfI i168_1 (by decide) s_171 rfl a1 ?_
  refine w_ald0 i168_4 ?_
  refine w_gfI i168_5 (by decide) s_171 rfl a2 ?_
  refine w_cgeNF i168_8 (by omega) (by omega) (by omega) ?_
  refine w_ald0 i168_11 ?_
  refine w_gfR i168_12 (by decide) s_171 rfl ?_
  refine w_ald0 i168_15 ?_
  refine w_gfI i168_16 (by decide) s_171 rfl a1 ?_
  refine w_ial i168_19 s_179 (by decide) (by omega) (a5 p hp) ?_
  refine w_goto i168_20 g168_20 ?_
  refine w_ri i168_24 r168 ?_
  exact ⟨rfl, rfl⟩
set_option maxHeartbeats 100000 in
theorem T_sign_out {d : Nat} {D : Mm} {U : Nat → Nat} {e p w : Nat} (h : PSt D U e p w) (hp : ¬ p < e) : Ct (d + 1) 168 [.ref 171] D (Ex (some (.int (-1))) D) := by
  have a1 := h.1; have a2 := h.2.1; have a3 := h.2.2.1; have a4 := h.2.2.2.1; have a5 := h.2.2.2.2.1; have a6 := h.2.2.2.2.2.1; have a7 := h.2.2.2.2.2.2
  refine ent m168 rfl rfl (ls := [.ref 171]) rfl ?_
  refine w_ald0 i168_0 ?_
  refine w_gfI i168_1 (by decide) s_171 rfl a1 ?_
  refine w_ald0 i168_4 ?_
  refine w_gfI i168_5 (by decide) s_171 rfl a2 ?_
  refine w_cgeNT i168_8 g168_8 (by omega) (by omega) (by omega) ?_
  refine w_const i168_23 kc_m1 ?_
  refine w_ri i168_24 r168 ?_
  exact ⟨rfl, rfl⟩
set_option maxHeartbeats 100000 in
theorem T_mark_w {d : Nat} {D : Mm} {U : Nat → Nat} {e p : Nat} (h : PSt D U e p 1) {c : Int32} : Ct (d + 2) 169 [.ref 171, .int c] D (Ex none D) := by
  have a1 := h.1; have a2 := h.2.1; have a3 := h.2.2.1; have a4 := h.2.2.2.1; have a5 := h.2.2.2.2.1; have a6 := h.2.2.2.2.2.1; have a7 := h.2.2.2.2.2.2
  refine ent m169 rfl rfl (ls := [.ref 171, .int c]) rfl ?_
  refine w_ald0 i169_0 ?_
  refine w_gfI i169_1 (by decide) s_171 rfl a7 ?_
  refine w_ieqNF i169_4 (by omega) (by omega) ?_
  refine w_rv i169_7 r169 ?_
  exact ⟨rfl, rfl⟩
set_option maxHeartbeats 100000 in
theorem T_mark_ok {d : Nat} {D : Mm} {Q : Option Value → Mm → Prop} {U : Nat → Nat} {e p : Nat} (h : PSt D U e p 0) (hp : p < e) {c : Nat} (hc : U p = c) (hq : ∀ D2, PSt D2 U e (p + 1) 0 → FrP D D2 → Q none D2) : Ct (d + 2) 169 [.ref 171, .int (nI c)] D Q := by
  have a1 := h.1; have a2 := h.2.1; have a3 := h.2.2.1; have a4 := h.2.2.2.1; have a5 := h.2.2.2.2.1; have a6 := h.2.2.2.2.2.1; have a7 := h.2.2.2.2.2.2; have hu := a6 p hp
  refine ent m169 rfl rfl (ls := [.ref 171, .int (nI c)]) rfl ?_
  refine w_ald0 i169_0 ?_
  refine w_gfI i169_1 (by decide) s_171 rfl a7 ?_
  refine w_ieqNT i169_4 g169_4 (by omega) (by omega) ?_
  refine w_ald0 i169_8 ?_
  refine w_ald0 i169_9 ?_
  refine w_vI1 i169_10 c168 (Or.inl rfl) ⟨by decide +kernel, by decide⟩ rfl ⟨rfl, Nat.le_of_ble_eq_true rfl⟩ (T_sign_in h hp) ?_
  refine w_ild1 i169_13 ?_
  refine w_ceqNT i169_14 g169_14 (by omega) (by omega) (by omega) ?_
  refine w_const i169_21 kc_0 ?_
  refine w_pf1 i169_22 (by decide) s_171 rfl (Or.inl nI_0) ?_
  refine w_ald0 i169_25 ?_
  refine w_dup i169_26 rfl ?_
  refine w_gfI i169_27 (by decide) s_171 rfl ((mupJ (by decide)).trans a1) ?_
  refine w_ald0 i169_30 ?_
  refine w_gfI i169_31 (by decide) s_171 rfl mupE ?_
  refine w_ieqNT i169_34 g169_34 (by omega) (by omega) ?_
  refine w_const i169_41 kc_1 ?_
  refine w_iadd i169_42 (nI_add _ _) ?_
  refine w_pf0 i169_43 (by decide) s_171 rfl ?_
  refine w_rv i169_46 r169 ?_
  exact hq _ (h.of (FrP.u20 (FrP.u23 FrP.rf)) mupE ((mupJ (by decide)).trans mupE) (by omega)) (FrP.u20 (FrP.u23 FrP.rf))
set_option maxHeartbeats 100000 in
theorem T_mark_no1 {d : Nat} {D : Mm} {Q : Option Value → Mm → Prop} {U : Nat → Nat} {e p : Nat} (h : PSt D U e p 0) (hp : p < e) {c : Nat} (hcb : c < 128) (hc : ¬ (p < e ∧ U p = c)) (hq : ∀ D2, PSt D2 U e p 1 → FrP D D2 → Q none D2) : Ct (d + 2) 169 [.ref 171, .int (nI c)] D Q := by
  have a1 := h.1; have a2 := h.2.1; have a3 := h.2.2.1; have a4 := h.2.2.2.1; have a5 := h.2.2.2.2.1; have a6 := h.2.2.2.2.2.1; have a7 := h.2.2.2.2.2.2; have hu := a6 p hp; have hc2 : U p ≠ c := fun q => hc ⟨hp, q⟩
  refine ent m169 rfl rfl (ls := [.ref 171, .int (nI c)]) rfl ?_
  refine w_ald0 i169_0 ?_
  refine w_gfI i169_1 (by decide) s_171 rfl a7 ?_
  refine w_ieqNT i169_4 g169_4 (by omega) (by omega) ?_
  refine w_ald0 i169_8 ?_
  refine w_ald0 i169_9 ?_
  refine w_vI1 i169_10 c168 (Or.inl rfl) ⟨by decide +kernel, by decide⟩ rfl ⟨rfl, Nat.le_of_ble_eq_true rfl⟩ (T_sign_in h hp) ?_
  refine w_ild1 i169_13 ?_
  refine w_ceqNF i169_14 (by omega) (by omega) (by omega) ?_
  refine w_const i169_17 kc_1 ?_
  refine w_goto i169_18 g169_18 ?_
  refine w_pf1 i169_22 (by decide) s_171 rfl (Or.inr rfl) ?_
  refine w_ald0 i169_25 ?_
  refine w_dup i169_26 rfl ?_
  refine w_gfI i169_27 (by decide) s_171 rfl ((mupJ (by decide)).trans a1) ?_
  refine w_ald0 i169_30 ?_
  refine w_gfI i169_31 (by decide) s_171 rfl mupE ?_
  refine w_ieqNF i169_34 (by omega) (by omega) ?_
  refine w_const i169_37 kc_0 ?_
  refine w_goto i169_38 g169_38 ?_
  refine w_iadd i169_42 (nI_add _ _) ?_
  refine w_pf0 i169_43 (by decide) s_171 rfl ?_
  refine w_rv i169_46 r169 ?_
  exact hq _ (h.of (FrP.u20 (FrP.u23 FrP.rf)) mupE ((mupJ (by decide)).trans mupE) (by omega)) (FrP.u20 (FrP.u23 FrP.rf))
set_option maxHeartbeats 100000 in
theorem T_mark_no2 {d : Nat} {D : Mm} {Q : Option Value → Mm → Prop} {U : Nat → Nat} {e p : Nat} (h : PSt D U e p 0) (hp : ¬ p < e) {c : Nat} (hcb : c < 128) (hc : ¬ (p < e ∧ U p = c)) (hq : ∀ D2, PSt D2 U e p 1 → FrP D D2 → Q none D2) : Ct (d + 2) 169 [.ref 171, .int (nI c)] D Q := by
  have a1 := h.1; have a2 := h.2.1; have a3 := h.2.2.1; have a4 := h.2.2.2.1; have a5 := h.2.2.2.2.1; have a6 := h.2.2.2.2.2.1; have a7 := h.2.2.2.2.2.2
  refine ent m169 rfl rfl (ls := [.ref 171, .int (nI c)]) rfl ?_
  refine w_ald0 i169_0 ?_
  refine w_gfI i169_1 (by decide) s_171 rfl a7 ?_
  refine w_ieqNT i169_4 g169_4 (by omega) (by omega) ?_
  refine w_ald0 i169_8 ?_
  refine w_ald0 i169_9 ?_
  refine w_vI1 i169_10 c168 (Or.inl rfl) ⟨by decide +kernel, by decide⟩ rfl ⟨rfl, Nat.le_of_ble_eq_true rfl⟩ (T_sign_out h hp) ?_
  refine w_ild1 i169_13 ?_
  refine w_ceqF i169_14  (ne1 (by omega)) ?_
  refine w_const i169_17 kc_1 ?_
  refine w_goto i169_18 g169_18 ?_
  refine w_pf1 i169_22 (by decide) s_171 rfl (Or.inr rfl) ?_
  refine w_ald0 i169_25 ?_
  refine w_dup i169_26 rfl ?_
  refine w_gfI i169_27 (by decide) s_171 rfl ((mupJ (by decide)).trans a1) ?_
  refine w_ald0 i169_30 ?_
  refine w_gfI i169_31 (by decide) s_171 rfl mupE ?_
  refine w_ieqNF i169_34 (by omega) (by omega) ?_
  refine w_const i169_37 kc_0 ?_
  refine w_goto i169_38 g169_38 ?_
  refine w_iadd i169_42 (nI_add _ _) ?_
  refine w_pf0 i169_43 (by decide) s_171 rfl ?_
  refine w_rv i169_46 r169 ?_
  exact hq _ (h.of (FrP.u20 (FrP.u23 FrP.rf)) mupE ((mupJ (by decide)).trans mupE) (by omega)) (FrP.u20 (FrP.u23 FrP.rf))
theorem T_mark_no {d : Nat} {D : Mm} {Q : Option Value → Mm → Prop} {U : Nat → Nat} {e p : Nat} (h : PSt D U e p 0) {c : Nat} (hcb : c < 128) (hc : ¬ (p < e ∧ U p = c)) (hq : ∀ D2, PSt D2 U e p 1 → FrP D D2 → Q none D2) : Ct (d + 2) 169 [.ref 171, .int (nI c)] D Q := by
  by_cases hp : p < e
  · exact T_mark_no1 h hp hcb hc hq
  · exact T_mark_no2 h hp hcb hc hq
set_option maxHeartbeats 100000 in
theorem T_digits {d : Nat} {D : Mm} {Q : Option Value → Mm → Prop} {U : Nat → Nat} {e p : Nat} (h : PSt D U e p 0) {m : Nat} (hm : m < 3) (hq : ∀ D2, PSt D2 U e (dgs U e m 0 p).2 (if (dgs U e m 0 p).2 = p then 1 else 0) → FrP D D2 → Q (some (.int (nI (dgs U e m 0 p).1))) D2) : Ct (d + 3) 170 [.ref 171, .int (nI m)] D Q := by
  refine ent m170 rfl rfl (ls := [.ref 171, .int (nI m), .retAddr 0, .retAddr 0]) rfl ?_
  refine w_const i170_0 kc_0 ?_
  refine w_ist2 i170_1 ?_
  refine w_const i170_2 kc_0 ?_
  refine w_ist3 i170_3 ?_
  have L4 : ∀ k (x j q : Nat) (D1 : Mm), PSt D1 U e q 0 → FrP D D1 → j + k = m → (∀ D2, PSt D2 U e (dgs U e k x q).2 (if j + ((dgs U e k x q).2 - q) = 0 then 1 else 0) → FrP D D2 → Q (some (.int (nI (dgs U e k x q).1))) D2) → Wp (d + 2) 170 Q 4 [.ref 171, .int (nI m), .int (nI x), .int (nI j)] [] D1 := by
    intro k
    induction k with
    | zero =>
      intro x j q D1 hP hf hk hqq
      have hE : dgs U e 0 x q = (x, q) := rfl
      rw [hE] at hqq; dsimp only at hqq
      refine w_ald0 i170_4 ?_
      refine w_gfI i170_5 (by decide) s_171 rfl hP.2.2.2.2.2.2 ?_
      refine w_ineNF i170_8 (by omega) (by omega) ?_
      refine w_ild3 i170_11 ?_
      refine w_ild1 i170_12 ?_
      refine w_cgeNT i170_13 g170_13 (by omega) (by omega) (by omega) ?_
      first | (rw [dgs_no hD] at hqq; dsimp only at hqq) | skip
      refine w_ald0 i170_59 ?_
      refine w_dup i170_60 rfl ?_
      refine w_gfI i170_61 (by decide) s_171 rfl hP.2.2.2.2.2.2 ?_
      refine w_ild3 i170_64 ?_
      refine w_ineN i170_65 g170_65 (by omega) (fun h65 => ?_) (fun h65 => ?_)
      · skip
        refine w_const i170_72 kc_0 ?_
        refine w_ior i170_73 rfl ?_
        refine w_pf1 i170_74 (by decide) s_171 rfl (by decide) ?_
        refine w_ild2 i170_77 ?_
        refine w_ri i170_78 r170 ?_
        first
          | (refine hqq _ (hP.of (FrP.u23 FrP.rf) ((mupJ (by decide)).trans hP.1) ?_ hP.2.2.1) (hf.tr (FrP.u23 FrP.rf)); rw [mupE, if_pos (by omega)]; exact nI_or1)
          | (refine hqq _ (hP.of (FrP.u23 FrP.rf) ((mupJ (by decide)).trans hP.1) ?_ hP.2.2.1) (hf.tr (FrP.u23 FrP.rf)); rw [mupE, if_neg (by omega)]; exact nI_or0)
      · skip
        refine w_const i170_68 kc_1 ?_
        refine w_goto i170_69 g170_69 ?_
        refine w_ior i170_73 rfl ?_
        refine w_pf1 i170_74 (by decide) s_171 rfl (by decide) ?_
        refine w_ild2 i170_77 ?_
        refine w_ri i170_78 r170 ?_
        first
          | (refine hqq _ (hP.of (FrP.u23 FrP.rf) ((mupJ (by decide)).trans hP.1) ?_ hP.2.2.1) (hf.tr (FrP.u23 FrP.rf)); rw [mupE, if_pos (by omega)]; exact nI_or1)
          | (refine hqq _ (hP.of (FrP.u23 FrP.rf) ((mupJ (by decide)).trans hP.1) ?_ hP.2.2.1) (hf.tr (FrP.u23 FrP.rf)); rw [mupE, if_neg (by omega)]; exact nI_or0)
    | succ k ih =>
      intro x j q D1 hP hf hk hqq
      refine w_ald0 i170_4 ?_
      refine w_gfI i170_5 (by decide) s_171 rfl hP.2.2.2.2.2.2 ?_
      refine w_ineNF i170_8 (by omega) (by omega) ?_
      refine w_ild3 i170_11 ?_
      refine w_ild1 i170_12 ?_
      refine w_cgeNF i170_13 (by omega) (by omega) (by omega) ?_
      refine w_ald0 i170_16 ?_
      by_cases hp : q < e
      · skip
        refine w_vI1 i170_17 c168 (Or.inl rfl) ⟨by decide +kernel, by decide⟩ rfl ⟨rfl, Nat.le_of_ble_eq_true rfl⟩ (T_sign_in hP hp) ?_
        refine w_bip i170_20 kb_48 ?_
        refine w_bip i170_22 kb_57 ?_
        have hu := hP.2.2.2.2.2.1 q hp
        by_cases hD : q < e ∧ 48 ≤ U q ∧ U q ≤ 57
        · skip
          refine w_sI3 i170_24 c110 rfl  rfl ⟨rfl, Nat.le_of_ble_eq_true rfl⟩ (T_isIn_t (nI_inR hD.2.1 hD.2.2 (by omega))) ?_
          refine w_ieqNF i170_27 (by omega) (by omega) ?_
          refine w_bip i170_30 kb_10 ?_
          refine w_ild2 i170_32 ?_
          refine w_imul i170_33 (nI_mul _ _) ?_
          refine w_ald0 i170_34 ?_
          refine w_vI1 i170_35 c168 (Or.inl rfl) ⟨by decide +kernel, by decide⟩ rfl ⟨rfl, Nat.le_of_ble_eq_true rfl⟩ (T_sign_in hP hp) ?_
          refine w_iadd i170_38 (nI_add _ _) ?_
          refine w_bip i170_39 kb_48 ?_
          refine w_isub i170_41 (nI_sub (by omega)) ?_
          refine w_ist2 i170_42 ?_
          refine w_ald0 i170_43 ?_
          refine w_dup i170_44 rfl ?_
          refine w_gfI i170_45 (by decide) s_171 rfl hP.1 ?_
          refine w_const i170_48 kc_1 ?_
          refine w_iadd i170_49 (nI_add _ _) ?_
          refine w_pf0 i170_50 (by decide) s_171 rfl ?_
          refine w_inc3 i170_53 (inc1 _) ?_
          refine w_goto i170_56 g170_56 ?_
          have hd := dgs_le (U := U) (e := e) k (10 * x + (U q - 48)) (q + 1) hp
          rw [dgs_ye hD] at hqq
          exact ih _ _ (q + 1) _ (hP.of (FrP.u20 FrP.rf) mupE ((mupJ (by decide)).trans hP.2.2.2.2.2.2) (by omega)) (hf.tr (FrP.u20 FrP.rf)) (by omega) (fun D2 g1 g2 => by rw [show 10 * x + U q - 48 = 10 * x + (U q - 48) by omega] at g1 ⊢; refine hqq D2 ?_ g2; rw [show j + ((dgs U e k (10 * x + (U q - 48)) (q + 1)).2 - q) = j + 1 + ((dgs U e k (10 * x + (U q - 48)) (q + 1)).2 - (q + 1)) by omega]; exact g1)
        · skip
          refine w_sI3 i170_24 c110 rfl  rfl ⟨rfl, Nat.le_of_ble_eq_true rfl⟩ (T_isIn_f (nI_badR (by omega) (by omega))) ?_
          refine w_ieqNT i170_27 g170_27 (by omega) (by omega) ?_
          first | (rw [dgs_no hD] at hqq; dsimp only at hqq) | skip
          refine w_ald0 i170_59 ?_
          refine w_dup i170_60 rfl ?_
          refine w_gfI i170_61 (by decide) s_171 rfl hP.2.2.2.2.2.2 ?_
          refine w_ild3 i170_64 ?_
          refine w_ineN i170_65 g170_65 (by omega) (fun h65 => ?_) (fun h65 => ?_)
          · skip
            refine w_const i170_72 kc_0 ?_
            refine w_ior i170_73 rfl ?_
            refine w_pf1 i170_74 (by decide) s_171 rfl (by decide) ?_
            refine w_ild2 i170_77 ?_
            refine w_ri i170_78 r170 ?_
            first
              | (refine hqq _ (hP.of (FrP.u23 FrP.rf) ((mupJ (by decide)).trans hP.1) ?_ hP.2.2.1) (hf.tr (FrP.u23 FrP.rf)); rw [mupE, if_pos (by omega)]; exact nI_or1)
              | (refine hqq _ (hP.of (FrP.u23 FrP.rf) ((mupJ (by decide)).trans hP.1) ?_ hP.2.2.1) (hf.tr (FrP.u23 FrP.rf)); rw [mupE, if_neg (by omega)]; exact nI_or0)
          · skip
            refine w_const i170_68 kc_1 ?_
            refine w_goto i170_69 g170_69 ?_
            refine w_ior i170_73 rfl ?_
            refine w_pf1 i170_74 (by decide) s_171 rfl (by decide) ?_
            refine w_ild2 i170_77 ?_
            refine w_ri i170_78 r170 ?_
            first
              | (refine hqq _ (hP.of (FrP.u23 FrP.rf) ((mupJ (by decide)).trans hP.1) ?_ hP.2.2.1) (hf.tr (FrP.u23 FrP.rf)); rw [mupE, if_pos (by omega)]; exact nI_or1)
              | (refine hqq _ (hP.of (FrP.u23 FrP.rf) ((mupJ (by decide)).trans hP.1) ?_ hP.2.2.1) (hf.tr (FrP.u23 FrP.rf)); rw [mupE, if_neg (by omega)]; exact nI_or0)
      · skip
        refine w_vI1 i170_17 c168 (Or.inl rfl) ⟨by decide +kernel, by decide⟩ rfl ⟨rfl, Nat.le_of_ble_eq_true rfl⟩ (T_sign_out hP hp) ?_
        refine w_bip i170_20 kb_48 ?_
        refine w_bip i170_22 kb_57 ?_
        have hD : ¬ (q < e ∧ 48 ≤ U q ∧ U q ≤ 57) := fun z => hp z.1
        · skip
          refine w_sI3 i170_24 c110 rfl  rfl ⟨rfl, Nat.le_of_ble_eq_true rfl⟩ (T_isIn_f (Or.inl (by decide))) ?_
          refine w_ieqNT i170_27 g170_27 (by omega) (by omega) ?_
          first | (rw [dgs_no hD] at hqq; dsimp only at hqq) | skip
          refine w_ald0 i170_59 ?_
          refine w_dup i170_60 rfl ?_
          refine w_gfI i170_61 (by decide) s_171 rfl hP.2.2.2.2.2.2 ?_
          refine w_ild3 i170_64 ?_
          refine w_ineN i170_65 g170_65 (by omega) (fun h65 => ?_) (fun h65 => ?_)
          · skip
            refine w_const i170_72 kc_0 ?_
            refine w_ior i170_73 rfl ?_
            refine w_pf1 i170_74 (by decide) s_171 rfl (by decide) ?_
            refine w_ild2 i170_77 ?_
            refine w_ri i170_78 r170 ?_
            first
              | (refine hqq _ (hP.of (FrP.u23 FrP.rf) ((mupJ (by decide)).trans hP.1) ?_ hP.2.2.1) (hf.tr (FrP.u23 FrP.rf)); rw [mupE, if_pos (by omega)]; exact nI_or1)
              | (refine hqq _ (hP.of (FrP.u23 FrP.rf) ((mupJ (by decide)).trans hP.1) ?_ hP.2.2.1) (hf.tr (FrP.u23 FrP.rf)); rw [mupE, if_neg (by omega)]; exact nI_or0)
          · skip
            refine w_const i170_68 kc_1 ?_
            refine w_goto i170_69 g170_69 ?_
            refine w_ior i170_73 rfl ?_
            refine w_pf1 i170_74 (by decide) s_171 rfl (by decide) ?_
            refine w_ild2 i170_77 ?_
            refine w_ri i170_78 r170 ?_
            first
              | (refine hqq _ (hP.of (FrP.u23 FrP.rf) ((mupJ (by decide)).trans hP.1) ?_ hP.2.2.1) (hf.tr (FrP.u23 FrP.rf)); rw [mupE, if_pos (by omega)]; exact nI_or1)
              | (refine hqq _ (hP.of (FrP.u23 FrP.rf) ((mupJ (by decide)).trans hP.1) ?_ hP.2.2.1) (hf.tr (FrP.u23 FrP.rf)); rw [mupE, if_neg (by omega)]; exact nI_or0)
  refine L4 m 0 0 p D h FrP.rf (by omega) (fun D2 g1 g2 => hq D2 ?_ g2)
  have hd := dgs_le (U := U) (e := e) m 0 p h.2.2.1
  by_cases z : (dgs U e m 0 p).2 = p
  · rw [if_pos z]; rw [if_pos (by omega)] at g1; exact g1
  · rw [if_neg z]; rw [if_neg (by omega)] at g1; exact g1
def bhP (U : Nat → Nat) (e c m p w : Nat) : Nat × Nat × Nat := if w = 1 then (p, 1, 0) else if p < e ∧ U p = c then ((dgs U e m 0 (p + 1)).2, (if (dgs U e m 0 (p + 1)).2 = p + 1 then 1 else 0), (dgs U e m 0 (p + 1)).1) else (p, 1, 0)
set_option maxHeartbeats 100000 in
theorem T_behind_w {d : Nat} {D : Mm} {Q : Option Value → Mm → Prop} {U : Nat → Nat} {e p : Nat} (h : PSt D U e p 1) {c m : Nat} (hcb : c < 128) (hm : m < 3) (hq : ∀ D2, PSt D2 U e (bhP U e c m p 1).1 (bhP U e c m p 1).2.1 → FrP D D2 → Q (some (.int (nI (bhP U e c m p 1).2.2))) D2) : Ct (d + 4) 171 [.ref 171, .int (nI c), .int (nI m)] D Q := by
  refine ent m171 rfl rfl (ls := [.ref 171, .int (nI c), .int (nI m)]) rfl ?_
  refine w_ald0 i171_0 ?_
  refine w_ild1 i171_1 ?_
  refine w_vV2 i171_2 c169 (Or.inl rfl) ⟨by decide +kernel, by decide⟩ rfl ⟨rfl, Nat.le_of_ble_eq_true rfl⟩ (T_mark_w h) ?_
  refine w_ald0 i171_5 ?_
  refine w_gfI i171_6 (by decide) s_171 rfl h.2.2.2.2.2.2 ?_
  refine w_ieqNF i171_9 (by omega) (by omega) ?_
  refine w_const i171_12 kc_0 ?_
  refine w_goto i171_13 g171_13 ?_
  refine w_ri i171_21 r171 ?_
  exact hq _ h FrP.rf
set_option maxHeartbeats 100000 in
theorem T_behind_n {d : Nat} {D : Mm} {Q : Option Value → Mm → Prop} {U : Nat → Nat} {e p : Nat} (h : PSt D U e p 0) {c m : Nat} (hc : ¬ (p < e ∧ U p = c)) (hcb : c < 128) (hm : m < 3) (hq : ∀ D2, PSt D2 U e (bhP U e c m p 0).1 (bhP U e c m p 0).2.1 → FrP D D2 → Q (some (.int (nI (bhP U e c m p 0).2.2))) D2) : Ct (d + 4) 171 [.ref 171, .int (nI c), .int (nI m)] D Q := by
  refine ent m171 rfl rfl (ls := [.ref 171, .int (nI c), .int (nI m)]) rfl ?_
  refine w_ald0 i171_0 ?_
  refine w_ild1 i171_1 ?_
  refine w_vG2 i171_2 c169 (Or.inl rfl) ⟨by decide +kernel, by decide⟩ rfl ⟨rfl, Nat.le_of_ble_eq_true rfl⟩ ?_
  refine T_mark_no h hcb hc (fun D2 g f => ?_)
  refine w_ald0 i171_5 ?_
  refine w_gfI i171_6 (by decide) s_171 rfl g.2.2.2.2.2.2 ?_
  refine w_ieqNF i171_9 (by omega) (by omega) ?_
  refine w_const i171_12 kc_0 ?_
  refine w_goto i171_13 g171_13 ?_
  refine w_ri i171_21 r171 ?_
  unfold bhP at hq; rw [if_neg (by decide), if_neg hc] at hq; exact hq _ g f
set_option maxHeartbeats 100000 in
theorem T_behind_y {d : Nat} {D : Mm} {Q : Option Value → Mm → Prop} {U : Nat → Nat} {e p : Nat} (h : PSt D U e p 0) {c m : Nat} (hc : p < e ∧ U p = c) (hcb : c < 128) (hm : m < 3) (hq : ∀ D2, PSt D2 U e (bhP U e c m p 0).1 (bhP U e c m p 0).2.1 → FrP D D2 → Q (some (.int (nI (bhP U e c m p 0).2.2))) D2) : Ct (d + 4) 171 [.ref 171, .int (nI c), .int (nI m)] D Q := by
  refine ent m171 rfl rfl (ls := [.ref 171, .int (nI c), .int (nI m)]) rfl ?_
  refine w_ald0 i171_0 ?_
  refine w_ild1 i171_1 ?_
  refine w_vG2 i171_2 c169 (Or.inl rfl) ⟨by decide +kernel, by decide⟩ rfl ⟨rfl, Nat.le_of_ble_eq_true rfl⟩ ?_
  refine T_mark_ok h hc.1 hc.2 (fun D2 g f => ?_)
  refine w_ald0 i171_5 ?_
  refine w_gfI i171_6 (by decide) s_171 rfl g.2.2.2.2.2.2 ?_
  refine w_ieqNT i171_9 g171_9 (by omega) (by omega) ?_
  refine w_ald0 i171_16 ?_
  refine w_ild2 i171_17 ?_
  refine w_vG2 i171_18 c170 (Or.inl rfl) ⟨by decide +kernel, by decide⟩ rfl ⟨rfl, Nat.le_of_ble_eq_true rfl⟩ ?_
  refine T_digits g hm (fun D3 g3 f3 => ?_)
  refine w_ri i171_21 r171 ?_
  unfold bhP at hq; rw [if_neg (by decide), if_pos hc] at hq; exact hq _ g3 (f.tr f3)
theorem T_behind {d : Nat} {D : Mm} {Q : Option Value → Mm → Prop} {U : Nat → Nat} {e p w : Nat} (h : PSt D U e p w) (hw : w < 2) {c m : Nat} (hcb : c < 128) (hm : m < 3) (hq : ∀ D2, PSt D2 U e (bhP U e c m p w).1 (bhP U e c m p w).2.1 → FrP D D2 → Q (some (.int (nI (bhP U e c m p w).2.2))) D2) : Ct (d + 4) 171 [.ref 171, .int (nI c), .int (nI m)] D Q := by
  by_cases h1 : w = 1
  · subst h1; exact T_behind_w h hcb hm hq
  · have h0 : w = 0 := by omega
    subst h0
    by_cases hc : p < e ∧ U p = c
    · exact T_behind_y h hc hcb hm hq
    · exact T_behind_n h hc hcb hm hq
theorem bhP_w {U : Nat → Nat} {e c m p w : Nat} : (bhP U e c m p w).2.1 < 2 := by
  unfold bhP
  split
  · exact (by decide : 1 < 2)
  · split
    · dsimp only; split <;> decide
    · exact (by decide : 1 < 2)
def o1P (U : Nat → Nat) (e m p : Nat) : Nat × Nat × Nat := if m = 0 then (p, 0, 0) else ((dgs U e m 0 p).2, (if (dgs U e m 0 p).2 = p then 1 else 0), (dgs U e m 0 p).1)
theorem o1P_w {U : Nat → Nat} {e m p : Nat} : (o1P U e m p).2.1 < 2 := by
  unfold o1P
  split
  · exact (by decide : 0 < 2)
  · dsimp only; split <;> decide
def nxP (U : Nat → Nat) (e c m : Nat) (s : Nat × Nat × Nat) : Nat × Nat × Nat := if c = 0 then (s.1, s.2.1, 0) else bhP U e c m s.1 s.2.1
def pt (c : Nat) : Nat × (Nat × Nat) × (Nat × Nat) :=
  if c = 115 ∨ c = 109 then (1, (58, 2), (47, 1)) else if c = 98 then (2, (42, 2), (0, 0)) else if c = 111 then (2, (62, 1), (61, 2)) else if c = 119 then (1, (33, 2), (42, 2))
  else if c = 112 then (2, (43, 2), (0, 0)) else if c = 100 then (0, (0, 0), (0, 0)) else if c = 104 then (1, (62, 1), (0, 0)) else if c = 101 then (1, (0, 0), (0, 0)) else (2, (0, 0), (0, 0))
def kn (c : Nat) : Bool := decide (c = 115 ∨ c = 98 ∨ c = 111 ∨ c = 119 ∨ c = 112 ∨ c = 100 ∨ c = 109 ∨ c = 104 ∨ c = 101 ∨ c = 116)
/-- one order: where, whether wrong, its three numbers -/
def ordS (U : Nat → Nat) (e c p : Nat) : Nat × Nat × Nat × Nat × Nat :=
  let a := o1P U e (pt c).1 p
  let b := nxP U e (pt c).2.1.1 (pt c).2.1.2 a
  let t := nxP U e (pt c).2.2.1 (pt c).2.2.2 b
  (t.1, t.2.1, a.2.2, b.2.2, t.2.2)
theorem ordS_eq {U : Nat → Nat} {e c p m c2 m2 c3 m3 : Nat} (h : pt c = (m, (c2, m2), (c3, m3))) : ordS U e c p = ((nxP U e c3 m3 (nxP U e c2 m2 (o1P U e m p))).1, (nxP U e c3 m3 (nxP U e c2 m2 (o1P U e m p))).2.1, (o1P U e m p).2.2, (nxP U e c2 m2 (o1P U e m p)).2.2, (nxP U e c3 m3 (nxP U e c2 m2 (o1P U e m p))).2.2) := by unfold ordS; rw [h]
theorem T_one {d : Nat} {D : Mm} {Q : Option Value → Mm → Prop} {U : Nat → Nat} {e p : Nat} (h : PSt D U e p 0) {m : Nat} (hm : m < 3) (h0 : m ≠ 0) (hq : ∀ D2, PSt D2 U e (o1P U e m p).1 (o1P U e m p).2.1 → FrP D D2 → Q (some (.int (nI (o1P U e m p).2.2))) D2) : Ct (d + 3) 170 [.ref 171, .int (nI m)] D Q := by
  have hE : o1P U e m p = ((dgs U e m 0 p).2, (if (dgs U e m 0 p).2 = p then 1 else 0), (dgs U e m 0 p).1) := by unfold o1P; rw [if_neg h0]
  rw [hE] at hq
  exact T_digits h hm hq
theorem T_nx {d : Nat} {D : Mm} {Q : Option Value → Mm → Prop} {U : Nat → Nat} {e : Nat} {s : Nat × Nat × Nat} (h : PSt D U e s.1 s.2.1) (hw : s.2.1 < 2) {c m : Nat} (hcb : c < 128) (h0 : c ≠ 0) (hm : m < 3) (hq : ∀ D2, PSt D2 U e (nxP U e c m s).1 (nxP U e c m s).2.1 → FrP D D2 → Q (some (.int (nI (nxP U e c m s).2.2))) D2) : Ct (d + 4) 171 [.ref 171, .int (nI c), .int (nI m)] D Q := by
  have hE : nxP U e c m s = bhP U e c m s.1 s.2.1 := by unfold nxP; rw [if_neg h0]
  rw [hE] at hq
  exact T_behind h hw hcb hm hq
theorem nxP_w {U : Nat → Nat} {e c m : Nat} {s : Nat × Nat × Nat} (h : s.2.1 < 2) : (nxP U e c m s).2.1 < 2 := by
  unfold nxP
  split
  · exact h
  · exact bhP_w
theorem T_sign_c {d : Nat} {D : Mm} {U : Nat → Nat} {e p w c : Nat} (h : PSt D U e p w) (hp : p < e) (hc : U p = c) : Ct (d + 1) 168 [.ref 171] D (Ex (some (.int (nI c))) D) := hc ▸ T_sign_in h hp
set_option maxHeartbeats 100000 in
theorem T_isKnown115 {d : Nat} {D : Mm} : Ct (d + 1) 173 [.int (nI 115)] D (Ex (some (.int (nI 1))) D) := by
  refine ent m173 rfl rfl (ls := [.int (nI 115)]) rfl ?_
  refine w_ild0 i173_0 ?_
  refine w_bip i173_1 kb_115 ?_
  refine w_ceqNT i173_3 g173_3 (by omega) (by omega) (by omega) ?_
  refine w_const i173_60 kc_1 ?_
  refine w_goto i173_61 g173_61 ?_
  refine w_rz i173_65 r173 nar_z1 ?_
  exact ⟨rfl, rfl⟩
set_option maxHeartbeats 100000 in
theorem T_isKnown98 {d : Nat} {D : Mm} : Ct (d + 1) 173 [.int (nI 98)] D (Ex (some (.int (nI 1))) D) := by
  refine ent m173 rfl rfl (ls := [.int (nI 98)]) rfl ?_
  refine w_ild0 i173_0 ?_
  refine w_bip i173_1 kb_115 ?_
  refine w_ceqNF i173_3 (by omega) (by omega) (by omega) ?_
  refine w_ild0 i173_6 ?_
  refine w_bip i173_7 kb_98 ?_
  refine w_ceqNT i173_9 g173_9 (by omega) (by omega) (by omega) ?_
  refine w_const i173_60 kc_1 ?_
  refine w_goto i173_61 g173_61 ?_
  refine w_rz i173_65 r173 nar_z1 ?_
  exact ⟨rfl, rfl⟩
set_option maxHeartbeats 100000 in
theorem T_isKnown111 {d : Nat} {D : Mm} : Ct (d + 1) 173 [.int (nI 111)] D (Ex (some (.int (nI 1))) D) := by
  refine ent m173 rfl rfl (ls := [.int (nI 111)]) rfl ?_
  refine w_ild0 i173_0 ?_
  refine w_bip i173_1 kb_115 ?_
  refine w_ceqNF i173_3 (by omega) (by omega) (by omega) ?_
  refine w_ild0 i173_6 ?_
  refine w_bip i173_7 kb_98 ?_
  refine w_ceqNF i173_9 (by omega) (by omega) (by omega) ?_
  refine w_ild0 i173_12 ?_
  refine w_bip i173_13 kb_111 ?_
  refine w_ceqNT i173_15 g173_15 (by omega) (by omega) (by omega) ?_
  refine w_const i173_60 kc_1 ?_
  refine w_goto i173_61 g173_61 ?_
  refine w_rz i173_65 r173 nar_z1 ?_
  exact ⟨rfl, rfl⟩
set_option maxHeartbeats 100000 in
theorem T_isKnown119 {d : Nat} {D : Mm} : Ct (d + 1) 173 [.int (nI 119)] D (Ex (some (.int (nI 1))) D) := by
  refine ent m173 rfl rfl (ls := [.int (nI 119)]) rfl ?_
  refine w_ild0 i173_0 ?_
  refine w_bip i173_1 kb_115 ?_
  refine w_ceqNF i173_3 (by omega) (by omega) (by omega) ?_
  refine w_ild0 i173_6 ?_
  refine w_bip i173_7 kb_98 ?_
  refine w_ceqNF i173_9 (by omega) (by omega) (by omega) ?_
  refine w_ild0 i173_12 ?_
  refine w_bip i173_13 kb_111 ?_
  refine w_ceqNF i173_15 (by omega) (by omega) (by omega) ?_
  refine w_ild0 i173_18 ?_
  refine w_bip i173_19 kb_119 ?_
  refine w_ceqNT i173_21 g173_21 (by omega) (by omega) (by omega) ?_
  refine w_const i173_60 kc_1 ?_
  refine w_goto i173_61 g173_61 ?_
  refine w_rz i173_65 r173 nar_z1 ?_
  exact ⟨rfl, rfl⟩
set_option maxHeartbeats 100000 in
theorem T_isKnown112 {d : Nat} {D : Mm} : Ct (d + 1) 173 [.int (nI 112)] D (Ex (some (.int (nI 1))) D) := by
  refine ent m173 rfl rfl (ls := [.int (nI 112)]) rfl ?_
  refine w_ild0 i173_0 ?_
  refine w_bip i173_1 kb_115 ?_
  refine w_ceqNF i173_3 (by omega) (by omega) (by omega) ?_
  refine w_ild0 i173_6 ?_
  refine w_bip i173_7 kb_98 ?_
  refine w_ceqNF i173_9 (by omega) (by omega) (by omega) ?_
  refine w_ild0 i173_12 ?_
  refine w_bip i173_13 kb_111 ?_
  refine w_ceqNF i173_15 (by omega) (by omega) (by omega) ?_
  refine w_ild0 i173_18 ?_
  refine w_bip i173_19 kb_119 ?_
  refine w_ceqNF i173_21 (by omega) (by omega) (by omega) ?_
  refine w_ild0 i173_24 ?_
  refine w_bip i173_25 kb_112 ?_
  refine w_ceqNT i173_27 g173_27 (by omega) (by omega) (by omega) ?_
  refine w_const i173_60 kc_1 ?_
  refine w_goto i173_61 g173_61 ?_
  refine w_rz i173_65 r173 nar_z1 ?_
  exact ⟨rfl, rfl⟩
set_option maxHeartbeats 100000 in
theorem T_isKnown100 {d : Nat} {D : Mm} : Ct (d + 1) 173 [.int (nI 100)] D (Ex (some (.int (nI 1))) D) := by
  refine ent m173 rfl rfl (ls := [.int (nI 100)]) rfl ?_
  refine w_ild0 i173_0 ?_
  refine w_bip i173_1 kb_115 ?_
  refine w_ceqNF i173_3 (by omega) (by omega) (by omega) ?_
  refine w_ild0 i173_6 ?_
  refine w_bip i173_7 kb_98 ?_
  refine w_ceqNF i173_9 (by omega) (by omega) (by omega) ?_
  refine w_ild0 i173_12 ?_
  refine w_bip i173_13 kb_111 ?_
  refine w_ceqNF i173_15 (by omega) (by omega) (by omega) ?_
  refine w_ild0 i173_18 ?_
  refine w_bip i173_19 kb_119 ?_
  refine w_ceqNF i173_21 (by omega) (by omega) (by omega) ?_
  refine w_ild0 i173_24 ?_
  refine w_bip i173_25 kb_112 ?_
  refine w_ceqNF i173_27 (by omega) (by omega) (by omega) ?_
  refine w_ild0 i173_30 ?_
  refine w_bip i173_31 kb_100 ?_
  refine w_ceqNT i173_33 g173_33 (by omega) (by omega) (by omega) ?_
  refine w_const i173_60 kc_1 ?_
  refine w_goto i173_61 g173_61 ?_
  refine w_rz i173_65 r173 nar_z1 ?_
  exact ⟨rfl, rfl⟩
set_option maxHeartbeats 100000 in
theorem T_isKnown109 {d : Nat} {D : Mm} : Ct (d + 1) 173 [.int (nI 109)] D (Ex (some (.int (nI 1))) D) := by
  refine ent m173 rfl rfl (ls := [.int (nI 109)]) rfl ?_
  refine w_ild0 i173_0 ?_
  refine w_bip i173_1 kb_115 ?_
  refine w_ceqNF i173_3 (by omega) (by omega) (by omega) ?_
  refine w_ild0 i173_6 ?_
  refine w_bip i173_7 kb_98 ?_
  refine w_ceqNF i173_9 (by omega) (by omega) (by omega) ?_
  refine w_ild0 i173_12 ?_
  refine w_bip i173_13 kb_111 ?_
  refine w_ceqNF i173_15 (by omega) (by omega) (by omega) ?_
  refine w_ild0 i173_18 ?_
  refine w_bip i173_19 kb_119 ?_
  refine w_ceqNF i173_21 (by omega) (by omega) (by omega) ?_
  refine w_ild0 i173_24 ?_
  refine w_bip i173_25 kb_112 ?_
  refine w_ceqNF i173_27 (by omega) (by omega) (by omega) ?_
  refine w_ild0 i173_30 ?_
  refine w_bip i173_31 kb_100 ?_
  refine w_ceqNF i173_33 (by omega) (by omega) (by omega) ?_
  refine w_ild0 i173_36 ?_
  refine w_bip i173_37 kb_109 ?_
  refine w_ceqNT i173_39 g173_39 (by omega) (by omega) (by omega) ?_
  refine w_const i173_60 kc_1 ?_
  refine w_goto i173_61 g173_61 ?_
  refine w_rz i173_65 r173 nar_z1 ?_
  exact ⟨rfl, rfl⟩
set_option maxHeartbeats 100000 in
theorem T_isKnown104 {d : Nat} {D : Mm} : Ct (d + 1) 173 [.int (nI 104)] D (Ex (some (.int (nI 1))) D) := by
  refine ent m173 rfl rfl (ls := [.int (nI 104)]) rfl ?_
  refine w_ild0 i173_0 ?_
  refine w_bip i173_1 kb_115 ?_
  refine w_ceqNF i173_3 (by omega) (by omega) (by omega) ?_
  refine w_ild0 i173_6 ?_
  refine w_bip i173_7 kb_98 ?_
  refine w_ceqNF i173_9 (by omega) (by omega) (by omega) ?_
  refine w_ild0 i173_12 ?_
  refine w_bip i173_13 kb_111 ?_
  refine w_ceqNF i173_15 (by omega) (by omega) (by omega) ?_
  refine w_ild0 i173_18 ?_
  refine w_bip i173_19 kb_119 ?_
  refine w_ceqNF i173_21 (by omega) (by omega) (by omega) ?_
  refine w_ild0 i173_24 ?_
  refine w_bip i173_25 kb_112 ?_
  refine w_ceqNF i173_27 (by omega) (by omega) (by omega) ?_
  refine w_ild0 i173_30 ?_
  refine w_bip i173_31 kb_100 ?_
  refine w_ceqNF i173_33 (by omega) (by omega) (by omega) ?_
  refine w_ild0 i173_36 ?_
  refine w_bip i173_37 kb_109 ?_
  refine w_ceqNF i173_39 (by omega) (by omega) (by omega) ?_
  refine w_ild0 i173_42 ?_
  refine w_bip i173_43 kb_104 ?_
  refine w_ceqNT i173_45 g173_45 (by omega) (by omega) (by omega) ?_
  refine w_const i173_60 kc_1 ?_
  refine w_goto i173_61 g173_61 ?_
  refine w_rz i173_65 r173 nar_z1 ?_
  exact ⟨rfl, rfl⟩
set_option maxHeartbeats 100000 in
theorem T_isKnown101 {d : Nat} {D : Mm} : Ct (d + 1) 173 [.int (nI 101)] D (Ex (some (.int (nI 1))) D) := by
  refine ent m173 rfl rfl (ls := [.int (nI 101)]) rfl ?_
  refine w_ild0 i173_0 ?_
  refine w_bip i173_1 kb_115 ?_
  refine w_ceqNF i173_3 (by omega) (by omega) (by omega) ?_
  refine w_ild0 i173_6 ?_
  refine w_bip i173_7 kb_98 ?_
  refine w_ceqNF i173_9 (by omega) (by omega) (by omega) ?_
  refine w_ild0 i173_12 ?_
  refine w_bip i173_13 kb_111 ?_
  refine w_ceqNF i173_15 (by omega) (by omega) (by omega) ?_
  refine w_ild0 i173_18 ?_
  refine w_bip i173_19 kb_119 ?_
  refine w_ceqNF i173_21 (by omega) (by omega) (by omega) ?_
  refine w_ild0 i173_24 ?_
  refine w_bip i173_25 kb_112 ?_
  refine w_ceqNF i173_27 (by omega) (by omega) (by omega) ?_
  refine w_ild0 i173_30 ?_
  refine w_bip i173_31 kb_100 ?_
  refine w_ceqNF i173_33 (by omega) (by omega) (by omega) ?_
  refine w_ild0 i173_36 ?_
  refine w_bip i173_37 kb_109 ?_
  refine w_ceqNF i173_39 (by omega) (by omega) (by omega) ?_
  refine w_ild0 i173_42 ?_
  refine w_bip i173_43 kb_104 ?_
  refine w_ceqNF i173_45 (by omega) (by omega) (by omega) ?_
  refine w_ild0 i173_48 ?_
  refine w_bip i173_49 kb_101 ?_
  refine w_ceqNT i173_51 g173_51 (by omega) (by omega) (by omega) ?_
  refine w_const i173_60 kc_1 ?_
  refine w_goto i173_61 g173_61 ?_
  refine w_rz i173_65 r173 nar_z1 ?_
  exact ⟨rfl, rfl⟩
set_option maxHeartbeats 100000 in
theorem T_isKnown116 {d : Nat} {D : Mm} : Ct (d + 1) 173 [.int (nI 116)] D (Ex (some (.int (nI 1))) D) := by
  refine ent m173 rfl rfl (ls := [.int (nI 116)]) rfl ?_
  refine w_ild0 i173_0 ?_
  refine w_bip i173_1 kb_115 ?_
  refine w_ceqNF i173_3 (by omega) (by omega) (by omega) ?_
  refine w_ild0 i173_6 ?_
  refine w_bip i173_7 kb_98 ?_
  refine w_ceqNF i173_9 (by omega) (by omega) (by omega) ?_
  refine w_ild0 i173_12 ?_
  refine w_bip i173_13 kb_111 ?_
  refine w_ceqNF i173_15 (by omega) (by omega) (by omega) ?_
  refine w_ild0 i173_18 ?_
  refine w_bip i173_19 kb_119 ?_
  refine w_ceqNF i173_21 (by omega) (by omega) (by omega) ?_
  refine w_ild0 i173_24 ?_
  refine w_bip i173_25 kb_112 ?_
  refine w_ceqNF i173_27 (by omega) (by omega) (by omega) ?_
  refine w_ild0 i173_30 ?_
  refine w_bip i173_31 kb_100 ?_
  refine w_ceqNF i173_33 (by omega) (by omega) (by omega) ?_
  refine w_ild0 i173_36 ?_
  refine w_bip i173_37 kb_109 ?_
  refine w_ceqNF i173_39 (by omega) (by omega) (by omega) ?_
  refine w_ild0 i173_42 ?_
  refine w_bip i173_43 kb_104 ?_
  refine w_ceqNF i173_45 (by omega) (by omega) (by omega) ?_
  refine w_ild0 i173_48 ?_
  refine w_bip i173_49 kb_101 ?_
  refine w_ceqNF i173_51 (by omega) (by omega) (by omega) ?_
  refine w_ild0 i173_54 ?_
  refine w_bip i173_55 kb_116 ?_
  refine w_cneNF i173_57 (by omega) (by omega) (by omega) ?_
  refine w_const i173_60 kc_1 ?_
  refine w_goto i173_61 g173_61 ?_
  refine w_rz i173_65 r173 nar_z1 ?_
  exact ⟨rfl, rfl⟩
set_option maxHeartbeats 100000 in
theorem T_isKnown_no {d : Nat} {D : Mm} {x : Int32} (hx : ∀ c, kn c = true → ¬ x = nI c) : Ct (d + 1) 173 [.int x] D (Ex (some (.int (nI 0))) D) := by
  refine ent m173 rfl rfl (ls := [.int x]) rfl ?_
  refine w_ild0 i173_0 ?_
  refine w_bip i173_1 kb_115 ?_
  refine w_ceqF i173_3  (hx 115 rfl) ?_
  refine w_ild0 i173_6 ?_
  refine w_bip i173_7 kb_98 ?_
  refine w_ceqF i173_9  (hx 98 rfl) ?_
  refine w_ild0 i173_12 ?_
  refine w_bip i173_13 kb_111 ?_
  refine w_ceqF i173_15  (hx 111 rfl) ?_
  refine w_ild0 i173_18 ?_
  refine w_bip i173_19 kb_119 ?_
  refine w_ceqF i173_21  (hx 119 rfl) ?_
  refine w_ild0 i173_24 ?_
  refine w_bip i173_25 kb_112 ?_
  refine w_ceqF i173_27  (hx 112 rfl) ?_
  refine w_ild0 i173_30 ?_
  refine w_bip i173_31 kb_100 ?_
  refine w_ceqF i173_33  (hx 100 rfl) ?_
  refine w_ild0 i173_36 ?_
  refine w_bip i173_37 kb_109 ?_
  refine w_ceqF i173_39  (hx 109 rfl) ?_
  refine w_ild0 i173_42 ?_
  refine w_bip i173_43 kb_104 ?_
  refine w_ceqF i173_45  (hx 104 rfl) ?_
  refine w_ild0 i173_48 ?_
  refine w_bip i173_49 kb_101 ?_
  refine w_ceqF i173_51  (hx 101 rfl) ?_
  refine w_ild0 i173_54 ?_
  refine w_bip i173_55 kb_116 ?_
  refine w_cneT i173_57 g173_57  (hx 116 rfl) ?_
  refine w_const i173_64 kc_0 ?_
  refine w_rz i173_65 r173 nar_z0 ?_
  exact ⟨rfl, rfl⟩
set_option maxHeartbeats 100000 in
theorem T_order115 {d : Nat} {D : Mm} {Q : Option Value → Mm → Prop} {U : Nat → Nat} {e p w n : Nat} (h : PSt D U e p w) (hp : p < e) (hc : U p = 115) (hq0 : ∀ D2, PSt D2 U e (ordS U e 115 (p + 1)).1 (ordS U e 115 (p + 1)).2.1 → FrP D D2 → ((ordS U e 115 (p + 1)).2.1 ≠ 0 ∨ D 171 24 = 0) → Q none D2) (hq1 : ∀ D2, PSt D2 U e (ordS U e 115 (p + 1)).1 0 → FrP D D2 → (ordS U e 115 (p + 1)).2.1 = 0 → ¬ D 171 24 = 0 → HV n (D 172) ∧ OutM (oDo n (D 172) 115 (nI (ordS U e 115 (p + 1)).2.2.1) (nI (ordS U e 115 (p + 1)).2.2.2.1) (nI (ordS U e 115 (p + 1)).2.2.2.2)) D2 (fun _ D4 => Q none D4)) : Ct (d + 8) 174 [.ref 171] D Q := by
  rw [ordS_eq (show pt 115 = _ from rfl)] at hq0 hq1
  dsimp only at hq0 hq1
  have a1 := h.1
  refine ent m174 rfl rfl (ls := [.ref 171, .retAddr 0, .retAddr 0, .retAddr 0, .retAddr 0, .retAddr 0, .retAddr 0]) rfl ?_
  refine w_ald0 i174_0 ?_
  refine w_vI1 i174_1 c168 (Or.inl rfl) ⟨by decide +kernel, by decide⟩ rfl ⟨rfl, Nat.le_of_ble_eq_true rfl⟩ (T_sign_c h hp hc) ?_
  refine w_ist1 i174_4 ?_
  refine w_const i174_5 kc_0 ?_
  refine w_ist2 i174_6 ?_
  refine w_const i174_7 kc_0 ?_
  refine w_ist3 i174_8 ?_
  refine w_const i174_9 kc_0 ?_
  refine w_ist4 i174_10 ?_
  refine w_ald0 i174_12 ?_
  refine w_ild1 i174_13 ?_
  refine w_sI1 i174_14 c173 rfl  rfl ⟨rfl, Nat.le_of_ble_eq_true rfl⟩ T_isKnown115 ?_
  refine w_ineNT i174_17 g174_17 (by omega) (by omega) ?_
  refine w_const i174_24 kc_0 ?_
  refine w_pf1 i174_25 (by decide) s_171 rfl (Or.inl nI_0) ?_
  refine w_ald0 i174_28 ?_
  refine w_gfI i174_29 (by decide) s_171 rfl mupE ?_
  refine w_ieqNT i174_32 g174_32 (by omega) (by omega) ?_
  refine w_ald0 i174_36 ?_
  refine w_dup i174_37 rfl ?_
  refine w_gfI i174_38 (by decide) s_171 rfl ((mupJ (by decide)).trans a1) ?_
  refine w_const i174_41 kc_1 ?_
  refine w_iadd i174_42 (nI_add _ _) ?_
  refine w_pf0 i174_43 (by decide) s_171 rfl ?_
  have f0 : FrP D (mup (mup D 171 23 (nI 0)) 171 20 (nI (p + 1))) := FrP.u20 (FrP.u23 FrP.rf)
  have g0 : PSt (mup (mup D 171 23 (nI 0)) 171 20 (nI (p + 1))) U e (p + 1) 0 := h.of f0 mupE ((mupJ (by decide)).trans mupE) hp
  refine w_ild1 i174_46 ?_
  refine w_bip i174_47 kb_98 ?_
  refine w_ceqNF i174_49 (by omega) (by omega) (by omega) ?_
  refine w_ild1 i174_52 ?_
  refine w_bip i174_53 kb_111 ?_
  refine w_ceqNF i174_55 (by omega) (by omega) (by omega) ?_
  refine w_ild1 i174_58 ?_
  refine w_bip i174_59 kb_112 ?_
  refine w_ceqNF i174_61 (by omega) (by omega) (by omega) ?_
  refine w_ild1 i174_64 ?_
  refine w_bip i174_65 kb_116 ?_
  refine w_cneNT i174_67 g174_67 (by omega) (by omega) (by omega) ?_
  refine w_const i174_74 kc_0 ?_
  refine w_ist5 i174_75 ?_
  refine w_ild1 i174_77 ?_
  refine w_bip i174_78 kb_100 ?_
  refine w_ceqNF i174_80 (by omega) (by omega) (by omega) ?_
  refine w_ald0 i174_83 ?_
  refine w_ild5 i174_84 ?_
  refine w_ieqNT i174_86 g174_86 (by omega) (by omega) ?_
  refine w_const i174_93 kc_1 ?_
  refine w_vG2 i174_94 c170 (Or.inl rfl) ⟨by decide +kernel, by decide⟩ rfl ⟨rfl, Nat.le_of_ble_eq_true rfl⟩ ?_
  refine T_one g0 (by omega) (by decide) (fun D2 g1 f1 => ?_)
  refine w_ist2 i174_97 ?_
  refine w_ild1 i174_98 ?_
  refine w_bip i174_99 kb_115 ?_
  refine w_ceqNT i174_101 g174_101 (by omega) (by omega) (by omega) ?_
  refine w_ald0 i174_110 ?_
  refine w_bip i174_111 kb_58 ?_
  refine w_const i174_113 kc_2 ?_
  refine w_vG3 i174_114 c171 (Or.inl rfl) ⟨by decide +kernel, by decide⟩ rfl ⟨rfl, Nat.le_of_ble_eq_true rfl⟩ ?_
  refine T_nx g1 (o1P_w) (by decide) (by decide) (by decide) (fun D3 g2 f2 => ?_)
  refine w_ist3 i174_117 ?_
  refine w_ild1 i174_118 ?_
  refine w_bip i174_119 kb_115 ?_
  refine w_ceqNT i174_121 g174_121 (by omega) (by omega) (by omega) ?_
  refine w_ald0 i174_130 ?_
  refine w_bip i174_131 kb_47 ?_
  refine w_const i174_133 kc_1 ?_
  refine w_vG3 i174_134 c171 (Or.inl rfl) ⟨by decide +kernel, by decide⟩ rfl ⟨rfl, Nat.le_of_ble_eq_true rfl⟩ ?_
  refine T_nx g2 (nxP_w o1P_w) (by decide) (by decide) (by decide) (fun D4 g3 f3 => ?_)
  refine w_ist4 i174_137 ?_
  refine w_ild1 i174_139 ?_
  refine w_bip i174_140 kb_98 ?_
  refine w_cneNT i174_142 g174_142 (by omega) (by omega) (by omega) ?_
  refine w_ild1 i174_153 ?_
  refine w_bip i174_154 kb_111 ?_
  refine w_ceqNF i174_156 (by omega) (by omega) (by omega) ?_
  refine w_ild1 i174_159 ?_
  refine w_bip i174_160 kb_104 ?_
  refine w_cneNT i174_162 g174_162 (by omega) (by omega) (by omega) ?_
  refine w_ild1 i174_173 ?_
  refine w_bip i174_174 kb_111 ?_
  refine w_cneNT i174_176 g174_176 (by omega) (by omega) (by omega) ?_
  refine w_ild1 i174_188 ?_
  refine w_bip i174_189 kb_119 ?_
  refine w_cneNT i174_191 g174_191 (by omega) (by omega) (by omega) ?_
  refine w_ild1 i174_202 ?_
  refine w_bip i174_203 kb_119 ?_
  refine w_cneNT i174_205 g174_205 (by omega) (by omega) (by omega) ?_
  refine w_ild1 i174_217 ?_
  refine w_bip i174_218 kb_112 ?_
  refine w_cneNT i174_220 g174_220 (by omega) (by omega) (by omega) ?_
  have hw : (nxP U e 47 1 (nxP U e 58 2 (o1P U e 1 (p + 1)))).2.1 < 2 := nxP_w (nxP_w o1P_w)
  have fA := f0.tr (f1.tr (f2.tr (f3)))
  have gL : PSt _ U e (nxP U e 47 1 (nxP U e 58 2 (o1P U e 1 (p + 1)))).1 (nxP U e 47 1 (nxP U e 58 2 (o1P U e 1 (p + 1)))).2.1 := g3
  refine w_ald0 i174_231 ?_
  refine w_gfI i174_232 (by decide) s_171 rfl gL.2.2.2.2.2.2 ?_
  refine w_ineN i174_235 g174_235 (by omega) (fun h235 => ?_) (fun h235 => ?_)
  · skip
    refine w_rv i174_245 r174 ?_
    first | exact hq0 _ gL fA (Or.inl h235) | exact hq0 _ gL fA (Or.inr h242)
  · skip
    refine w_ald0 i174_238 ?_
    refine w_gfI i174_239 (by decide) s_171 rfl (fA.1 24 (by decide) (by decide)) ?_
    refine w_ine i174_242 g174_242  (fun h242 => ?_) (fun h242 => ?_)
    · skip
      refine w_ald0 i174_246 ?_
      refine w_ild1 i174_247 ?_
      refine w_ild2 i174_248 ?_
      refine w_ild3 i174_249 ?_
      refine w_ild4 i174_250 ?_
      refine w_vG5 i174_252 c172 (Or.inl rfl) ⟨by decide +kernel, by decide⟩ rfl ⟨rfl, Nat.le_of_ble_eq_true rfl⟩ ?_
      exact T_does115 (by rw [fA.2 172 (by decide)]; exact (hq1 _ (PSt.w0 gL h235) fA h235 h242).1) (by rw [fA.2 172 (by decide)]; exact OutMr (hq1 _ (PSt.w0 gL h235) fA h235 h242).2 (fun x D9 hq => w_ist6 i174_255 (w_rv i174_257 r174 hq)))
    · skip
      refine w_rv i174_245 r174 ?_
      first | exact hq0 _ gL fA (Or.inl h235) | exact hq0 _ gL fA (Or.inr h242)
set_option maxHeartbeats 100000 in
theorem T_order98 {d : Nat} {D : Mm} {Q : Option Value → Mm → Prop} {U : Nat → Nat} {e p w n : Nat} (h : PSt D U e p w) (hp : p < e) (hc : U p = 98) (hq0 : ∀ D2, PSt D2 U e (ordS U e 98 (p + 1)).1 (ordS U e 98 (p + 1)).2.1 → FrP D D2 → ((ordS U e 98 (p + 1)).2.1 ≠ 0 ∨ D 171 24 = 0) → Q none D2) (hq1 : ∀ D2, PSt D2 U e (ordS U e 98 (p + 1)).1 0 → FrP D D2 → (ordS U e 98 (p + 1)).2.1 = 0 → ¬ D 171 24 = 0 → HV n (D 172) ∧ OutM (oDo n (D 172) 98 (nI (ordS U e 98 (p + 1)).2.2.1) (nI (ordS U e 98 (p + 1)).2.2.2.1) (nI (ordS U e 98 (p + 1)).2.2.2.2)) D2 (fun _ D4 => Q none D4)) : Ct (d + 8) 174 [.ref 171] D Q := by
  rw [ordS_eq (show pt 98 = _ from rfl)] at hq0 hq1
  dsimp only at hq0 hq1
  have a1 := h.1
  refine ent m174 rfl rfl (ls := [.ref 171, .retAddr 0, .retAddr 0, .retAddr 0, .retAddr 0, .retAddr 0, .retAddr 0]) rfl ?_
  refine w_ald0 i174_0 ?_
  refine w_vI1 i174_1 c168 (Or.inl rfl) ⟨by decide +kernel, by decide⟩ rfl ⟨rfl, Nat.le_of_ble_eq_true rfl⟩ (T_sign_c h hp hc) ?_
  refine w_ist1 i174_4 ?_
  refine w_const i174_5 kc_0 ?_
  refine w_ist2 i174_6 ?_
  refine w_const i174_7 kc_0 ?_
  refine w_ist3 i174_8 ?_
  refine w_const i174_9 kc_0 ?_
  refine w_ist4 i174_10 ?_
  refine w_ald0 i174_12 ?_
  refine w_ild1 i174_13 ?_
  refine w_sI1 i174_14 c173 rfl  rfl ⟨rfl, Nat.le_of_ble_eq_true rfl⟩ T_isKnown98 ?_
  refine w_ineNT i174_17 g174_17 (by omega) (by omega) ?_
  refine w_const i174_24 kc_0 ?_
  refine w_pf1 i174_25 (by decide) s_171 rfl (Or.inl nI_0) ?_
  refine w_ald0 i174_28 ?_
  refine w_gfI i174_29 (by decide) s_171 rfl mupE ?_
  refine w_ieqNT i174_32 g174_32 (by omega) (by omega) ?_
  refine w_ald0 i174_36 ?_
  refine w_dup i174_37 rfl ?_
  refine w_gfI i174_38 (by decide) s_171 rfl ((mupJ (by decide)).trans a1) ?_
  refine w_const i174_41 kc_1 ?_
  refine w_iadd i174_42 (nI_add _ _) ?_
  refine w_pf0 i174_43 (by decide) s_171 rfl ?_
  have f0 : FrP D (mup (mup D 171 23 (nI 0)) 171 20 (nI (p + 1))) := FrP.u20 (FrP.u23 FrP.rf)
  have g0 : PSt (mup (mup D 171 23 (nI 0)) 171 20 (nI (p + 1))) U e (p + 1) 0 := h.of f0 mupE ((mupJ (by decide)).trans mupE) hp
  refine w_ild1 i174_46 ?_
  refine w_bip i174_47 kb_98 ?_
  refine w_ceqNT i174_49 g174_49 (by omega) (by omega) (by omega) ?_
  refine w_const i174_70 kc_1 ?_
  refine w_goto i174_71 g174_71 ?_
  refine w_ist5 i174_75 ?_
  refine w_ild1 i174_77 ?_
  refine w_bip i174_78 kb_100 ?_
  refine w_ceqNF i174_80 (by omega) (by omega) (by omega) ?_
  refine w_ald0 i174_83 ?_
  refine w_ild5 i174_84 ?_
  refine w_ieqNF i174_86 (by omega) (by omega) ?_
  refine w_const i174_89 kc_2 ?_
  refine w_goto i174_90 g174_90 ?_
  refine w_vG2 i174_94 c170 (Or.inl rfl) ⟨by decide +kernel, by decide⟩ rfl ⟨rfl, Nat.le_of_ble_eq_true rfl⟩ ?_
  refine T_one g0 (by omega) (by decide) (fun D2 g1 f1 => ?_)
  refine w_ist2 i174_97 ?_
  refine w_ild1 i174_98 ?_
  refine w_bip i174_99 kb_115 ?_
  refine w_ceqNF i174_101 (by omega) (by omega) (by omega) ?_
  refine w_ild1 i174_104 ?_
  refine w_bip i174_105 kb_109 ?_
  refine w_cneNT i174_107 g174_107 (by omega) (by omega) (by omega) ?_
  refine w_ild1 i174_118 ?_
  refine w_bip i174_119 kb_115 ?_
  refine w_ceqNF i174_121 (by omega) (by omega) (by omega) ?_
  refine w_ild1 i174_124 ?_
  refine w_bip i174_125 kb_109 ?_
  refine w_cneNT i174_127 g174_127 (by omega) (by omega) (by omega) ?_
  refine w_ild1 i174_139 ?_
  refine w_bip i174_140 kb_98 ?_
  refine w_cneNF i174_142 (by omega) (by omega) (by omega) ?_
  refine w_ald0 i174_145 ?_
  refine w_bip i174_146 kb_42 ?_
  refine w_const i174_148 kc_2 ?_
  refine w_vG3 i174_149 c171 (Or.inl rfl) ⟨by decide +kernel, by decide⟩ rfl ⟨rfl, Nat.le_of_ble_eq_true rfl⟩ ?_
  refine T_nx g1 (o1P_w) (by decide) (by decide) (by decide) (fun D3 g2 f2 => ?_)
  refine w_ist3 i174_152 ?_
  refine w_ild1 i174_153 ?_
  refine w_bip i174_154 kb_111 ?_
  refine w_ceqNF i174_156 (by omega) (by omega) (by omega) ?_
  refine w_ild1 i174_159 ?_
  refine w_bip i174_160 kb_104 ?_
  refine w_cneNT i174_162 g174_162 (by omega) (by omega) (by omega) ?_
  refine w_ild1 i174_173 ?_
  refine w_bip i174_174 kb_111 ?_
  refine w_cneNT i174_176 g174_176 (by omega) (by omega) (by omega) ?_
  refine w_ild1 i174_188 ?_
  refine w_bip i174_189 kb_119 ?_
  refine w_cneNT i174_191 g174_191 (by omega) (by omega) (by omega) ?_
  refine w_ild1 i174_202 ?_
  refine w_bip i174_203 kb_119 ?_
  refine w_cneNT i174_205 g174_205 (by omega) (by omega) (by omega) ?_
  refine w_ild1 i174_217 ?_
  refine w_bip i174_218 kb_112 ?_
  refine w_cneNT i174_220 g174_220 (by omega) (by omega) (by omega) ?_
  have hw : (nxP U e 42 2 (o1P U e 2 (p + 1))).2.1 < 2 := nxP_w o1P_w
  have fA := f0.tr (f1.tr (f2))
  have gL : PSt _ U e (nxP U e 42 2 (o1P U e 2 (p + 1))).1 (nxP U e 42 2 (o1P U e 2 (p + 1))).2.1 := g2
  refine w_ald0 i174_231 ?_
  refine w_gfI i174_232 (by decide) s_171 rfl gL.2.2.2.2.2.2 ?_
  refine w_ineN i174_235 g174_235 (by omega) (fun h235 => ?_) (fun h235 => ?_)
  · skip
    refine w_rv i174_245 r174 ?_
    first | exact hq0 _ gL fA (Or.inl h235) | exact hq0 _ gL fA (Or.inr h242)
  · skip
    refine w_ald0 i174_238 ?_
    refine w_gfI i174_239 (by decide) s_171 rfl (fA.1 24 (by decide) (by decide)) ?_
    refine w_ine i174_242 g174_242  (fun h242 => ?_) (fun h242 => ?_)
    · skip
      refine w_ald0 i174_246 ?_
      refine w_ild1 i174_247 ?_
      refine w_ild2 i174_248 ?_
      refine w_ild3 i174_249 ?_
      refine w_ild4 i174_250 ?_
      refine w_vG5 i174_252 c172 (Or.inl rfl) ⟨by decide +kernel, by decide⟩ rfl ⟨rfl, Nat.le_of_ble_eq_true rfl⟩ ?_
      exact T_does98 (by rw [fA.2 172 (by decide)]; exact (hq1 _ (PSt.w0 gL h235) fA h235 h242).1) (by rw [fA.2 172 (by decide)]; exact OutMr (hq1 _ (PSt.w0 gL h235) fA h235 h242).2 (fun x D9 hq => w_ist6 i174_255 (w_rv i174_257 r174 hq)))
    · skip
      refine w_rv i174_245 r174 ?_
      first | exact hq0 _ gL fA (Or.inl h235) | exact hq0 _ gL fA (Or.inr h242)
set_option maxHeartbeats 100000 in
theorem T_order111 {d : Nat} {D : Mm} {Q : Option Value → Mm → Prop} {U : Nat → Nat} {e p w n : Nat} (h : PSt D U e p w) (hp : p < e) (hc : U p = 111) (hq0 : ∀ D2, PSt D2 U e (ordS U e 111 (p + 1)).1 (ordS U e 111 (p + 1)).2.1 → FrP D D2 → ((ordS U e 111 (p + 1)).2.1 ≠ 0 ∨ D 171 24 = 0) → Q none D2) (hq1 : ∀ D2, PSt D2 U e (ordS U e 111 (p + 1)).1 0 → FrP D D2 → (ordS U e 111 (p + 1)).2.1 = 0 → ¬ D 171 24 = 0 → HV n (D 172) ∧ OutM (oDo n (D 172) 111 (nI (ordS U e 111 (p + 1)).2.2.1) (nI (ordS U e 111 (p + 1)).2.2.2.1) (nI (ordS U e 111 (p + 1)).2.2.2.2)) D2 (fun _ D4 => Q none D4)) : Ct (d + 8) 174 [.ref 171] D Q := by
  rw [ordS_eq (show pt 111 = _ from rfl)] at hq0 hq1
  dsimp only at hq0 hq1
  have a1 := h.1
  refine ent m174 rfl rfl (ls := [.ref 171, .retAddr 0, .retAddr 0, .retAddr 0, .retAddr 0, .retAddr 0, .retAddr 0]) rfl ?_
  refine w_ald0 i174_0 ?_
  refine w_vI1 i174_1 c168 (Or.inl rfl) ⟨by decide +kernel, by decide⟩ rfl ⟨rfl, Nat.le_of_ble_eq_true rfl⟩ (T_sign_c h hp hc) ?_
  refine w_ist1 i174_4 ?_
  refine w_const i174_5 kc_0 ?_
  refine w_ist2 i174_6 ?_
  refine w_const i174_7 kc_0 ?_
  refine w_ist3 i174_8 ?_
  refine w_const i174_9 kc_0 ?_
  refine w_ist4 i174_10 ?_
  refine w_ald0 i174_12 ?_
  refine w_ild1 i174_13 ?_
  refine w_sI1 i174_14 c173 rfl  rfl ⟨rfl, Nat.le_of_ble_eq_true rfl⟩ T_isKnown111 ?_
  refine w_ineNT i174_17 g174_17 (by omega) (by omega) ?_
  refine w_const i174_24 kc_0 ?_
  refine w_pf1 i174_25 (by decide) s_171 rfl (Or.inl nI_0) ?_
  refine w_ald0 i174_28 ?_
  refine w_gfI i174_29 (by decide) s_171 rfl mupE ?_
  refine w_ieqNT i174_32 g174_32 (by omega) (by omega) ?_
  refine w_ald0 i174_36 ?_
  refine w_dup i174_37 rfl ?_
  refine w_gfI i174_38 (by decide) s_171 rfl ((mupJ (by decide)).trans a1) ?_
  refine w_const i174_41 kc_1 ?_
  refine w_iadd i174_42 (nI_add _ _) ?_
  refine w_pf0 i174_43 (by decide) s_171 rfl ?_
  have f0 : FrP D (mup (mup D 171 23 (nI 0)) 171 20 (nI (p + 1))) := FrP.u20 (FrP.u23 FrP.rf)
  have g0 : PSt (mup (mup D 171 23 (nI 0)) 171 20 (nI (p + 1))) U e (p + 1) 0 := h.of f0 mupE ((mupJ (by decide)).trans mupE) hp
  refine w_ild1 i174_46 ?_
  refine w_bip i174_47 kb_98 ?_
  refine w_ceqNF i174_49 (by omega) (by omega) (by omega) ?_
  refine w_ild1 i174_52 ?_
  refine w_bip i174_53 kb_111 ?_
  refine w_ceqNT i174_55 g174_55 (by omega) (by omega) (by omega) ?_
  refine w_const i174_70 kc_1 ?_
  refine w_goto i174_71 g174_71 ?_
  refine w_ist5 i174_75 ?_
  refine w_ild1 i174_77 ?_
  refine w_bip i174_78 kb_100 ?_
  refine w_ceqNF i174_80 (by omega) (by omega) (by omega) ?_
  refine w_ald0 i174_83 ?_
  refine w_ild5 i174_84 ?_
  refine w_ieqNF i174_86 (by omega) (by omega) ?_
  refine w_const i174_89 kc_2 ?_
  refine w_goto i174_90 g174_90 ?_
  refine w_vG2 i174_94 c170 (Or.inl rfl) ⟨by decide +kernel, by decide⟩ rfl ⟨rfl, Nat.le_of_ble_eq_true rfl⟩ ?_
  refine T_one g0 (by omega) (by decide) (fun D2 g1 f1 => ?_)
  refine w_ist2 i174_97 ?_
  refine w_ild1 i174_98 ?_
  refine w_bip i174_99 kb_115 ?_
  refine w_ceqNF i174_101 (by omega) (by omega) (by omega) ?_
  refine w_ild1 i174_104 ?_
  refine w_bip i174_105 kb_109 ?_
  refine w_cneNT i174_107 g174_107 (by omega) (by omega) (by omega) ?_
  refine w_ild1 i174_118 ?_
  refine w_bip i174_119 kb_115 ?_
  refine w_ceqNF i174_121 (by omega) (by omega) (by omega) ?_
  refine w_ild1 i174_124 ?_
  refine w_bip i174_125 kb_109 ?_
  refine w_cneNT i174_127 g174_127 (by omega) (by omega) (by omega) ?_
  refine w_ild1 i174_139 ?_
  refine w_bip i174_140 kb_98 ?_
  refine w_cneNT i174_142 g174_142 (by omega) (by omega) (by omega) ?_
  refine w_ild1 i174_153 ?_
  refine w_bip i174_154 kb_111 ?_
  refine w_ceqNT i174_156 g174_156 (by omega) (by omega) (by omega) ?_
  refine w_ald0 i174_165 ?_
  refine w_bip i174_166 kb_62 ?_
  refine w_const i174_168 kc_1 ?_
  refine w_vG3 i174_169 c171 (Or.inl rfl) ⟨by decide +kernel, by decide⟩ rfl ⟨rfl, Nat.le_of_ble_eq_true rfl⟩ ?_
  refine T_nx g1 (o1P_w) (by decide) (by decide) (by decide) (fun D3 g2 f2 => ?_)
  refine w_ist3 i174_172 ?_
  refine w_ild1 i174_173 ?_
  refine w_bip i174_174 kb_111 ?_
  refine w_cneNF i174_176 (by omega) (by omega) (by omega) ?_
  refine w_ald0 i174_179 ?_
  refine w_bip i174_180 kb_61 ?_
  refine w_const i174_182 kc_2 ?_
  refine w_vG3 i174_183 c171 (Or.inl rfl) ⟨by decide +kernel, by decide⟩ rfl ⟨rfl, Nat.le_of_ble_eq_true rfl⟩ ?_
  refine T_nx g2 (nxP_w o1P_w) (by decide) (by decide) (by decide) (fun D4 g3 f3 => ?_)
  refine w_ist4 i174_186 ?_
  refine w_ild1 i174_188 ?_
  refine w_bip i174_189 kb_119 ?_
  refine w_cneNT i174_191 g174_191 (by omega) (by omega) (by omega) ?_
  refine w_ild1 i174_202 ?_
  refine w_bip i174_203 kb_119 ?_
  refine w_cneNT i174_205 g174_205 (by omega) (by omega) (by omega) ?_
  refine w_ild1 i174_217 ?_
  refine w_bip i174_218 kb_112 ?_
  refine w_cneNT i174_220 g174_220 (by omega) (by omega) (by omega) ?_
  have hw : (nxP U e 61 2 (nxP U e 62 1 (o1P U e 2 (p + 1)))).2.1 < 2 := nxP_w (nxP_w o1P_w)
  have fA := f0.tr (f1.tr (f2.tr (f3)))
  have gL : PSt _ U e (nxP U e 61 2 (nxP U e 62 1 (o1P U e 2 (p + 1)))).1 (nxP U e 61 2 (nxP U e 62 1 (o1P U e 2 (p + 1)))).2.1 := g3
  refine w_ald0 i174_231 ?_
  refine w_gfI i174_232 (by decide) s_171 rfl gL.2.2.2.2.2.2 ?_
  refine w_ineN i174_235 g174_235 (by omega) (fun h235 => ?_) (fun h235 => ?_)
  · skip
    refine w_rv i174_245 r174 ?_
    first | exact hq0 _ gL fA (Or.inl h235) | exact hq0 _ gL fA (Or.inr h242)
  · skip
    refine w_ald0 i174_238 ?_
    refine w_gfI i174_239 (by decide) s_171 rfl (fA.1 24 (by decide) (by decide)) ?_
    refine w_ine i174_242 g174_242  (fun h242 => ?_) (fun h242 => ?_)
    · skip
      refine w_ald0 i174_246 ?_
      refine w_ild1 i174_247 ?_
      refine w_ild2 i174_248 ?_
      refine w_ild3 i174_249 ?_
      refine w_ild4 i174_250 ?_
      refine w_vG5 i174_252 c172 (Or.inl rfl) ⟨by decide +kernel, by decide⟩ rfl ⟨rfl, Nat.le_of_ble_eq_true rfl⟩ ?_
      exact T_does111 (by rw [fA.2 172 (by decide)]; exact (hq1 _ (PSt.w0 gL h235) fA h235 h242).1) (by rw [fA.2 172 (by decide)]; exact OutMr (hq1 _ (PSt.w0 gL h235) fA h235 h242).2 (fun x D9 hq => w_ist6 i174_255 (w_rv i174_257 r174 hq)))
    · skip
      refine w_rv i174_245 r174 ?_
      first | exact hq0 _ gL fA (Or.inl h235) | exact hq0 _ gL fA (Or.inr h242)
set_option maxHeartbeats 100000 in
theorem T_order119 {d : Nat} {D : Mm} {Q : Option Value → Mm → Prop} {U : Nat → Nat} {e p w n : Nat} (h : PSt D U e p w) (hp : p < e) (hc : U p = 119) (hq0 : ∀ D2, PSt D2 U e (ordS U e 119 (p + 1)).1 (ordS U e 119 (p + 1)).2.1 → FrP D D2 → ((ordS U e 119 (p + 1)).2.1 ≠ 0 ∨ D 171 24 = 0) → Q none D2) (hq1 : ∀ D2, PSt D2 U e (ordS U e 119 (p + 1)).1 0 → FrP D D2 → (ordS U e 119 (p + 1)).2.1 = 0 → ¬ D 171 24 = 0 → HV n (D 172) ∧ OutM (oDo n (D 172) 119 (nI (ordS U e 119 (p + 1)).2.2.1) (nI (ordS U e 119 (p + 1)).2.2.2.1) (nI (ordS U e 119 (p + 1)).2.2.2.2)) D2 (fun _ D4 => Q none D4)) : Ct (d + 8) 174 [.ref 171] D Q := by
  rw [ordS_eq (show pt 119 = _ from rfl)] at hq0 hq1
  dsimp only at hq0 hq1
  have a1 := h.1
  refine ent m174 rfl rfl (ls := [.ref 171, .retAddr 0, .retAddr 0, .retAddr 0, .retAddr 0, .retAddr 0, .retAddr 0]) rfl ?_
  refine w_ald0 i174_0 ?_
  refine w_vI1 i174_1 c168 (Or.inl rfl) ⟨by decide +kernel, by decide⟩ rfl ⟨rfl, Nat.le_of_ble_eq_true rfl⟩ (T_sign_c h hp hc) ?_
  refine w_ist1 i174_4 ?_
  refine w_const i174_5 kc_0 ?_
  refine w_ist2 i174_6 ?_
  refine w_const i174_7 kc_0 ?_
  refine w_ist3 i174_8 ?_
  refine w_const i174_9 kc_0 ?_
  refine w_ist4 i174_10 ?_
  refine w_ald0 i174_12 ?_
  refine w_ild1 i174_13 ?_
  refine w_sI1 i174_14 c173 rfl  rfl ⟨rfl, Nat.le_of_ble_eq_true rfl⟩ T_isKnown119 ?_
  refine w_ineNT i174_17 g174_17 (by omega) (by omega) ?_
  refine w_const i174_24 kc_0 ?_
  refine w_pf1 i174_25 (by decide) s_171 rfl (Or.inl nI_0) ?_
  refine w_ald0 i174_28 ?_
  refine w_gfI i174_29 (by decide) s_171 rfl mupE ?_
  refine w_ieqNT i174_32 g174_32 (by omega) (by omega) ?_
  refine w_ald0 i174_36 ?_
  refine w_dup i174_37 rfl ?_
  refine w_gfI i174_38 (by decide) s_171 rfl ((mupJ (by decide)).trans a1) ?_
  refine w_const i174_41 kc_1 ?_
  refine w_iadd i174_42 (nI_add _ _) ?_
  refine w_pf0 i174_43 (by decide) s_171 rfl ?_
  have f0 : FrP D (mup (mup D 171 23 (nI 0)) 171 20 (nI (p + 1))) := FrP.u20 (FrP.u23 FrP.rf)
  have g0 : PSt (mup (mup D 171 23 (nI 0)) 171 20 (nI (p + 1))) U e (p + 1) 0 := h.of f0 mupE ((mupJ (by decide)).trans mupE) hp
  refine w_ild1 i174_46 ?_
  refine w_bip i174_47 kb_98 ?_
  refine w_ceqNF i174_49 (by omega) (by omega) (by omega) ?_
  refine w_ild1 i174_52 ?_
  refine w_bip i174_53 kb_111 ?_
  refine w_ceqNF i174_55 (by omega) (by omega) (by omega) ?_
  refine w_ild1 i174_58 ?_
  refine w_bip i174_59 kb_112 ?_
  refine w_ceqNF i174_61 (by omega) (by omega) (by omega) ?_
  refine w_ild1 i174_64 ?_
  refine w_bip i174_65 kb_116 ?_
  refine w_cneNT i174_67 g174_67 (by omega) (by omega) (by omega) ?_
  refine w_const i174_74 kc_0 ?_
  refine w_ist5 i174_75 ?_
  refine w_ild1 i174_77 ?_
  refine w_bip i174_78 kb_100 ?_
  refine w_ceqNF i174_80 (by omega) (by omega) (by omega) ?_
  refine w_ald0 i174_83 ?_
  refine w_ild5 i174_84 ?_
  refine w_ieqNT i174_86 g174_86 (by omega) (by omega) ?_
  refine w_const i174_93 kc_1 ?_
  refine w_vG2 i174_94 c170 (Or.inl rfl) ⟨by decide +kernel, by decide⟩ rfl ⟨rfl, Nat.le_of_ble_eq_true rfl⟩ ?_
  refine T_one g0 (by omega) (by decide) (fun D2 g1 f1 => ?_)
  refine w_ist2 i174_97 ?_
  refine w_ild1 i174_98 ?_
  refine w_bip i174_99 kb_115 ?_
  refine w_ceqNF i174_101 (by omega) (by omega) (by omega) ?_
  refine w_ild1 i174_104 ?_
  refine w_bip i174_105 kb_109 ?_
  refine w_cneNT i174_107 g174_107 (by omega) (by omega) (by omega) ?_
  refine w_ild1 i174_118 ?_
  refine w_bip i174_119 kb_115 ?_
  refine w_ceqNF i174_121 (by omega) (by omega) (by omega) ?_
  refine w_ild1 i174_124 ?_
  refine w_bip i174_125 kb_109 ?_
  refine w_cneNT i174_127 g174_127 (by omega) (by omega) (by omega) ?_
  refine w_ild1 i174_139 ?_
  refine w_bip i174_140 kb_98 ?_
  refine w_cneNT i174_142 g174_142 (by omega) (by omega) (by omega) ?_
  refine w_ild1 i174_153 ?_
  refine w_bip i174_154 kb_111 ?_
  refine w_ceqNF i174_156 (by omega) (by omega) (by omega) ?_
  refine w_ild1 i174_159 ?_
  refine w_bip i174_160 kb_104 ?_
  refine w_cneNT i174_162 g174_162 (by omega) (by omega) (by omega) ?_
  refine w_ild1 i174_173 ?_
  refine w_bip i174_174 kb_111 ?_
  refine w_cneNT i174_176 g174_176 (by omega) (by omega) (by omega) ?_
  refine w_ild1 i174_188 ?_
  refine w_bip i174_189 kb_119 ?_
  refine w_cneNF i174_191 (by omega) (by omega) (by omega) ?_
  refine w_ald0 i174_194 ?_
  refine w_bip i174_195 kb_33 ?_
  refine w_const i174_197 kc_2 ?_
  refine w_vG3 i174_198 c171 (Or.inl rfl) ⟨by decide +kernel, by decide⟩ rfl ⟨rfl, Nat.le_of_ble_eq_true rfl⟩ ?_
  refine T_nx g1 (o1P_w) (by decide) (by decide) (by decide) (fun D3 g2 f2 => ?_)
  refine w_ist3 i174_201 ?_
  refine w_ild1 i174_202 ?_
  refine w_bip i174_203 kb_119 ?_
  refine w_cneNF i174_205 (by omega) (by omega) (by omega) ?_
  refine w_ald0 i174_208 ?_
  refine w_bip i174_209 kb_42 ?_
  refine w_const i174_211 kc_2 ?_
  refine w_vG3 i174_212 c171 (Or.inl rfl) ⟨by decide +kernel, by decide⟩ rfl ⟨rfl, Nat.le_of_ble_eq_true rfl⟩ ?_
  refine T_nx g2 (nxP_w o1P_w) (by decide) (by decide) (by decide) (fun D4 g3 f3 => ?_)
  refine w_ist4 i174_215 ?_
  refine w_ild1 i174_217 ?_
  refine w_bip i174_218 kb_112 ?_
  refine w_cneNT i174_220 g174_220 (by omega) (by omega) (by omega) ?_
  have hw : (nxP U e 42 2 (nxP U e 33 2 (o1P U e 1 (p + 1)))).2.1 < 2 := nxP_w (nxP_w o1P_w)
  have fA := f0.tr (f1.tr (f2.tr (f3)))
  have gL : PSt _ U e (nxP U e 42 2 (nxP U e 33 2 (o1P U e 1 (p + 1)))).1 (nxP U e 42 2 (nxP U e 33 2 (o1P U e 1 (p + 1)))).2.1 := g3
  refine w_ald0 i174_231 ?_
  refine w_gfI i174_232 (by decide) s_171 rfl gL.2.2.2.2.2.2 ?_
  refine w_ineN i174_235 g174_235 (by omega) (fun h235 => ?_) (fun h235 => ?_)
  · skip
    refine w_rv i174_245 r174 ?_
    first | exact hq0 _ gL fA (Or.inl h235) | exact hq0 _ gL fA (Or.inr h242)
  · skip
    refine w_ald0 i174_238 ?_
    refine w_gfI i174_239 (by decide) s_171 rfl (fA.1 24 (by decide) (by decide)) ?_
    refine w_ine i174_242 g174_242  (fun h242 => ?_) (fun h242 => ?_)
    · skip
      refine w_ald0 i174_246 ?_
      refine w_ild1 i174_247 ?_
      refine w_ild2 i174_248 ?_
      refine w_ild3 i174_249 ?_
      refine w_ild4 i174_250 ?_
      refine w_vG5 i174_252 c172 (Or.inl rfl) ⟨by decide +kernel, by decide⟩ rfl ⟨rfl, Nat.le_of_ble_eq_true rfl⟩ ?_
      exact T_does119 (by rw [fA.2 172 (by decide)]; exact (hq1 _ (PSt.w0 gL h235) fA h235 h242).1) (by rw [fA.2 172 (by decide)]; exact OutMr (hq1 _ (PSt.w0 gL h235) fA h235 h242).2 (fun x D9 hq => w_ist6 i174_255 (w_rv i174_257 r174 hq)))
    · skip
      refine w_rv i174_245 r174 ?_
      first | exact hq0 _ gL fA (Or.inl h235) | exact hq0 _ gL fA (Or.inr h242)
set_option maxHeartbeats 100000 in
theorem T_order112 {d : Nat} {D : Mm} {Q : Option Value → Mm → Prop} {U : Nat → Nat} {e p w n : Nat} (h : PSt D U e p w) (hp : p < e) (hc : U p = 112) (hq0 : ∀ D2, PSt D2 U e (ordS U e 112 (p + 1)).1 (ordS U e 112 (p + 1)).2.1 → FrP D D2 → ((ordS U e 112 (p + 1)).2.1 ≠ 0 ∨ D 171 24 = 0) → Q none D2) (hq1 : ∀ D2, PSt D2 U e (ordS U e 112 (p + 1)).1 0 → FrP D D2 → (ordS U e 112 (p + 1)).2.1 = 0 → ¬ D 171 24 = 0 → HV n (D 172) ∧ OutM (oDo n (D 172) 112 (nI (ordS U e 112 (p + 1)).2.2.1) (nI (ordS U e 112 (p + 1)).2.2.2.1) (nI (ordS U e 112 (p + 1)).2.2.2.2)) D2 (fun _ D4 => Q none D4)) : Ct (d + 8) 174 [.ref 171] D Q := by
  rw [ordS_eq (show pt 112 = _ from rfl)] at hq0 hq1
  dsimp only at hq0 hq1
  have a1 := h.1
  refine ent m174 rfl rfl (ls := [.ref 171, .retAddr 0, .retAddr 0, .retAddr 0, .retAddr 0, .retAddr 0, .retAddr 0]) rfl ?_
  refine w_ald0 i174_0 ?_
  refine w_vI1 i174_1 c168 (Or.inl rfl) ⟨by decide +kernel, by decide⟩ rfl ⟨rfl, Nat.le_of_ble_eq_true rfl⟩ (T_sign_c h hp hc) ?_
  refine w_ist1 i174_4 ?_
  refine w_const i174_5 kc_0 ?_
  refine w_ist2 i174_6 ?_
  refine w_const i174_7 kc_0 ?_
  refine w_ist3 i174_8 ?_
  refine w_const i174_9 kc_0 ?_
  refine w_ist4 i174_10 ?_
  refine w_ald0 i174_12 ?_
  refine w_ild1 i174_13 ?_
  refine w_sI1 i174_14 c173 rfl  rfl ⟨rfl, Nat.le_of_ble_eq_true rfl⟩ T_isKnown112 ?_
  refine w_ineNT i174_17 g174_17 (by omega) (by omega) ?_
  refine w_const i174_24 kc_0 ?_
  refine w_pf1 i174_25 (by decide) s_171 rfl (Or.inl nI_0) ?_
  refine w_ald0 i174_28 ?_
  refine w_gfI i174_29 (by decide) s_171 rfl mupE ?_
  refine w_ieqNT i174_32 g174_32 (by omega) (by omega) ?_
  refine w_ald0 i174_36 ?_
  refine w_dup i174_37 rfl ?_
  refine w_gfI i174_38 (by decide) s_171 rfl ((mupJ (by decide)).trans a1) ?_
  refine w_const i174_41 kc_1 ?_
  refine w_iadd i174_42 (nI_add _ _) ?_
  refine w_pf0 i174_43 (by decide) s_171 rfl ?_
  have f0 : FrP D (mup (mup D 171 23 (nI 0)) 171 20 (nI (p + 1))) := FrP.u20 (FrP.u23 FrP.rf)
  have g0 : PSt (mup (mup D 171 23 (nI 0)) 171 20 (nI (p + 1))) U e (p + 1) 0 := h.of f0 mupE ((mupJ (by decide)).trans mupE) hp
  refine w_ild1 i174_46 ?_
  refine w_bip i174_47 kb_98 ?_
  refine w_ceqNF i174_49 (by omega) (by omega) (by omega) ?_
  refine w_ild1 i174_52 ?_
  refine w_bip i174_53 kb_111 ?_
  refine w_ceqNF i174_55 (by omega) (by omega) (by omega) ?_
  refine w_ild1 i174_58 ?_
  refine w_bip i174_59 kb_112 ?_
  refine w_ceqNT i174_61 g174_61 (by omega) (by omega) (by omega) ?_
  refine w_const i174_70 kc_1 ?_
  refine w_goto i174_71 g174_71 ?_
  refine w_ist5 i174_75 ?_
  refine w_ild1 i174_77 ?_
  refine w_bip i174_78 kb_100 ?_
  refine w_ceqNF i174_80 (by omega) (by omega) (by omega) ?_
  refine w_ald0 i174_83 ?_
  refine w_ild5 i174_84 ?_
  refine w_ieqNF i174_86 (by omega) (by omega) ?_
  refine w_const i174_89 kc_2 ?_
  refine w_goto i174_90 g174_90 ?_
  refine w_vG2 i174_94 c170 (Or.inl rfl) ⟨by decide +kernel, by decide⟩ rfl ⟨rfl, Nat.le_of_ble_eq_true rfl⟩ ?_
  refine T_one g0 (by omega) (by decide) (fun D2 g1 f1 => ?_)
  refine w_ist2 i174_97 ?_
  refine w_ild1 i174_98 ?_
  refine w_bip i174_99 kb_115 ?_
  refine w_ceqNF i174_101 (by omega) (by omega) (by omega) ?_
  refine w_ild1 i174_104 ?_
  refine w_bip i174_105 kb_109 ?_
  refine w_cneNT i174_107 g174_107 (by omega) (by omega) (by omega) ?_
  refine w_ild1 i174_118 ?_
  refine w_bip i174_119 kb_115 ?_
  refine w_ceqNF i174_121 (by omega) (by omega) (by omega) ?_
  refine w_ild1 i174_124 ?_
  refine w_bip i174_125 kb_109 ?_
  refine w_cneNT i174_127 g174_127 (by omega) (by omega) (by omega) ?_
  refine w_ild1 i174_139 ?_
  refine w_bip i174_140 kb_98 ?_
  refine w_cneNT i174_142 g174_142 (by omega) (by omega) (by omega) ?_
  refine w_ild1 i174_153 ?_
  refine w_bip i174_154 kb_111 ?_
  refine w_ceqNF i174_156 (by omega) (by omega) (by omega) ?_
  refine w_ild1 i174_159 ?_
  refine w_bip i174_160 kb_104 ?_
  refine w_cneNT i174_162 g174_162 (by omega) (by omega) (by omega) ?_
  refine w_ild1 i174_173 ?_
  refine w_bip i174_174 kb_111 ?_
  refine w_cneNT i174_176 g174_176 (by omega) (by omega) (by omega) ?_
  refine w_ild1 i174_188 ?_
  refine w_bip i174_189 kb_119 ?_
  refine w_cneNT i174_191 g174_191 (by omega) (by omega) (by omega) ?_
  refine w_ild1 i174_202 ?_
  refine w_bip i174_203 kb_119 ?_
  refine w_cneNT i174_205 g174_205 (by omega) (by omega) (by omega) ?_
  refine w_ild1 i174_217 ?_
  refine w_bip i174_218 kb_112 ?_
  refine w_cneNF i174_220 (by omega) (by omega) (by omega) ?_
  refine w_ald0 i174_223 ?_
  refine w_bip i174_224 kb_43 ?_
  refine w_const i174_226 kc_2 ?_
  refine w_vG3 i174_227 c171 (Or.inl rfl) ⟨by decide +kernel, by decide⟩ rfl ⟨rfl, Nat.le_of_ble_eq_true rfl⟩ ?_
  refine T_nx g1 (o1P_w) (by decide) (by decide) (by decide) (fun D3 g2 f2 => ?_)
  refine w_ist3 i174_230 ?_
  have hw : (nxP U e 43 2 (o1P U e 2 (p + 1))).2.1 < 2 := nxP_w o1P_w
  have fA := f0.tr (f1.tr (f2))
  have gL : PSt _ U e (nxP U e 43 2 (o1P U e 2 (p + 1))).1 (nxP U e 43 2 (o1P U e 2 (p + 1))).2.1 := g2
  refine w_ald0 i174_231 ?_
  refine w_gfI i174_232 (by decide) s_171 rfl gL.2.2.2.2.2.2 ?_
  refine w_ineN i174_235 g174_235 (by omega) (fun h235 => ?_) (fun h235 => ?_)
  · skip
    refine w_rv i174_245 r174 ?_
    first | exact hq0 _ gL fA (Or.inl h235) | exact hq0 _ gL fA (Or.inr h242)
  · skip
    refine w_ald0 i174_238 ?_
    refine w_gfI i174_239 (by decide) s_171 rfl (fA.1 24 (by decide) (by decide)) ?_
    refine w_ine i174_242 g174_242  (fun h242 => ?_) (fun h242 => ?_)
    · skip
      refine w_ald0 i174_246 ?_
      refine w_ild1 i174_247 ?_
      refine w_ild2 i174_248 ?_
      refine w_ild3 i174_249 ?_
      refine w_ild4 i174_250 ?_
      refine w_vG5 i174_252 c172 (Or.inl rfl) ⟨by decide +kernel, by decide⟩ rfl ⟨rfl, Nat.le_of_ble_eq_true rfl⟩ ?_
      exact T_does112 (by rw [fA.2 172 (by decide)]; exact (hq1 _ (PSt.w0 gL h235) fA h235 h242).1) (by rw [fA.2 172 (by decide)]; exact OutMr (hq1 _ (PSt.w0 gL h235) fA h235 h242).2 (fun x D9 hq => w_ist6 i174_255 (w_rv i174_257 r174 hq)))
    · skip
      refine w_rv i174_245 r174 ?_
      first | exact hq0 _ gL fA (Or.inl h235) | exact hq0 _ gL fA (Or.inr h242)
set_option maxHeartbeats 100000 in
theorem T_order100 {d : Nat} {D : Mm} {Q : Option Value → Mm → Prop} {U : Nat → Nat} {e p w n : Nat} (h : PSt D U e p w) (hp : p < e) (hc : U p = 100) (hq0 : ∀ D2, PSt D2 U e (ordS U e 100 (p + 1)).1 (ordS U e 100 (p + 1)).2.1 → FrP D D2 → ((ordS U e 100 (p + 1)).2.1 ≠ 0 ∨ D 171 24 = 0) → Q none D2) (hq1 : ∀ D2, PSt D2 U e (ordS U e 100 (p + 1)).1 0 → FrP D D2 → (ordS U e 100 (p + 1)).2.1 = 0 → ¬ D 171 24 = 0 → HV n (D 172) ∧ OutM (oDo n (D 172) 100 (nI (ordS U e 100 (p + 1)).2.2.1) (nI (ordS U e 100 (p + 1)).2.2.2.1) (nI (ordS U e 100 (p + 1)).2.2.2.2)) D2 (fun _ D4 => Q none D4)) : Ct (d + 8) 174 [.ref 171] D Q := by
  rw [ordS_eq (show pt 100 = _ from rfl)] at hq0 hq1
  dsimp only at hq0 hq1
  have a1 := h.1
  refine ent m174 rfl rfl (ls := [.ref 171, .retAddr 0, .retAddr 0, .retAddr 0, .retAddr 0, .retAddr 0, .retAddr 0]) rfl ?_
  refine w_ald0 i174_0 ?_
  refine w_vI1 i174_1 c168 (Or.inl rfl) ⟨by decide +kernel, by decide⟩ rfl ⟨rfl, Nat.le_of_ble_eq_true rfl⟩ (T_sign_c h hp hc) ?_
  refine w_ist1 i174_4 ?_
  refine w_const i174_5 kc_0 ?_
  refine w_ist2 i174_6 ?_
  refine w_const i174_7 kc_0 ?_
  refine w_ist3 i174_8 ?_
  refine w_const i174_9 kc_0 ?_
  refine w_ist4 i174_10 ?_
  refine w_ald0 i174_12 ?_
  refine w_ild1 i174_13 ?_
  refine w_sI1 i174_14 c173 rfl  rfl ⟨rfl, Nat.le_of_ble_eq_true rfl⟩ T_isKnown100 ?_
  refine w_ineNT i174_17 g174_17 (by omega) (by omega) ?_
  refine w_const i174_24 kc_0 ?_
  refine w_pf1 i174_25 (by decide) s_171 rfl (Or.inl nI_0) ?_
  refine w_ald0 i174_28 ?_
  refine w_gfI i174_29 (by decide) s_171 rfl mupE ?_
  refine w_ieqNT i174_32 g174_32 (by omega) (by omega) ?_
  refine w_ald0 i174_36 ?_
  refine w_dup i174_37 rfl ?_
  refine w_gfI i174_38 (by decide) s_171 rfl ((mupJ (by decide)).trans a1) ?_
  refine w_const i174_41 kc_1 ?_
  refine w_iadd i174_42 (nI_add _ _) ?_
  refine w_pf0 i174_43 (by decide) s_171 rfl ?_
  have f0 : FrP D (mup (mup D 171 23 (nI 0)) 171 20 (nI (p + 1))) := FrP.u20 (FrP.u23 FrP.rf)
  have g0 : PSt (mup (mup D 171 23 (nI 0)) 171 20 (nI (p + 1))) U e (p + 1) 0 := h.of f0 mupE ((mupJ (by decide)).trans mupE) hp
  refine w_ild1 i174_46 ?_
  refine w_bip i174_47 kb_98 ?_
  refine w_ceqNF i174_49 (by omega) (by omega) (by omega) ?_
  refine w_ild1 i174_52 ?_
  refine w_bip i174_53 kb_111 ?_
  refine w_ceqNF i174_55 (by omega) (by omega) (by omega) ?_
  refine w_ild1 i174_58 ?_
  refine w_bip i174_59 kb_112 ?_
  refine w_ceqNF i174_61 (by omega) (by omega) (by omega) ?_
  refine w_ild1 i174_64 ?_
  refine w_bip i174_65 kb_116 ?_
  refine w_cneNT i174_67 g174_67 (by omega) (by omega) (by omega) ?_
  refine w_const i174_74 kc_0 ?_
  refine w_ist5 i174_75 ?_
  refine w_ild1 i174_77 ?_
  refine w_bip i174_78 kb_100 ?_
  refine w_ceqNT i174_80 g174_80 (by omega) (by omega) (by omega) ?_
  refine w_ild1 i174_98 ?_
  refine w_bip i174_99 kb_115 ?_
  refine w_ceqNF i174_101 (by omega) (by omega) (by omega) ?_
  refine w_ild1 i174_104 ?_
  refine w_bip i174_105 kb_109 ?_
  refine w_cneNT i174_107 g174_107 (by omega) (by omega) (by omega) ?_
  refine w_ild1 i174_118 ?_
  refine w_bip i174_119 kb_115 ?_
  refine w_ceqNF i174_121 (by omega) (by omega) (by omega) ?_
  refine w_ild1 i174_124 ?_
  refine w_bip i174_125 kb_109 ?_
  refine w_cneNT i174_127 g174_127 (by omega) (by omega) (by omega) ?_
  refine w_ild1 i174_139 ?_
  refine w_bip i174_140 kb_98 ?_
  refine w_cneNT i174_142 g174_142 (by omega) (by omega) (by omega) ?_
  refine w_ild1 i174_153 ?_
  refine w_bip i174_154 kb_111 ?_
  refine w_ceqNF i174_156 (by omega) (by omega) (by omega) ?_
  refine w_ild1 i174_159 ?_
  refine w_bip i174_160 kb_104 ?_
  refine w_cneNT i174_162 g174_162 (by omega) (by omega) (by omega) ?_
  refine w_ild1 i174_173 ?_
  refine w_bip i174_174 kb_111 ?_
  refine w_cneNT i174_176 g174_176 (by omega) (by omega) (by omega) ?_
  refine w_ild1 i174_188 ?_
  refine w_bip i174_189 kb_119 ?_
  refine w_cneNT i174_191 g174_191 (by omega) (by omega) (by omega) ?_
  refine w_ild1 i174_202 ?_
  refine w_bip i174_203 kb_119 ?_
  refine w_cneNT i174_205 g174_205 (by omega) (by omega) (by omega) ?_
  refine w_ild1 i174_217 ?_
  refine w_bip i174_218 kb_112 ?_
  refine w_cneNT i174_220 g174_220 (by omega) (by omega) (by omega) ?_
  have hw : (o1P U e 0 (p + 1)).2.1 < 2 := o1P_w
  have fA := f0
  have gL : PSt _ U e (o1P U e 0 (p + 1)).1 (o1P U e 0 (p + 1)).2.1 := g0
  refine w_ald0 i174_231 ?_
  refine w_gfI i174_232 (by decide) s_171 rfl gL.2.2.2.2.2.2 ?_
  refine w_ineN i174_235 g174_235 (by omega) (fun h235 => ?_) (fun h235 => ?_)
  · skip
    refine w_rv i174_245 r174 ?_
    first | exact hq0 _ gL fA (Or.inl h235) | exact hq0 _ gL fA (Or.inr h242)
  · skip
    refine w_ald0 i174_238 ?_
    refine w_gfI i174_239 (by decide) s_171 rfl (fA.1 24 (by decide) (by decide)) ?_
    refine w_ine i174_242 g174_242  (fun h242 => ?_) (fun h242 => ?_)
    · skip
      refine w_ald0 i174_246 ?_
      refine w_ild1 i174_247 ?_
      refine w_ild2 i174_248 ?_
      refine w_ild3 i174_249 ?_
      refine w_ild4 i174_250 ?_
      refine w_vG5 i174_252 c172 (Or.inl rfl) ⟨by decide +kernel, by decide⟩ rfl ⟨rfl, Nat.le_of_ble_eq_true rfl⟩ ?_
      exact T_does100 (by rw [fA.2 172 (by decide)]; exact (hq1 _ (PSt.w0 gL h235) fA h235 h242).1) (by rw [fA.2 172 (by decide)]; exact OutMr (hq1 _ (PSt.w0 gL h235) fA h235 h242).2 (fun x D9 hq => w_ist6 i174_255 (w_rv i174_257 r174 hq)))
    · skip
      refine w_rv i174_245 r174 ?_
      first | exact hq0 _ gL fA (Or.inl h235) | exact hq0 _ gL fA (Or.inr h242)
set_option maxHeartbeats 100000 in
theorem T_order109 {d : Nat} {D : Mm} {Q : Option Value → Mm → Prop} {U : Nat → Nat} {e p w n : Nat} (h : PSt D U e p w) (hp : p < e) (hc : U p = 109) (hq0 : ∀ D2, PSt D2 U e (ordS U e 109 (p + 1)).1 (ordS U e 109 (p + 1)).2.1 → FrP D D2 → ((ordS U e 109 (p + 1)).2.1 ≠ 0 ∨ D 171 24 = 0) → Q none D2) (hq1 : ∀ D2, PSt D2 U e (ordS U e 109 (p + 1)).1 0 → FrP D D2 → (ordS U e 109 (p + 1)).2.1 = 0 → ¬ D 171 24 = 0 → HV n (D 172) ∧ OutM (oDo n (D 172) 109 (nI (ordS U e 109 (p + 1)).2.2.1) (nI (ordS U e 109 (p + 1)).2.2.2.1) (nI (ordS U e 109 (p + 1)).2.2.2.2)) D2 (fun _ D4 => Q none D4)) : Ct (d + 8) 174 [.ref 171] D Q := by
  rw [ordS_eq (show pt 109 = _ from rfl)] at hq0 hq1
  dsimp only at hq0 hq1
  have a1 := h.1
  refine ent m174 rfl rfl (ls := [.ref 171, .retAddr 0, .retAddr 0, .retAddr 0, .retAddr 0, .retAddr 0, .retAddr 0]) rfl ?_
  refine w_ald0 i174_0 ?_
  refine w_vI1 i174_1 c168 (Or.inl rfl) ⟨by decide +kernel, by decide⟩ rfl ⟨rfl, Nat.le_of_ble_eq_true rfl⟩ (T_sign_c h hp hc) ?_
  refine w_ist1 i174_4 ?_
  refine w_const i174_5 kc_0 ?_
  refine w_ist2 i174_6 ?_
  refine w_const i174_7 kc_0 ?_
  refine w_ist3 i174_8 ?_
  refine w_const i174_9 kc_0 ?_
  refine w_ist4 i174_10 ?_
  refine w_ald0 i174_12 ?_
  refine w_ild1 i174_13 ?_
  refine w_sI1 i174_14 c173 rfl  rfl ⟨rfl, Nat.le_of_ble_eq_true rfl⟩ T_isKnown109 ?_
  refine w_ineNT i174_17 g174_17 (by omega) (by omega) ?_
  refine w_const i174_24 kc_0 ?_
  refine w_pf1 i174_25 (by decide) s_171 rfl (Or.inl nI_0) ?_
  refine w_ald0 i174_28 ?_
  refine w_gfI i174_29 (by decide) s_171 rfl mupE ?_
  refine w_ieqNT i174_32 g174_32 (by omega) (by omega) ?_
  refine w_ald0 i174_36 ?_
  refine w_dup i174_37 rfl ?_
  refine w_gfI i174_38 (by decide) s_171 rfl ((mupJ (by decide)).trans a1) ?_
  refine w_const i174_41 kc_1 ?_
  refine w_iadd i174_42 (nI_add _ _) ?_
  refine w_pf0 i174_43 (by decide) s_171 rfl ?_
  have f0 : FrP D (mup (mup D 171 23 (nI 0)) 171 20 (nI (p + 1))) := FrP.u20 (FrP.u23 FrP.rf)
  have g0 : PSt (mup (mup D 171 23 (nI 0)) 171 20 (nI (p + 1))) U e (p + 1) 0 := h.of f0 mupE ((mupJ (by decide)).trans mupE) hp
  refine w_ild1 i174_46 ?_
  refine w_bip i174_47 kb_98 ?_
  refine w_ceqNF i174_49 (by omega) (by omega) (by omega) ?_
  refine w_ild1 i174_52 ?_
  refine w_bip i174_53 kb_111 ?_
  refine w_ceqNF i174_55 (by omega) (by omega) (by omega) ?_
  refine w_ild1 i174_58 ?_
  refine w_bip i174_59 kb_112 ?_
  refine w_ceqNF i174_61 (by omega) (by omega) (by omega) ?_
  refine w_ild1 i174_64 ?_
  refine w_bip i174_65 kb_116 ?_
  refine w_cneNT i174_67 g174_67 (by omega) (by omega) (by omega) ?_
  refine w_const i174_74 kc_0 ?_
  refine w_ist5 i174_75 ?_
  refine w_ild1 i174_77 ?_
  refine w_bip i174_78 kb_100 ?_
  refine w_ceqNF i174_80 (by omega) (by omega) (by omega) ?_
  refine w_ald0 i174_83 ?_
  refine w_ild5 i174_84 ?_
  refine w_ieqNT i174_86 g174_86 (by omega) (by omega) ?_
  refine w_const i174_93 kc_1 ?_
  refine w_vG2 i174_94 c170 (Or.inl rfl) ⟨by decide +kernel, by decide⟩ rfl ⟨rfl, Nat.le_of_ble_eq_true rfl⟩ ?_
  refine T_one g0 (by omega) (by decide) (fun D2 g1 f1 => ?_)
  refine w_ist2 i174_97 ?_
  refine w_ild1 i174_98 ?_
  refine w_bip i174_99 kb_115 ?_
  refine w_ceqNF i174_101 (by omega) (by omega) (by omega) ?_
  refine w_ild1 i174_104 ?_
  refine w_bip i174_105 kb_109 ?_
  refine w_cneNF i174_107 (by omega) (by omega) (by omega) ?_
  refine w_ald0 i174_110 ?_
  refine w_bip i174_111 kb_58 ?_
  refine w_const i174_113 kc_2 ?_
  refine w_vG3 i174_114 c171 (Or.inl rfl) ⟨by decide +kernel, by decide⟩ rfl ⟨rfl, Nat.le_of_ble_eq_true rfl⟩ ?_
  refine T_nx g1 (o1P_w) (by decide) (by decide) (by decide) (fun D3 g2 f2 => ?_)
  refine w_ist3 i174_117 ?_
  refine w_ild1 i174_118 ?_
  refine w_bip i174_119 kb_115 ?_
  refine w_ceqNF i174_121 (by omega) (by omega) (by omega) ?_
  refine w_ild1 i174_124 ?_
  refine w_bip i174_125 kb_109 ?_
  refine w_cneNF i174_127 (by omega) (by omega) (by omega) ?_
  refine w_ald0 i174_130 ?_
  refine w_bip i174_131 kb_47 ?_
  refine w_const i174_133 kc_1 ?_
  refine w_vG3 i174_134 c171 (Or.inl rfl) ⟨by decide +kernel, by decide⟩ rfl ⟨rfl, Nat.le_of_ble_eq_true rfl⟩ ?_
  refine T_nx g2 (nxP_w o1P_w) (by decide) (by decide) (by decide) (fun D4 g3 f3 => ?_)
  refine w_ist4 i174_137 ?_
  refine w_ild1 i174_139 ?_
  refine w_bip i174_140 kb_98 ?_
  refine w_cneNT i174_142 g174_142 (by omega) (by omega) (by omega) ?_
  refine w_ild1 i174_153 ?_
  refine w_bip i174_154 kb_111 ?_
  refine w_ceqNF i174_156 (by omega) (by omega) (by omega) ?_
  refine w_ild1 i174_159 ?_
  refine w_bip i174_160 kb_104 ?_
  refine w_cneNT i174_162 g174_162 (by omega) (by omega) (by omega) ?_
  refine w_ild1 i174_173 ?_
  refine w_bip i174_174 kb_111 ?_
  refine w_cneNT i174_176 g174_176 (by omega) (by omega) (by omega) ?_
  refine w_ild1 i174_188 ?_
  refine w_bip i174_189 kb_119 ?_
  refine w_cneNT i174_191 g174_191 (by omega) (by omega) (by omega) ?_
  refine w_ild1 i174_202 ?_
  refine w_bip i174_203 kb_119 ?_
  refine w_cneNT i174_205 g174_205 (by omega) (by omega) (by omega) ?_
  refine w_ild1 i174_217 ?_
  refine w_bip i174_218 kb_112 ?_
  refine w_cneNT i174_220 g174_220 (by omega) (by omega) (by omega) ?_
  have hw : (nxP U e 47 1 (nxP U e 58 2 (o1P U e 1 (p + 1)))).2.1 < 2 := nxP_w (nxP_w o1P_w)
  have fA := f0.tr (f1.tr (f2.tr (f3)))
  have gL : PSt _ U e (nxP U e 47 1 (nxP U e 58 2 (o1P U e 1 (p + 1)))).1 (nxP U e 47 1 (nxP U e 58 2 (o1P U e 1 (p + 1)))).2.1 := g3
  refine w_ald0 i174_231 ?_
  refine w_gfI i174_232 (by decide) s_171 rfl gL.2.2.2.2.2.2 ?_
  refine w_ineN i174_235 g174_235 (by omega) (fun h235 => ?_) (fun h235 => ?_)
  · skip
    refine w_rv i174_245 r174 ?_
    first | exact hq0 _ gL fA (Or.inl h235) | exact hq0 _ gL fA (Or.inr h242)
  · skip
    refine w_ald0 i174_238 ?_
    refine w_gfI i174_239 (by decide) s_171 rfl (fA.1 24 (by decide) (by decide)) ?_
    refine w_ine i174_242 g174_242  (fun h242 => ?_) (fun h242 => ?_)
    · skip
      refine w_ald0 i174_246 ?_
      refine w_ild1 i174_247 ?_
      refine w_ild2 i174_248 ?_
      refine w_ild3 i174_249 ?_
      refine w_ild4 i174_250 ?_
      refine w_vG5 i174_252 c172 (Or.inl rfl) ⟨by decide +kernel, by decide⟩ rfl ⟨rfl, Nat.le_of_ble_eq_true rfl⟩ ?_
      exact T_does109 (by rw [fA.2 172 (by decide)]; exact (hq1 _ (PSt.w0 gL h235) fA h235 h242).1) (by rw [fA.2 172 (by decide)]; exact OutMr (hq1 _ (PSt.w0 gL h235) fA h235 h242).2 (fun x D9 hq => w_ist6 i174_255 (w_rv i174_257 r174 hq)))
    · skip
      refine w_rv i174_245 r174 ?_
      first | exact hq0 _ gL fA (Or.inl h235) | exact hq0 _ gL fA (Or.inr h242)
set_option maxHeartbeats 100000 in
theorem T_order104 {d : Nat} {D : Mm} {Q : Option Value → Mm → Prop} {U : Nat → Nat} {e p w n : Nat} (h : PSt D U e p w) (hp : p < e) (hc : U p = 104) (hq0 : ∀ D2, PSt D2 U e (ordS U e 104 (p + 1)).1 (ordS U e 104 (p + 1)).2.1 → FrP D D2 → ((ordS U e 104 (p + 1)).2.1 ≠ 0 ∨ D 171 24 = 0) → Q none D2) (hq1 : ∀ D2, PSt D2 U e (ordS U e 104 (p + 1)).1 0 → FrP D D2 → (ordS U e 104 (p + 1)).2.1 = 0 → ¬ D 171 24 = 0 → HV n (D 172) ∧ OutM (oDo n (D 172) 104 (nI (ordS U e 104 (p + 1)).2.2.1) (nI (ordS U e 104 (p + 1)).2.2.2.1) (nI (ordS U e 104 (p + 1)).2.2.2.2)) D2 (fun _ D4 => Q none D4)) : Ct (d + 8) 174 [.ref 171] D Q := by
  rw [ordS_eq (show pt 104 = _ from rfl)] at hq0 hq1
  dsimp only at hq0 hq1
  have a1 := h.1
  refine ent m174 rfl rfl (ls := [.ref 171, .retAddr 0, .retAddr 0, .retAddr 0, .retAddr 0, .retAddr 0, .retAddr 0]) rfl ?_
  refine w_ald0 i174_0 ?_
  refine w_vI1 i174_1 c168 (Or.inl rfl) ⟨by decide +kernel, by decide⟩ rfl ⟨rfl, Nat.le_of_ble_eq_true rfl⟩ (T_sign_c h hp hc) ?_
  refine w_ist1 i174_4 ?_
  refine w_const i174_5 kc_0 ?_
  refine w_ist2 i174_6 ?_
  refine w_const i174_7 kc_0 ?_
  refine w_ist3 i174_8 ?_
  refine w_const i174_9 kc_0 ?_
  refine w_ist4 i174_10 ?_
  refine w_ald0 i174_12 ?_
  refine w_ild1 i174_13 ?_
  refine w_sI1 i174_14 c173 rfl  rfl ⟨rfl, Nat.le_of_ble_eq_true rfl⟩ T_isKnown104 ?_
  refine w_ineNT i174_17 g174_17 (by omega) (by omega) ?_
  refine w_const i174_24 kc_0 ?_
  refine w_pf1 i174_25 (by decide) s_171 rfl (Or.inl nI_0) ?_
  refine w_ald0 i174_28 ?_
  refine w_gfI i174_29 (by decide) s_171 rfl mupE ?_
  refine w_ieqNT i174_32 g174_32 (by omega) (by omega) ?_
  refine w_ald0 i174_36 ?_
  refine w_dup i174_37 rfl ?_
  refine w_gfI i174_38 (by decide) s_171 rfl ((mupJ (by decide)).trans a1) ?_
  refine w_const i174_41 kc_1 ?_
  refine w_iadd i174_42 (nI_add _ _) ?_
  refine w_pf0 i174_43 (by decide) s_171 rfl ?_
  have f0 : FrP D (mup (mup D 171 23 (nI 0)) 171 20 (nI (p + 1))) := FrP.u20 (FrP.u23 FrP.rf)
  have g0 : PSt (mup (mup D 171 23 (nI 0)) 171 20 (nI (p + 1))) U e (p + 1) 0 := h.of f0 mupE ((mupJ (by decide)).trans mupE) hp
  refine w_ild1 i174_46 ?_
  refine w_bip i174_47 kb_98 ?_
  refine w_ceqNF i174_49 (by omega) (by omega) (by omega) ?_
  refine w_ild1 i174_52 ?_
  refine w_bip i174_53 kb_111 ?_
  refine w_ceqNF i174_55 (by omega) (by omega) (by omega) ?_
  refine w_ild1 i174_58 ?_
  refine w_bip i174_59 kb_112 ?_
  refine w_ceqNF i174_61 (by omega) (by omega) (by omega) ?_
  refine w_ild1 i174_64 ?_
  refine w_bip i174_65 kb_116 ?_
  refine w_cneNT i174_67 g174_67 (by omega) (by omega) (by omega) ?_
  refine w_const i174_74 kc_0 ?_
  refine w_ist5 i174_75 ?_
  refine w_ild1 i174_77 ?_
  refine w_bip i174_78 kb_100 ?_
  refine w_ceqNF i174_80 (by omega) (by omega) (by omega) ?_
  refine w_ald0 i174_83 ?_
  refine w_ild5 i174_84 ?_
  refine w_ieqNT i174_86 g174_86 (by omega) (by omega) ?_
  refine w_const i174_93 kc_1 ?_
  refine w_vG2 i174_94 c170 (Or.inl rfl) ⟨by decide +kernel, by decide⟩ rfl ⟨rfl, Nat.le_of_ble_eq_true rfl⟩ ?_
  refine T_one g0 (by omega) (by decide) (fun D2 g1 f1 => ?_)
  refine w_ist2 i174_97 ?_
  refine w_ild1 i174_98 ?_
  refine w_bip i174_99 kb_115 ?_
  refine w_ceqNF i174_101 (by omega) (by omega) (by omega) ?_
  refine w_ild1 i174_104 ?_
  refine w_bip i174_105 kb_109 ?_
  refine w_cneNT i174_107 g174_107 (by omega) (by omega) (by omega) ?_
  refine w_ild1 i174_118 ?_
  refine w_bip i174_119 kb_115 ?_
  refine w_ceqNF i174_121 (by omega) (by omega) (by omega) ?_
  refine w_ild1 i174_124 ?_
  refine w_bip i174_125 kb_109 ?_
  refine w_cneNT i174_127 g174_127 (by omega) (by omega) (by omega) ?_
  refine w_ild1 i174_139 ?_
  refine w_bip i174_140 kb_98 ?_
  refine w_cneNT i174_142 g174_142 (by omega) (by omega) (by omega) ?_
  refine w_ild1 i174_153 ?_
  refine w_bip i174_154 kb_111 ?_
  refine w_ceqNF i174_156 (by omega) (by omega) (by omega) ?_
  refine w_ild1 i174_159 ?_
  refine w_bip i174_160 kb_104 ?_
  refine w_cneNF i174_162 (by omega) (by omega) (by omega) ?_
  refine w_ald0 i174_165 ?_
  refine w_bip i174_166 kb_62 ?_
  refine w_const i174_168 kc_1 ?_
  refine w_vG3 i174_169 c171 (Or.inl rfl) ⟨by decide +kernel, by decide⟩ rfl ⟨rfl, Nat.le_of_ble_eq_true rfl⟩ ?_
  refine T_nx g1 (o1P_w) (by decide) (by decide) (by decide) (fun D3 g2 f2 => ?_)
  refine w_ist3 i174_172 ?_
  refine w_ild1 i174_173 ?_
  refine w_bip i174_174 kb_111 ?_
  refine w_cneNT i174_176 g174_176 (by omega) (by omega) (by omega) ?_
  refine w_ild1 i174_188 ?_
  refine w_bip i174_189 kb_119 ?_
  refine w_cneNT i174_191 g174_191 (by omega) (by omega) (by omega) ?_
  refine w_ild1 i174_202 ?_
  refine w_bip i174_203 kb_119 ?_
  refine w_cneNT i174_205 g174_205 (by omega) (by omega) (by omega) ?_
  refine w_ild1 i174_217 ?_
  refine w_bip i174_218 kb_112 ?_
  refine w_cneNT i174_220 g174_220 (by omega) (by omega) (by omega) ?_
  have hw : (nxP U e 62 1 (o1P U e 1 (p + 1))).2.1 < 2 := nxP_w o1P_w
  have fA := f0.tr (f1.tr (f2))
  have gL : PSt _ U e (nxP U e 62 1 (o1P U e 1 (p + 1))).1 (nxP U e 62 1 (o1P U e 1 (p + 1))).2.1 := g2
  refine w_ald0 i174_231 ?_
  refine w_gfI i174_232 (by decide) s_171 rfl gL.2.2.2.2.2.2 ?_
  refine w_ineN i174_235 g174_235 (by omega) (fun h235 => ?_) (fun h235 => ?_)
  · skip
    refine w_rv i174_245 r174 ?_
    first | exact hq0 _ gL fA (Or.inl h235) | exact hq0 _ gL fA (Or.inr h242)
  · skip
    refine w_ald0 i174_238 ?_
    refine w_gfI i174_239 (by decide) s_171 rfl (fA.1 24 (by decide) (by decide)) ?_
    refine w_ine i174_242 g174_242  (fun h242 => ?_) (fun h242 => ?_)
    · skip
      refine w_ald0 i174_246 ?_
      refine w_ild1 i174_247 ?_
      refine w_ild2 i174_248 ?_
      refine w_ild3 i174_249 ?_
      refine w_ild4 i174_250 ?_
      refine w_vG5 i174_252 c172 (Or.inl rfl) ⟨by decide +kernel, by decide⟩ rfl ⟨rfl, Nat.le_of_ble_eq_true rfl⟩ ?_
      exact T_does104 (by rw [fA.2 172 (by decide)]; exact (hq1 _ (PSt.w0 gL h235) fA h235 h242).1) (by rw [fA.2 172 (by decide)]; exact OutMr (hq1 _ (PSt.w0 gL h235) fA h235 h242).2 (fun x D9 hq => w_ist6 i174_255 (w_rv i174_257 r174 hq)))
    · skip
      refine w_rv i174_245 r174 ?_
      first | exact hq0 _ gL fA (Or.inl h235) | exact hq0 _ gL fA (Or.inr h242)
set_option maxHeartbeats 100000 in
theorem T_order101 {d : Nat} {D : Mm} {Q : Option Value → Mm → Prop} {U : Nat → Nat} {e p w n : Nat} (h : PSt D U e p w) (hp : p < e) (hc : U p = 101) (hq0 : ∀ D2, PSt D2 U e (ordS U e 101 (p + 1)).1 (ordS U e 101 (p + 1)).2.1 → FrP D D2 → ((ordS U e 101 (p + 1)).2.1 ≠ 0 ∨ D 171 24 = 0) → Q none D2) (hq1 : ∀ D2, PSt D2 U e (ordS U e 101 (p + 1)).1 0 → FrP D D2 → (ordS U e 101 (p + 1)).2.1 = 0 → ¬ D 171 24 = 0 → HV n (D 172) ∧ OutM (oDo n (D 172) 101 (nI (ordS U e 101 (p + 1)).2.2.1) (nI (ordS U e 101 (p + 1)).2.2.2.1) (nI (ordS U e 101 (p + 1)).2.2.2.2)) D2 (fun _ D4 => Q none D4)) : Ct (d + 8) 174 [.ref 171] D Q := by
  rw [ordS_eq (show pt 101 = _ from rfl)] at hq0 hq1
  dsimp only at hq0 hq1
  have a1 := h.1
  refine ent m174 rfl rfl (ls := [.ref 171, .retAddr 0, .retAddr 0, .retAddr 0, .retAddr 0, .retAddr 0, .retAddr 0]) rfl ?_
  refine w_ald0 i174_0 ?_
  refine w_vI1 i174_1 c168 (Or.inl rfl) ⟨by decide +kernel, by decide⟩ rfl ⟨rfl, Nat.le_of_ble_eq_true rfl⟩ (T_sign_c h hp hc) ?_
  refine w_ist1 i174_4 ?_
  refine w_const i174_5 kc_0 ?_
  refine w_ist2 i174_6 ?_
  refine w_const i174_7 kc_0 ?_
  refine w_ist3 i174_8 ?_
  refine w_const i174_9 kc_0 ?_
  refine w_ist4 i174_10 ?_
  refine w_ald0 i174_12 ?_
  refine w_ild1 i174_13 ?_
  refine w_sI1 i174_14 c173 rfl  rfl ⟨rfl, Nat.le_of_ble_eq_true rfl⟩ T_isKnown101 ?_
  refine w_ineNT i174_17 g174_17 (by omega) (by omega) ?_
  refine w_const i174_24 kc_0 ?_
  refine w_pf1 i174_25 (by decide) s_171 rfl (Or.inl nI_0) ?_
  refine w_ald0 i174_28 ?_
  refine w_gfI i174_29 (by decide) s_171 rfl mupE ?_
  refine w_ieqNT i174_32 g174_32 (by omega) (by omega) ?_
  refine w_ald0 i174_36 ?_
  refine w_dup i174_37 rfl ?_
  refine w_gfI i174_38 (by decide) s_171 rfl ((mupJ (by decide)).trans a1) ?_
  refine w_const i174_41 kc_1 ?_
  refine w_iadd i174_42 (nI_add _ _) ?_
  refine w_pf0 i174_43 (by decide) s_171 rfl ?_
  have f0 : FrP D (mup (mup D 171 23 (nI 0)) 171 20 (nI (p + 1))) := FrP.u20 (FrP.u23 FrP.rf)
  have g0 : PSt (mup (mup D 171 23 (nI 0)) 171 20 (nI (p + 1))) U e (p + 1) 0 := h.of f0 mupE ((mupJ (by decide)).trans mupE) hp
  refine w_ild1 i174_46 ?_
  refine w_bip i174_47 kb_98 ?_
  refine w_ceqNF i174_49 (by omega) (by omega) (by omega) ?_
  refine w_ild1 i174_52 ?_
  refine w_bip i174_53 kb_111 ?_
  refine w_ceqNF i174_55 (by omega) (by omega) (by omega) ?_
  refine w_ild1 i174_58 ?_
  refine w_bip i174_59 kb_112 ?_
  refine w_ceqNF i174_61 (by omega) (by omega) (by omega) ?_
  refine w_ild1 i174_64 ?_
  refine w_bip i174_65 kb_116 ?_
  refine w_cneNT i174_67 g174_67 (by omega) (by omega) (by omega) ?_
  refine w_const i174_74 kc_0 ?_
  refine w_ist5 i174_75 ?_
  refine w_ild1 i174_77 ?_
  refine w_bip i174_78 kb_100 ?_
  refine w_ceqNF i174_80 (by omega) (by omega) (by omega) ?_
  refine w_ald0 i174_83 ?_
  refine w_ild5 i174_84 ?_
  refine w_ieqNT i174_86 g174_86 (by omega) (by omega) ?_
  refine w_const i174_93 kc_1 ?_
  refine w_vG2 i174_94 c170 (Or.inl rfl) ⟨by decide +kernel, by decide⟩ rfl ⟨rfl, Nat.le_of_ble_eq_true rfl⟩ ?_
  refine T_one g0 (by omega) (by decide) (fun D2 g1 f1 => ?_)
  refine w_ist2 i174_97 ?_
  refine w_ild1 i174_98 ?_
  refine w_bip i174_99 kb_115 ?_
  refine w_ceqNF i174_101 (by omega) (by omega) (by omega) ?_
  refine w_ild1 i174_104 ?_
  refine w_bip i174_105 kb_109 ?_
  refine w_cneNT i174_107 g174_107 (by omega) (by omega) (by omega) ?_
  refine w_ild1 i174_118 ?_
  refine w_bip i174_119 kb_115 ?_
  refine w_ceqNF i174_121 (by omega) (by omega) (by omega) ?_
  refine w_ild1 i174_124 ?_
  refine w_bip i174_125 kb_109 ?_
  refine w_cneNT i174_127 g174_127 (by omega) (by omega) (by omega) ?_
  refine w_ild1 i174_139 ?_
  refine w_bip i174_140 kb_98 ?_
  refine w_cneNT i174_142 g174_142 (by omega) (by omega) (by omega) ?_
  refine w_ild1 i174_153 ?_
  refine w_bip i174_154 kb_111 ?_
  refine w_ceqNF i174_156 (by omega) (by omega) (by omega) ?_
  refine w_ild1 i174_159 ?_
  refine w_bip i174_160 kb_104 ?_
  refine w_cneNT i174_162 g174_162 (by omega) (by omega) (by omega) ?_
  refine w_ild1 i174_173 ?_
  refine w_bip i174_174 kb_111 ?_
  refine w_cneNT i174_176 g174_176 (by omega) (by omega) (by omega) ?_
  refine w_ild1 i174_188 ?_
  refine w_bip i174_189 kb_119 ?_
  refine w_cneNT i174_191 g174_191 (by omega) (by omega) (by omega) ?_
  refine w_ild1 i174_202 ?_
  refine w_bip i174_203 kb_119 ?_
  refine w_cneNT i174_205 g174_205 (by omega) (by omega) (by omega) ?_
  refine w_ild1 i174_217 ?_
  refine w_bip i174_218 kb_112 ?_
  refine w_cneNT i174_220 g174_220 (by omega) (by omega) (by omega) ?_
  have hw : (o1P U e 1 (p + 1)).2.1 < 2 := o1P_w
  have fA := f0.tr (f1)
  have gL : PSt _ U e (o1P U e 1 (p + 1)).1 (o1P U e 1 (p + 1)).2.1 := g1
  refine w_ald0 i174_231 ?_
  refine w_gfI i174_232 (by decide) s_171 rfl gL.2.2.2.2.2.2 ?_
  refine w_ineN i174_235 g174_235 (by omega) (fun h235 => ?_) (fun h235 => ?_)
  · skip
    refine w_rv i174_245 r174 ?_
    first | exact hq0 _ gL fA (Or.inl h235) | exact hq0 _ gL fA (Or.inr h242)
  · skip
    refine w_ald0 i174_238 ?_
    refine w_gfI i174_239 (by decide) s_171 rfl (fA.1 24 (by decide) (by decide)) ?_
    refine w_ine i174_242 g174_242  (fun h242 => ?_) (fun h242 => ?_)
    · skip
      refine w_ald0 i174_246 ?_
      refine w_ild1 i174_247 ?_
      refine w_ild2 i174_248 ?_
      refine w_ild3 i174_249 ?_
      refine w_ild4 i174_250 ?_
      refine w_vG5 i174_252 c172 (Or.inl rfl) ⟨by decide +kernel, by decide⟩ rfl ⟨rfl, Nat.le_of_ble_eq_true rfl⟩ ?_
      exact T_does101 (by rw [fA.2 172 (by decide)]; exact (hq1 _ (PSt.w0 gL h235) fA h235 h242).1) (by rw [fA.2 172 (by decide)]; exact OutMr (hq1 _ (PSt.w0 gL h235) fA h235 h242).2 (fun x D9 hq => w_ist6 i174_255 (w_rv i174_257 r174 hq)))
    · skip
      refine w_rv i174_245 r174 ?_
      first | exact hq0 _ gL fA (Or.inl h235) | exact hq0 _ gL fA (Or.inr h242)
set_option maxHeartbeats 100000 in
theorem T_order116 {d : Nat} {D : Mm} {Q : Option Value → Mm → Prop} {U : Nat → Nat} {e p w n : Nat} (h : PSt D U e p w) (hp : p < e) (hc : U p = 116) (hq0 : ∀ D2, PSt D2 U e (ordS U e 116 (p + 1)).1 (ordS U e 116 (p + 1)).2.1 → FrP D D2 → ((ordS U e 116 (p + 1)).2.1 ≠ 0 ∨ D 171 24 = 0) → Q none D2) (hq1 : ∀ D2, PSt D2 U e (ordS U e 116 (p + 1)).1 0 → FrP D D2 → (ordS U e 116 (p + 1)).2.1 = 0 → ¬ D 171 24 = 0 → HV n (D 172) ∧ OutM (oDo n (D 172) 116 (nI (ordS U e 116 (p + 1)).2.2.1) (nI (ordS U e 116 (p + 1)).2.2.2.1) (nI (ordS U e 116 (p + 1)).2.2.2.2)) D2 (fun _ D4 => Q none D4)) : Ct (d + 8) 174 [.ref 171] D Q := by
  rw [ordS_eq (show pt 116 = _ from rfl)] at hq0 hq1
  dsimp only at hq0 hq1
  have a1 := h.1
  refine ent m174 rfl rfl (ls := [.ref 171, .retAddr 0, .retAddr 0, .retAddr 0, .retAddr 0, .retAddr 0, .retAddr 0]) rfl ?_
  refine w_ald0 i174_0 ?_
  refine w_vI1 i174_1 c168 (Or.inl rfl) ⟨by decide +kernel, by decide⟩ rfl ⟨rfl, Nat.le_of_ble_eq_true rfl⟩ (T_sign_c h hp hc) ?_
  refine w_ist1 i174_4 ?_
  refine w_const i174_5 kc_0 ?_
  refine w_ist2 i174_6 ?_
  refine w_const i174_7 kc_0 ?_
  refine w_ist3 i174_8 ?_
  refine w_const i174_9 kc_0 ?_
  refine w_ist4 i174_10 ?_
  refine w_ald0 i174_12 ?_
  refine w_ild1 i174_13 ?_
  refine w_sI1 i174_14 c173 rfl  rfl ⟨rfl, Nat.le_of_ble_eq_true rfl⟩ T_isKnown116 ?_
  refine w_ineNT i174_17 g174_17 (by omega) (by omega) ?_
  refine w_const i174_24 kc_0 ?_
  refine w_pf1 i174_25 (by decide) s_171 rfl (Or.inl nI_0) ?_
  refine w_ald0 i174_28 ?_
  refine w_gfI i174_29 (by decide) s_171 rfl mupE ?_
  refine w_ieqNT i174_32 g174_32 (by omega) (by omega) ?_
  refine w_ald0 i174_36 ?_
  refine w_dup i174_37 rfl ?_
  refine w_gfI i174_38 (by decide) s_171 rfl ((mupJ (by decide)).trans a1) ?_
  refine w_const i174_41 kc_1 ?_
  refine w_iadd i174_42 (nI_add _ _) ?_
  refine w_pf0 i174_43 (by decide) s_171 rfl ?_
  have f0 : FrP D (mup (mup D 171 23 (nI 0)) 171 20 (nI (p + 1))) := FrP.u20 (FrP.u23 FrP.rf)
  have g0 : PSt (mup (mup D 171 23 (nI 0)) 171 20 (nI (p + 1))) U e (p + 1) 0 := h.of f0 mupE ((mupJ (by decide)).trans mupE) hp
  refine w_ild1 i174_46 ?_
  refine w_bip i174_47 kb_98 ?_
  refine w_ceqNF i174_49 (by omega) (by omega) (by omega) ?_
  refine w_ild1 i174_52 ?_
  refine w_bip i174_53 kb_111 ?_
  refine w_ceqNF i174_55 (by omega) (by omega) (by omega) ?_
  refine w_ild1 i174_58 ?_
  refine w_bip i174_59 kb_112 ?_
  refine w_ceqNF i174_61 (by omega) (by omega) (by omega) ?_
  refine w_ild1 i174_64 ?_
  refine w_bip i174_65 kb_116 ?_
  refine w_cneNF i174_67 (by omega) (by omega) (by omega) ?_
  refine w_const i174_70 kc_1 ?_
  refine w_goto i174_71 g174_71 ?_
  refine w_ist5 i174_75 ?_
  refine w_ild1 i174_77 ?_
  refine w_bip i174_78 kb_100 ?_
  refine w_ceqNF i174_80 (by omega) (by omega) (by omega) ?_
  refine w_ald0 i174_83 ?_
  refine w_ild5 i174_84 ?_
  refine w_ieqNF i174_86 (by omega) (by omega) ?_
  refine w_const i174_89 kc_2 ?_
  refine w_goto i174_90 g174_90 ?_
  refine w_vG2 i174_94 c170 (Or.inl rfl) ⟨by decide +kernel, by decide⟩ rfl ⟨rfl, Nat.le_of_ble_eq_true rfl⟩ ?_
  refine T_one g0 (by omega) (by decide) (fun D2 g1 f1 => ?_)
  refine w_ist2 i174_97 ?_
  refine w_ild1 i174_98 ?_
  refine w_bip i174_99 kb_115 ?_
  refine w_ceqNF i174_101 (by omega) (by omega) (by omega) ?_
  refine w_ild1 i174_104 ?_
  refine w_bip i174_105 kb_109 ?_
  refine w_cneNT i174_107 g174_107 (by omega) (by omega) (by omega) ?_
  refine w_ild1 i174_118 ?_
  refine w_bip i174_119 kb_115 ?_
  refine w_ceqNF i174_121 (by omega) (by omega) (by omega) ?_
  refine w_ild1 i174_124 ?_
  refine w_bip i174_125 kb_109 ?_
  refine w_cneNT i174_127 g174_127 (by omega) (by omega) (by omega) ?_
  refine w_ild1 i174_139 ?_
  refine w_bip i174_140 kb_98 ?_
  refine w_cneNT i174_142 g174_142 (by omega) (by omega) (by omega) ?_
  refine w_ild1 i174_153 ?_
  refine w_bip i174_154 kb_111 ?_
  refine w_ceqNF i174_156 (by omega) (by omega) (by omega) ?_
  refine w_ild1 i174_159 ?_
  refine w_bip i174_160 kb_104 ?_
  refine w_cneNT i174_162 g174_162 (by omega) (by omega) (by omega) ?_
  refine w_ild1 i174_173 ?_
  refine w_bip i174_174 kb_111 ?_
  refine w_cneNT i174_176 g174_176 (by omega) (by omega) (by omega) ?_
  refine w_ild1 i174_188 ?_
  refine w_bip i174_189 kb_119 ?_
  refine w_cneNT i174_191 g174_191 (by omega) (by omega) (by omega) ?_
  refine w_ild1 i174_202 ?_
  refine w_bip i174_203 kb_119 ?_
  refine w_cneNT i174_205 g174_205 (by omega) (by omega) (by omega) ?_
  refine w_ild1 i174_217 ?_
  refine w_bip i174_218 kb_112 ?_
  refine w_cneNT i174_220 g174_220 (by omega) (by omega) (by omega) ?_
  have hw : (o1P U e 2 (p + 1)).2.1 < 2 := o1P_w
  have fA := f0.tr (f1)
  have gL : PSt _ U e (o1P U e 2 (p + 1)).1 (o1P U e 2 (p + 1)).2.1 := g1
  refine w_ald0 i174_231 ?_
  refine w_gfI i174_232 (by decide) s_171 rfl gL.2.2.2.2.2.2 ?_
  refine w_ineN i174_235 g174_235 (by omega) (fun h235 => ?_) (fun h235 => ?_)
  · skip
    refine w_rv i174_245 r174 ?_
    first | exact hq0 _ gL fA (Or.inl h235) | exact hq0 _ gL fA (Or.inr h242)
  · skip
    refine w_ald0 i174_238 ?_
    refine w_gfI i174_239 (by decide) s_171 rfl (fA.1 24 (by decide) (by decide)) ?_
    refine w_ine i174_242 g174_242  (fun h242 => ?_) (fun h242 => ?_)
    · skip
      refine w_ald0 i174_246 ?_
      refine w_ild1 i174_247 ?_
      refine w_ild2 i174_248 ?_
      refine w_ild3 i174_249 ?_
      refine w_ild4 i174_250 ?_
      refine w_vG5 i174_252 c172 (Or.inl rfl) ⟨by decide +kernel, by decide⟩ rfl ⟨rfl, Nat.le_of_ble_eq_true rfl⟩ ?_
      exact T_does116 (by rw [fA.2 172 (by decide)]; exact (hq1 _ (PSt.w0 gL h235) fA h235 h242).1) (by rw [fA.2 172 (by decide)]; exact OutMr (hq1 _ (PSt.w0 gL h235) fA h235 h242).2 (fun x D9 hq => w_ist6 i174_255 (w_rv i174_257 r174 hq)))
    · skip
      refine w_rv i174_245 r174 ?_
      first | exact hq0 _ gL fA (Or.inl h235) | exact hq0 _ gL fA (Or.inr h242)
