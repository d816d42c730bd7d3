/-! the reference, its changes as calls -/
def psh (W B : Nat → Int32) (c L : Nat) : Nat → Int32 := fun j => if c * 126 ≤ j ∧ j < c * 126 + L then B (j - c * 126) else W j
theorem psh0 {W B : Nat → Int32} {c : Nat} : psh W B c 0 = W := by funext j; unfold psh; rw [if_neg (by omega)]
theorem pshS {W B : Nat → Int32} {c L : Nat} : vup (psh W B c L) (c * 126 + L) (B L) = psh W B c (L + 1) := by
  funext j
  unfold vup psh
  by_cases h : j = c * 126 + L
  · subst h; rw [if_pos rfl, if_pos (by omega), Nat.add_sub_cancel_left]
  · rw [if_neg h]
    by_cases g : c * 126 ≤ j ∧ j < c * 126 + L
    · rw [if_pos g, if_pos (by omega)]
    · rw [if_neg g, if_neg (by omega)]
def sft (W : Nat → Int32) (L : Nat) : Nat → Int32 := fun j => if j < L then W (j + 126) else W j
theorem sft0 {W : Nat → Int32} : sft W 0 = W := by funext j; unfold sft; rw [if_neg (by omega)]
theorem sftR {W : Nat → Int32} {i : Nat} : sft W i (i + 126) = W (i + 126) := by unfold sft; rw [if_neg (by omega)]
theorem sftS {W : Nat → Int32} {L : Nat} : vup (sft W L) L (W (L + 126)) = sft W (L + 1) := by
  funext j
  unfold vup sft
  by_cases h : j = L
  · subst h; rw [if_pos rfl, if_pos (by omega)]
  · rw [if_neg h]
    by_cases g : j < L
    · rw [if_pos g, if_pos (by omega)]
    · rw [if_neg g, if_neg (by omega)]
/-- how the kept rows stand after one more is kept -/
def PstE (W B W2 : Nat → Int32) (c : Nat) : Prop :=
  (∀ i k, i + 1 < min (c + 1) 8 → k < 126 → W2 (i * 126 + k) = W ((i + (c + 1 - min (c + 1) 8)) * 126 + k)) ∧ (∀ k, k < 126 → W2 ((min (c + 1) 8 - 1) * 126 + k) = B k)
theorem psh_E {W B : Nat → Int32} {c : Nat} (h : c < 8) : PstE W B (psh W B c 126) c := by
  constructor
  · intro i k h1 h2
    have e : min (c + 1) 8 = c + 1 := by omega
    rw [e] at h1 ⊢
    unfold psh
    rw [if_neg (by omega), show i + (c + 1 - (c + 1)) = i by omega]
  · intro k h2
    have e : min (c + 1) 8 = c + 1 := by omega
    rw [e]
    unfold psh
    rw [show c + 1 - 1 = c by omega, if_pos (by omega), Nat.add_sub_cancel_left]
theorem psh_E8 {W B : Nat → Int32} : PstE W B (psh (sft W 882) B (8 - 1) 126) 8 := by
  constructor
  · intro i k h1 h2
    have e : min (8 + 1) 8 = 8 := by omega
    rw [e] at h1 ⊢
    unfold psh
    rw [if_neg (by omega)]
    unfold sft
    rw [if_pos (by omega), show (i + (8 + 1 - 8)) * 126 + k = i * 126 + k + 126 by omega]
  · intro k h2
    have e : min (8 + 1) 8 = 8 := by omega
    rw [e]
    unfold psh
    rw [if_pos (by omega), Nat.add_sub_cancel_left]
set_option maxHeartbeats 100000 in
theorem T_ends_f {d : Nat} {D : Mm} {x : Int32} (hf : ¬ D 171 0 = 0) : Ct (d + 2) 113 [.ref 171, .int x] D (Ex (some (.int (D 171 0))) (cpy D 172 173 126)) := by
  refine ent m113 rfl rfl (ls := [.ref 171, .int x, .retAddr 0]) rfl ?_
  refine w_ald0 i113_0 ?_
  refine w_gfI i113_1 (by decide) s_171 rfl rfl ?_
  refine w_ieqF i113_4  hf ?_
  refine w_ald0 i113_7 ?_
  refine w_gfR i113_8 (by decide) s_171 rfl ?_
  refine w_ald0 i113_11 ?_
  refine w_gfR i113_12 (by decide) s_171 rfl ?_
  refine w_sV2 i113_15 c111 rfl  rfl ⟨rfl, Nat.le_of_ble_eq_true rfl⟩ (T_lays s_172 s_173 (by decide) rfl rfl) ?_
  refine w_ald0 i113_18 ?_
  refine w_gfI i113_19 (by decide) s_171 rfl rfl ?_
  refine w_ri i113_22 r113 ?_
  exact ⟨rfl, rfl⟩
set_option maxHeartbeats 100000 in
theorem T_ends_s {d : Nat} {D : Mm} {Q : Option Value → Mm → Prop} {x : Int32} {c : Nat} (hf : D 171 0 = 0) (hc : D 171 1 = nI c) (h8 : c < 8) (hq : ∀ D2 : Mm, PstE (D 176) (D 173) (D2 176) c → D2 171 1 = nI (min (c + 1) 8) → (∀ j, j ≠ 1 → D2 171 j = D 171 j) → (∀ q, q ≠ 171 → q ≠ 176 → D2 q = D q) → Q (some (.int x)) D2) : Ct (d + 2) 113 [.ref 171, .int x] D Q := by
  refine ent m113 rfl rfl (ls := [.ref 171, .int x, .retAddr 0]) rfl ?_
  refine w_ald0 i113_0 ?_
  refine w_gfI i113_1 (by decide) s_171 rfl rfl ?_
  refine w_ieqT i113_4 g113_4  hf ?_
  refine w_ald0 i113_23 ?_
  refine w_gfI i113_24 (by decide) s_171 rfl hc ?_
  refine w_bip i113_27 kb_8 ?_
  refine w_cneNT i113_29 g113_29 (by omega) (by omega) (by omega) ?_
  refine w_const i113_72 kc_0 ?_
  refine w_ist2 i113_73 ?_
  refine wpD (D2 := setc D 176 (psh (D 176) (D 173) c 0)) (by rw [psh0, setc_self]) ?_
  refine down0 (n := 126) (P := fun i => Wp _ _ _ 74 [.ref 171, .int x, .int (nI i)] [] (setc D 176 (psh (D 176) (D 173) c i))) ?_ ?_
  · skip
    refine w_ild2 i113_74 ?_
    refine w_bip i113_75 kb_126 ?_
    refine w_cgeNT i113_77 g113_77 (by omega) (by omega) (by omega) ?_
    refine w_ald0 i113_106 ?_
    refine w_dup i113_107 rfl ?_
    refine w_gfI i113_108 (by decide) s_171 rfl ((setcG (show 171 ≠ 176 by decide)).trans hc) ?_
    refine w_const i113_111 kc_1 ?_
    refine w_iadd i113_112 (nI_add _ _) ?_
    refine w_pf0 i113_113 (by decide) s_171 rfl ?_
    refine w_ild1 i113_116 ?_
    refine w_ri i113_117 r113 ?_
    refine hq _ ?_ ?_ (fun j h => ?_) (fun q a b => ?_)
    · rw [mupF (by decide), setcE]; exact psh_E h8
    · rw [mupE, show min (c + 1) 8 = c + 1 by omega]
    · rw [mupJ h, setcG (by decide)]
    · rw [mupF a, setcF b]
  · intro i hi ih
    refine w_ild2 i113_74 ?_
    refine w_bip i113_75 kb_126 ?_
    refine w_cgeNF i113_77 (by omega) (by omega) (by omega) ?_
    refine w_ald0 i113_80 ?_
    refine w_gfR i113_81 (by decide) s_171 rfl ?_
    refine w_ald0 i113_84 ?_
    refine w_gfI i113_85 (by decide) s_171 rfl ((setcG (show 171 ≠ 176 by decide)).trans hc) ?_
    refine w_bip i113_88 kb_126 ?_
    refine w_imul i113_90 (nI_mul _ _) ?_
    refine w_ild2 i113_91 ?_
    refine w_iadd i113_92 (nI_add _ _) ?_
    refine w_ald0 i113_93 ?_
    refine w_gfR i113_94 (by decide) s_171 rfl ?_
    refine w_ild2 i113_97 ?_
    refine w_ial i113_98 s_173 (by decide) (by omega) (setcG (show 173 ≠ 176 by decide)) ?_
    refine w_iasS i113_99 s_176 (by decide) (by omega) ?_
    refine w_inc2 i113_100 (inc1 _) ?_
    refine w_goto i113_103 g113_103 ?_
    rw [pshS]; exact ih
set_option maxHeartbeats 100000 in
theorem T_ends_8 {d : Nat} {D : Mm} {Q : Option Value → Mm → Prop} {x : Int32} (hf : D 171 0 = 0) (hc : D 171 1 = nI 8) (hq : ∀ D2 : Mm, PstE (D 176) (D 173) (D2 176) 8 → D2 171 1 = nI (min (8 + 1) 8) → (∀ j, j ≠ 1 → D2 171 j = D 171 j) → (∀ q, q ≠ 171 → q ≠ 176 → D2 q = D q) → Q (some (.int x)) D2) : Ct (d + 2) 113 [.ref 171, .int x] D Q := by
  refine ent m113 rfl rfl (ls := [.ref 171, .int x, .retAddr 0]) rfl ?_
  refine w_ald0 i113_0 ?_
  refine w_gfI i113_1 (by decide) s_171 rfl rfl ?_
  refine w_ieqT i113_4 g113_4  hf ?_
  refine w_ald0 i113_23 ?_
  refine w_gfI i113_24 (by decide) s_171 rfl hc ?_
  refine w_bip i113_27 kb_8 ?_
  refine w_cneNF i113_29 (by omega) (by omega) (by omega) ?_
  refine w_const i113_32 kc_0 ?_
  refine w_ist2 i113_33 ?_
  refine wpD (D2 := setc D 176 (sft (D 176) 0)) (by rw [sft0, setc_self]) ?_
  refine down0 (n := 882) (P := fun i => Wp _ _ _ 34 [.ref 171, .int x, .int (nI i)] [] (setc D 176 (sft (D 176) i))) ?_ ?_
  · skip
    refine w_ild2 i113_34 ?_
    refine w_sip i113_35 ks_882 ?_
    refine w_cgeNT i113_38 g113_38 (by omega) (by omega) (by omega) ?_
    refine w_ald0 i113_62 ?_
    refine w_dup i113_63 rfl ?_
    refine w_gfI i113_64 (by decide) s_171 rfl ((setcG (show 171 ≠ 176 by decide)).trans hc) ?_
    refine w_const i113_67 kc_1 ?_
    refine w_isub i113_68 (nI_sub (by omega)) ?_
    refine w_pf0 i113_69 (by decide) s_171 rfl ?_
    refine w_const i113_72 kc_0 ?_
    refine w_ist2 i113_73 ?_
    refine wpD (D2 := setc (mup (setc D 176 (sft (D 176) 882)) 171 1 (nI (8 - 1))) 176 (psh (sft (D 176) 882) (D 173) (8 - 1) 0)) (by rw [psh0]; funext q; by_cases hq : q = 176; (rw [hq, mupF (by decide), setcE, setcE]); (rw [setcF hq])) ?_
    refine down0 (n := 126) (P := fun i => Wp _ _ _ 74 [.ref 171, .int x, .int (nI i)] [] (setc (mup (setc D 176 (sft (D 176) 882)) 171 1 (nI (8 - 1))) 176 (psh (sft (D 176) 882) (D 173) (8 - 1) i))) ?_ ?_
    · skip
      refine w_ild2 i113_74 ?_
      refine w_bip i113_75 kb_126 ?_
      refine w_cgeNT i113_77 g113_77 (by omega) (by omega) (by omega) ?_
      refine w_ald0 i113_106 ?_
      refine w_dup i113_107 rfl ?_
      refine w_gfI i113_108 (by decide) s_171 rfl ((setcG (show 171 ≠ 176 by decide)).trans mupE) ?_
      refine w_const i113_111 kc_1 ?_
      refine w_iadd i113_112 (nI_add _ _) ?_
      refine w_pf0 i113_113 (by decide) s_171 rfl ?_
      refine w_ild1 i113_116 ?_
      refine w_ri i113_117 r113 ?_
      refine hq _ ?_ ?_ (fun j h => ?_) (fun q a b => ?_)
      · rw [mupF (by decide), setcE]; exact psh_E8
      · rw [mupE]; rfl
      · rw [mupJ h, setcG (by decide), mupJ h, setcG (by decide)]
      · rw [mupF a, setcF b, mupF a, setcF b]
    · intro i hi ih
      refine w_ild2 i113_74 ?_
      refine w_bip i113_75 kb_126 ?_
      refine w_cgeNF i113_77 (by omega) (by omega) (by omega) ?_
      refine w_ald0 i113_80 ?_
      refine w_gfR i113_81 (by decide) s_171 rfl ?_
      refine w_ald0 i113_84 ?_
      refine w_gfI i113_85 (by decide) s_171 rfl ((setcG (show 171 ≠ 176 by decide)).trans mupE) ?_
      refine w_bip i113_88 kb_126 ?_
      refine w_imul i113_90 (nI_mul _ _) ?_
      refine w_ild2 i113_91 ?_
      refine w_iadd i113_92 (nI_add _ _) ?_
      refine w_ald0 i113_93 ?_
      refine w_gfR i113_94 (by decide) s_171 rfl ?_
      refine w_ild2 i113_97 ?_
      refine w_ial i113_98 s_173 (by decide) (by omega) ((setcG (show 173 ≠ 176 by decide)).trans ((mupC (show 173 ≠ 171 by decide)).trans (setcG (show 173 ≠ 176 by decide)))) ?_
      refine w_iasS i113_99 s_176 (by decide) (by omega) ?_
      refine w_inc2 i113_100 (inc1 _) ?_
      refine w_goto i113_103 g113_103 ?_
      rw [pshS]; exact ih
  · intro i hi ih
    refine w_ild2 i113_34 ?_
    refine w_sip i113_35 ks_882 ?_
    refine w_cgeNF i113_38 (by omega) (by omega) (by omega) ?_
    refine w_ald0 i113_41 ?_
    refine w_gfR i113_42 (by decide) s_171 rfl ?_
    refine w_ild2 i113_45 ?_
    refine w_ald0 i113_46 ?_
    refine w_gfR i113_47 (by decide) s_171 rfl ?_
    refine w_ild2 i113_50 ?_
    refine w_bip i113_51 kb_126 ?_
    refine w_iadd i113_53 (nI_add _ _) ?_
    refine w_ial i113_54 s_176 (by decide) (by omega) (setcR.trans sftR) ?_
    refine w_iasS i113_55 s_176 (by decide) (by omega) ?_
    refine w_inc2 i113_56 (inc1 _) ?_
    refine w_goto i113_59 g113_59 ?_
    rw [sftS]; exact ih
theorem T_ends_ok {d : Nat} {D : Mm} {Q : Option Value → Mm → Prop} {x : Int32} {c : Nat} (hf : D 171 0 = 0) (hc : D 171 1 = nI c) (h8 : c ≤ 8) (hq : ∀ D2 : Mm, PstE (D 176) (D 173) (D2 176) c → D2 171 1 = nI (min (c + 1) 8) → (∀ j, j ≠ 1 → D2 171 j = D 171 j) → (∀ q, q ≠ 171 → q ≠ 176 → D2 q = D q) → Q (some (.int x)) D2) : Ct (d + 2) 113 [.ref 171, .int x] D Q := by
  by_cases h : c < 8
  · exact T_ends_s hf hc h hq
  · have e : c = 8 := by omega
    subst e
    exact T_ends_8 hf hc hq
def OutE (o : Out) (D : Mm) (c : Nat) (Q : Option Value → Mm → Prop) : Prop := match o with
  | .inl (x, rs) => ∀ D2 : Mm, D2 171 = fF (vup (D 171) 0 (nI 0)) x rs → (∀ j, j < 126 → D2 172 j = D 172 j) → (∀ q, q ≠ 171 → q ≠ 172 → q ≠ 173 → D2 q = D q) → Q (some (.int x)) D2
  | .inr (a, V2) => ∀ D2 : Mm, D2 172 = V2 → PstE (D 176) (D 172) (D2 176) c → D2 171 1 = nI (min (c + 1) 8) → (∀ j, j ≠ 0 → j ≠ 1 → j ≠ 16 → D2 171 j = D 171 j) → (∀ q, q ≠ 171 → q ≠ 172 → q ≠ 173 → q ≠ 176 → q ≠ 177 → q ≠ 178 → D2 q = D q) → Q (some (.int a)) D2
theorem OutEm {o : Out} {D : Mm} {c : Nat} {Q Q2 : Option Value → Mm → Prop} (hq : ∀ a D2, Q (some (.int a)) D2 → Q2 (some (.int a)) D2) (h : OutE o D c Q) : OutE o D c Q2 := by
  unfold OutE at h ⊢
  split
  · intro D2 h1 h2 h3
    exact hq _ _ (h D2 h1 h2 h3)
  · intro D2 h1 h2 h3 h4 h5
    exact hq _ _ (h D2 h1 h2 h3 h4 h5)
theorem OutEr {o : Out} {D : Mm} {c : Nat} {Q Q2 : Option Value → Mm → Prop} (h : OutE o D c Q) (hq : ∀ a D2, Q (some (.int a)) D2 → Q2 (some (.int a)) D2) : OutE o D c Q2 := OutEm hq h
theorem OutMr {o : Out} {D : Mm} {Q Q2 : Option Value → Mm → Prop} (h : OutM o D Q) (hq : ∀ a D2, Q (some (.int a)) D2 → Q2 (some (.int a)) D2) : OutM o D Q2 := OutMm hq h
theorem mBeg172 {D : Mm} : mBeg D 172 = D 172 := by
  funext j
  show cpy _ 173 172 126 172 j = _
  unfold cpy
  rw [if_neg (by decide), mupF (by decide)]
theorem fF_0 {F : Nat → Int32} {x : Int32} {rs : List (Int32 × Int32)} : fF F x rs 0 = x := by
  unfold fF
  split
  · exact updE
  · exact updE
  · exact (updJ (by decide)).trans ((updJ (by decide)).trans updE)
theorem PstE_ag {W B B2 W2 : Nat → Int32} {c : Nat} (h : PstE W B W2 c) (e : ∀ k, k < 126 → B k = B2 k) : PstE W B2 W2 c := ⟨h.1, fun k hk => (h.2 k hk).trans (e k hk)⟩
theorem ends_lem {d : Nat} {o : Out} {D : Mm} {c : Nat} {Q : Option Value → Mm → Prop} (hc : D 171 1 = nI c) (h8 : c ≤ 8) (hne : ∀ x rs, o = .inl (x, rs) → ¬ x = 0) (h : OutE o D c Q) : OutM o (mBeg D) (fun r D2 => ∀ a, r = some (.int a) → Ct (d + 2) 113 [.ref 171, .int a] D2 Q) := by
  have b1 : mBeg D 171 = vup (D 171) 0 (nI 0) := by
    funext j
    show cpy _ 173 172 126 171 j = _
    unfold cpy
    rw [if_neg (by decide), mupU]
  have b3 : ∀ j, j < 126 → mBeg D 173 j = D 172 j := by
    intro j hj
    show cpy _ 173 172 126 173 j = _
    unfold cpy
    rw [if_pos rfl, if_pos hj, mupF (by decide)]
  have bq : ∀ q, q ≠ 171 → q ≠ 173 → mBeg D q = D q := by
    intro q h1 h2
    funext j
    show cpy _ 173 172 126 q j = _
    unfold cpy
    rw [if_neg h2, mupF h1]
  unfold OutE at h
  unfold OutM
  split at h
  · next x rs =>
    intro D2 h1 h2 a ea
    cases ea
    have e0 : D2 171 0 = x := by rw [h1, fF_0]
    have hx := hne x rs rfl
    refine Ct_exq (T_ends_f (by rw [e0]; exact hx)) ?_
    rw [e0]
    refine h _ ?_ (fun j hj => ?_) (fun q g1 g2 g3 => ?_)
    · funext j
      unfold cpy
      rw [if_neg (by decide), h1, b1]
    · unfold cpy
      rw [if_pos rfl, if_pos hj, h2 173 (by decide) (by decide), b3 j hj]
    · funext j
      unfold cpy
      rw [if_neg g2, h2 q g1 g2, bq q g1 g3]
  · next a V2 =>
    intro D2 h1 h2 h3 x ea
    cases ea
    refine T_ends_ok (c := c) ?_ ?_ h8 (fun D3 k1 k2 k3 k4 => ?_)
    · rw [h2 0 (by decide), b1]; exact updE
    · rw [h2 1 (by decide), b1, ← hc]; exact updJ (by decide)
    · refine h D3 ?_ ?_ k2 (fun j g1 g2 g3 => ?_) (fun q g1 g2 g3 g4 g5 g6 => ?_)
      · rw [k4 172 (by decide) (by decide), h1]
      · rw [← bq 176 (by decide) (by decide), ← h3 176 (by decide) (by decide) (by decide) (by decide)]
        refine PstE_ag k1 (fun k hk => ?_)
        rw [h3 173 (by decide) (by decide) (by decide) (by decide), b3 k hk]
      · rw [k3 j g2, h2 j g3, b1]; exact updJ g1
      · rw [k4 q g1 g4, h3 q g1 g2 g5 g6, bq q g1 g3]
set_option maxHeartbeats 100000 in
theorem P_stub_bad {d : Nat} {D : Mm} {Q : Option Value → Mm → Prop} {c : Nat} {a w k : Int32} (hb : badH a) (hc : D 171 1 = nI c) (h8 : c ≤ 8) (hne : ∀ yy rs, (.inl (-1011, []) : Out) = .inl (yy, rs) → ¬ yy = 0) (h : OutE (.inl (-1011, [])) D c Q) : Ct (d + 7) 127 [.ref 171, .int a, .int w, .int k] D Q := by
  refine ent m127 rfl rfl (ls := [.ref 171, .int a, .int w, .int k]) rfl ?_
  refine w_ald0 i127_0 ?_
  refine w_vV1 i127_1 c112 (Or.inl rfl) ⟨by decide +kernel, by decide⟩ rfl ⟨rfl, Nat.le_of_ble_eq_true rfl⟩ T_begins ?_
  refine w_ald0 i127_4 ?_
  refine w_ald0 i127_5 ?_
  refine w_ild1 i127_6 ?_
  refine w_ild2 i127_7 ?_
  refine w_ild3 i127_8 ?_
  refine w_vG4 i127_9 c126 (Or.inl rfl) ⟨by decide +kernel, by decide⟩ rfl ⟨rfl, Nat.le_of_ble_eq_true rfl⟩ ?_
  refine T_comes_bad hb (OutMr (ends_lem (d := d + 4) (Q := fun r2 D2 => Wp (d + 6) 127 Q (12 + 3) [.ref 171, .int a, .int w, .int k] (r2.toList ++ []) D2) hc h8 hne (OutEr h (fun a D2 hq => w_ri i127_15 r127 hq))) (fun a D2 hq => w_vG2 i127_12 c113 (Or.inl rfl) ⟨by decide +kernel, by decide⟩ rfl ⟨rfl, Nat.le_of_ble_eq_true rfl⟩ (hq a rfl)))
set_option maxHeartbeats 100000 in
theorem P_stub {d : Nat} {D : Mm} {Q : Option Value → Mm → Prop} {c : Nat} {n : Nat} (hn : D 172 0 = nI n) (h12 : n ≤ 12) {j : Nat} (hj : j < 6) {w k : Int32} (hc : D 171 1 = nI c) (h8 : c ≤ 8) (hne : ∀ yy rs, (vComes n (D 172) j w k : Out) = .inl (yy, rs) → ¬ yy = 0) (h : OutE (vComes n (D 172) j w k) D c Q) : Ct (d + 7) 127 [.ref 171, .int (nI j), .int w, .int k] D Q := by
  refine ent m127 rfl rfl (ls := [.ref 171, .int (nI j), .int w, .int k]) rfl ?_
  refine w_ald0 i127_0 ?_
  refine w_vV1 i127_1 c112 (Or.inl rfl) ⟨by decide +kernel, by decide⟩ rfl ⟨rfl, Nat.le_of_ble_eq_true rfl⟩ T_begins ?_
  refine w_ald0 i127_4 ?_
  refine w_ald0 i127_5 ?_
  refine w_ild1 i127_6 ?_
  refine w_ild2 i127_7 ?_
  refine w_ild3 i127_8 ?_
  refine w_vG4 i127_9 c126 (Or.inl rfl) ⟨by decide +kernel, by decide⟩ rfl ⟨rfl, Nat.le_of_ble_eq_true rfl⟩ ?_
  refine T_comes (V := D 172) mBeg172 hn h12 hj (OutMr (ends_lem (d := d + 4) (Q := fun r2 D2 => Wp (d + 6) 127 Q (12 + 3) [.ref 171, .int (nI j), .int w, .int k] (r2.toList ++ []) D2) hc h8 hne (OutEr h (fun a D2 hq => w_ri i127_15 r127 hq))) (fun a D2 hq => w_vG2 i127_12 c113 (Or.inl rfl) ⟨by decide +kernel, by decide⟩ rfl ⟨rfl, Nat.le_of_ble_eq_true rfl⟩ (hq a rfl)))
set_option maxHeartbeats 100000 in
theorem P_mould_bad {d : Nat} {D : Mm} {Q : Option Value → Mm → Prop} {c : Nat} {a w k : Int32} (hb : badH a) (hc : D 171 1 = nI c) (h8 : c ≤ 8) (hne : ∀ yy rs, (.inl (-1011, []) : Out) = .inl (yy, rs) → ¬ yy = 0) (h : OutE (.inl (-1011, [])) D c Q) : Ct (d + 7) 147 [.ref 171, .int a, .int w, .int k] D Q := by
  refine ent m147 rfl rfl (ls := [.ref 171, .int a, .int w, .int k]) rfl ?_
  refine w_ald0 i147_0 ?_
  refine w_vV1 i147_1 c112 (Or.inl rfl) ⟨by decide +kernel, by decide⟩ rfl ⟨rfl, Nat.le_of_ble_eq_true rfl⟩ T_begins ?_
  refine w_ald0 i147_4 ?_
  refine w_ald0 i147_5 ?_
  refine w_ild1 i147_6 ?_
  refine w_ild2 i147_7 ?_
  refine w_ild3 i147_8 ?_
  refine w_vG4 i147_9 c146 (Or.inl rfl) ⟨by decide +kernel, by decide⟩ rfl ⟨rfl, Nat.le_of_ble_eq_true rfl⟩ ?_
  refine T_moulds_bad hb (OutMr (ends_lem (d := d + 4) (Q := fun r2 D2 => Wp (d + 6) 147 Q (12 + 3) [.ref 171, .int a, .int w, .int k] (r2.toList ++ []) D2) hc h8 hne (OutEr h (fun a D2 hq => w_ri i147_15 r147 hq))) (fun a D2 hq => w_vG2 i147_12 c113 (Or.inl rfl) ⟨by decide +kernel, by decide⟩ rfl ⟨rfl, Nat.le_of_ble_eq_true rfl⟩ (hq a rfl)))
set_option maxHeartbeats 100000 in
theorem P_mould {d : Nat} {D : Mm} {Q : Option Value → Mm → Prop} {c : Nat} {n : Nat} (hn : D 172 0 = nI n) (h12 : n ≤ 12) {j : Nat} (hj : j < 6) {w k : Int32} (hc : D 171 1 = nI c) (h8 : c ≤ 8) (hne : ∀ yy rs, (vMoulds n (D 172) j w k : Out) = .inl (yy, rs) → ¬ yy = 0) (h : OutE (vMoulds n (D 172) j w k) D c Q) : Ct (d + 7) 147 [.ref 171, .int (nI j), .int w, .int k] D Q := by
  refine ent m147 rfl rfl (ls := [.ref 171, .int (nI j), .int w, .int k]) rfl ?_
  refine w_ald0 i147_0 ?_
  refine w_vV1 i147_1 c112 (Or.inl rfl) ⟨by decide +kernel, by decide⟩ rfl ⟨rfl, Nat.le_of_ble_eq_true rfl⟩ T_begins ?_
  refine w_ald0 i147_4 ?_
  refine w_ald0 i147_5 ?_
  refine w_ild1 i147_6 ?_
  refine w_ild2 i147_7 ?_
  refine w_ild3 i147_8 ?_
  refine w_vG4 i147_9 c146 (Or.inl rfl) ⟨by decide +kernel, by decide⟩ rfl ⟨rfl, Nat.le_of_ble_eq_true rfl⟩ ?_
  refine T_moulds (V := D 172) mBeg172 hn h12 hj (OutMr (ends_lem (d := d + 4) (Q := fun r2 D2 => Wp (d + 6) 147 Q (12 + 3) [.ref 171, .int (nI j), .int w, .int k] (r2.toList ++ []) D2) hc h8 hne (OutEr h (fun a D2 hq => w_ri i147_15 r147 hq))) (fun a D2 hq => w_vG2 i147_12 c113 (Or.inl rfl) ⟨by decide +kernel, by decide⟩ rfl ⟨rfl, Nat.le_of_ble_eq_true rfl⟩ (hq a rfl)))
set_option maxHeartbeats 100000 in
theorem P_burn_bad {d : Nat} {D : Mm} {Q : Option Value → Mm → Prop} {c : Nat} {n : Nat} (hn : D 172 0 = nI n) (h12 : n ≤ 12) {a x : Int32} (hb : badS n a) (hc : D 171 1 = nI c) (h8 : c ≤ 8) (hne : ∀ yy rs, (.inl (-1011, []) : Out) = .inl (yy, rs) → ¬ yy = 0) (h : OutE (.inl (-1011, [])) D c Q) : Ct (d + 7) 130 [.ref 171, .int a, .int x] D Q := by
  refine ent m130 rfl rfl (ls := [.ref 171, .int a, .int x]) rfl ?_
  refine w_ald0 i130_0 ?_
  refine w_vV1 i130_1 c112 (Or.inl rfl) ⟨by decide +kernel, by decide⟩ rfl ⟨rfl, Nat.le_of_ble_eq_true rfl⟩ T_begins ?_
  refine w_ald0 i130_4 ?_
  refine w_ald0 i130_5 ?_
  refine w_ild1 i130_6 ?_
  refine w_ild2 i130_7 ?_
  refine w_vG3 i130_8 c129 (Or.inl rfl) ⟨by decide +kernel, by decide⟩ rfl ⟨rfl, Nat.le_of_ble_eq_true rfl⟩ ?_
  refine T_burns_bad ((congrFun mBeg172 0).trans hn) h12 hb (OutMr (ends_lem (d := d + 4) (Q := fun r2 D2 => Wp (d + 6) 130 Q (11 + 3) [.ref 171, .int a, .int x] (r2.toList ++ []) D2) hc h8 hne (OutEr h (fun a D2 hq => w_ri i130_14 r130 hq))) (fun a D2 hq => w_vG2 i130_11 c113 (Or.inl rfl) ⟨by decide +kernel, by decide⟩ rfl ⟨rfl, Nat.le_of_ble_eq_true rfl⟩ (hq a rfl)))
set_option maxHeartbeats 100000 in
theorem P_burn {d : Nat} {D : Mm} {Q : Option Value → Mm → Prop} {c : Nat} {n : Nat} (hn : D 172 0 = nI n) (h12 : n ≤ 12) {s : Nat} (hs : s < n) {x : Int32} (hc : D 171 1 = nI c) (h8 : c ≤ 8) (hne : ∀ yy rs, (vBurns (D 172) s x : Out) = .inl (yy, rs) → ¬ yy = 0) (h : OutE (vBurns (D 172) s x) D c Q) : Ct (d + 7) 130 [.ref 171, .int (nI s), .int x] D Q := by
  refine ent m130 rfl rfl (ls := [.ref 171, .int (nI s), .int x]) rfl ?_
  refine w_ald0 i130_0 ?_
  refine w_vV1 i130_1 c112 (Or.inl rfl) ⟨by decide +kernel, by decide⟩ rfl ⟨rfl, Nat.le_of_ble_eq_true rfl⟩ T_begins ?_
  refine w_ald0 i130_4 ?_
  refine w_ald0 i130_5 ?_
  refine w_ild1 i130_6 ?_
  refine w_ild2 i130_7 ?_
  refine w_vG3 i130_8 c129 (Or.inl rfl) ⟨by decide +kernel, by decide⟩ rfl ⟨rfl, Nat.le_of_ble_eq_true rfl⟩ ?_
  refine T_burns (V := D 172) mBeg172 hn h12 hs (OutMr (ends_lem (d := d + 4) (Q := fun r2 D2 => Wp (d + 6) 130 Q (11 + 3) [.ref 171, .int (nI s), .int x] (r2.toList ++ []) D2) hc h8 hne (OutEr h (fun a D2 hq => w_ri i130_14 r130 hq))) (fun a D2 hq => w_vG2 i130_11 c113 (Or.inl rfl) ⟨by decide +kernel, by decide⟩ rfl ⟨rfl, Nat.le_of_ble_eq_true rfl⟩ (hq a rfl)))
set_option maxHeartbeats 100000 in
theorem P_owe_bad1 {d : Nat} {D : Mm} {Q : Option Value → Mm → Prop} {c : Nat} {n : Nat} (hn : D 172 0 = nI n) (h12 : n ≤ 12) {a b x : Int32} (hb : badS n a) (hc : D 171 1 = nI c) (h8 : c ≤ 8) (hne : ∀ yy rs, (.inl (-1011, []) : Out) = .inl (yy, rs) → ¬ yy = 0) (h : OutE (.inl (-1011, [])) D c Q) : Ct (d + 7) 132 [.ref 171, .int a, .int b, .int x] D Q := by
  refine ent m132 rfl rfl (ls := [.ref 171, .int a, .int b, .int x]) rfl ?_
  refine w_ald0 i132_0 ?_
  refine w_vV1 i132_1 c112 (Or.inl rfl) ⟨by decide +kernel, by decide⟩ rfl ⟨rfl, Nat.le_of_ble_eq_true rfl⟩ T_begins ?_
  refine w_ald0 i132_4 ?_
  refine w_ald0 i132_5 ?_
  refine w_ild1 i132_6 ?_
  refine w_ild2 i132_7 ?_
  refine w_ild3 i132_8 ?_
  refine w_vG4 i132_9 c131 (Or.inl rfl) ⟨by decide +kernel, by decide⟩ rfl ⟨rfl, Nat.le_of_ble_eq_true rfl⟩ ?_
  refine T_owes_bad1 ((congrFun mBeg172 0).trans hn) h12 hb (OutMr (ends_lem (d := d + 4) (Q := fun r2 D2 => Wp (d + 6) 132 Q (12 + 3) [.ref 171, .int a, .int b, .int x] (r2.toList ++ []) D2) hc h8 hne (OutEr h (fun a D2 hq => w_ri i132_15 r132 hq))) (fun a D2 hq => w_vG2 i132_12 c113 (Or.inl rfl) ⟨by decide +kernel, by decide⟩ rfl ⟨rfl, Nat.le_of_ble_eq_true rfl⟩ (hq a rfl)))
set_option maxHeartbeats 100000 in
theorem P_owe_bad2 {d : Nat} {D : Mm} {Q : Option Value → Mm → Prop} {c : Nat} {n : Nat} (hn : D 172 0 = nI n) (h12 : n ≤ 12) {s : Nat} (hs : s < n) {b x : Int32} (hb : badH b) (hc : D 171 1 = nI c) (h8 : c ≤ 8) (hne : ∀ yy rs, (.inl (-1011, []) : Out) = .inl (yy, rs) → ¬ yy = 0) (h : OutE (.inl (-1011, [])) D c Q) : Ct (d + 7) 132 [.ref 171, .int (nI s), .int b, .int x] D Q := by
  refine ent m132 rfl rfl (ls := [.ref 171, .int (nI s), .int b, .int x]) rfl ?_
  refine w_ald0 i132_0 ?_
  refine w_vV1 i132_1 c112 (Or.inl rfl) ⟨by decide +kernel, by decide⟩ rfl ⟨rfl, Nat.le_of_ble_eq_true rfl⟩ T_begins ?_
  refine w_ald0 i132_4 ?_
  refine w_ald0 i132_5 ?_
  refine w_ild1 i132_6 ?_
  refine w_ild2 i132_7 ?_
  refine w_ild3 i132_8 ?_
  refine w_vG4 i132_9 c131 (Or.inl rfl) ⟨by decide +kernel, by decide⟩ rfl ⟨rfl, Nat.le_of_ble_eq_true rfl⟩ ?_
  refine T_owes_bad2 ((congrFun mBeg172 0).trans hn) h12 hs hb (OutMr (ends_lem (d := d + 4) (Q := fun r2 D2 => Wp (d + 6) 132 Q (12 + 3) [.ref 171, .int (nI s), .int b, .int x] (r2.toList ++ []) D2) hc h8 hne (OutEr h (fun a D2 hq => w_ri i132_15 r132 hq))) (fun a D2 hq => w_vG2 i132_12 c113 (Or.inl rfl) ⟨by decide +kernel, by decide⟩ rfl ⟨rfl, Nat.le_of_ble_eq_true rfl⟩ (hq a rfl)))
set_option maxHeartbeats 100000 in
theorem P_owe {d : Nat} {D : Mm} {Q : Option Value → Mm → Prop} {c : Nat} {n : Nat} (hn : D 172 0 = nI n) (h12 : n ≤ 12) {s : Nat} (hs : s < n) {j : Nat} (hj : j < 6) {x : Int32} (hc : D 171 1 = nI c) (h8 : c ≤ 8) (hne : ∀ yy rs, (vOwes n (D 172) s j x : Out) = .inl (yy, rs) → ¬ yy = 0) (h : OutE (vOwes n (D 172) s j x) D c Q) : Ct (d + 7) 132 [.ref 171, .int (nI s), .int (nI j), .int x] D Q := by
  refine ent m132 rfl rfl (ls := [.ref 171, .int (nI s), .int (nI j), .int x]) rfl ?_
  refine w_ald0 i132_0 ?_
  refine w_vV1 i132_1 c112 (Or.inl rfl) ⟨by decide +kernel, by decide⟩ rfl ⟨rfl, Nat.le_of_ble_eq_true rfl⟩ T_begins ?_
  refine w_ald0 i132_4 ?_
  refine w_ald0 i132_5 ?_
  refine w_ild1 i132_6 ?_
  refine w_ild2 i132_7 ?_
  refine w_ild3 i132_8 ?_
  refine w_vG4 i132_9 c131 (Or.inl rfl) ⟨by decide +kernel, by decide⟩ rfl ⟨rfl, Nat.le_of_ble_eq_true rfl⟩ ?_
  refine T_owes (V := D 172) mBeg172 hn h12 hs hj (OutMr (ends_lem (d := d + 4) (Q := fun r2 D2 => Wp (d + 6) 132 Q (12 + 3) [.ref 171, .int (nI s), .int (nI j), .int x] (r2.toList ++ []) D2) hc h8 hne (OutEr h (fun a D2 hq => w_ri i132_15 r132 hq))) (fun a D2 hq => w_vG2 i132_12 c113 (Or.inl rfl) ⟨by decide +kernel, by decide⟩ rfl ⟨rfl, Nat.le_of_ble_eq_true rfl⟩ (hq a rfl)))
set_option maxHeartbeats 100000 in
theorem P_writ_bad1 {d : Nat} {D : Mm} {Q : Option Value → Mm → Prop} {c : Nat} {a b x : Int32} (hb : badH b) (hc : D 171 1 = nI c) (h8 : c ≤ 8) (hne : ∀ yy rs, (.inl (-1011, []) : Out) = .inl (yy, rs) → ¬ yy = 0) (h : OutE (.inl (-1011, [])) D c Q) : Ct (d + 7) 134 [.ref 171, .int b, .int a, .int x] D Q := by
  refine ent m134 rfl rfl (ls := [.ref 171, .int b, .int a, .int x]) rfl ?_
  refine w_ald0 i134_0 ?_
  refine w_vV1 i134_1 c112 (Or.inl rfl) ⟨by decide +kernel, by decide⟩ rfl ⟨rfl, Nat.le_of_ble_eq_true rfl⟩ T_begins ?_
  refine w_ald0 i134_4 ?_
  refine w_ald0 i134_5 ?_
  refine w_ild1 i134_6 ?_
  refine w_ild2 i134_7 ?_
  refine w_ild3 i134_8 ?_
  refine w_vG4 i134_9 c133 (Or.inl rfl) ⟨by decide +kernel, by decide⟩ rfl ⟨rfl, Nat.le_of_ble_eq_true rfl⟩ ?_
  refine T_snuffs_bad1 hb (OutMr (ends_lem (d := d + 4) (Q := fun r2 D2 => Wp (d + 6) 134 Q (12 + 3) [.ref 171, .int b, .int a, .int x] (r2.toList ++ []) D2) hc h8 hne (OutEr h (fun a D2 hq => w_ri i134_15 r134 hq))) (fun a D2 hq => w_vG2 i134_12 c113 (Or.inl rfl) ⟨by decide +kernel, by decide⟩ rfl ⟨rfl, Nat.le_of_ble_eq_true rfl⟩ (hq a rfl)))
set_option maxHeartbeats 100000 in
theorem P_writ_bad2 {d : Nat} {D : Mm} {Q : Option Value → Mm → Prop} {c : Nat} {n : Nat} (hn : D 172 0 = nI n) (h12 : n ≤ 12) {j : Nat} (hj : j < 6) {a x : Int32} (hb : badS n a) (hc : D 171 1 = nI c) (h8 : c ≤ 8) (hne : ∀ yy rs, (.inl (-1011, []) : Out) = .inl (yy, rs) → ¬ yy = 0) (h : OutE (.inl (-1011, [])) D c Q) : Ct (d + 7) 134 [.ref 171, .int (nI j), .int a, .int x] D Q := by
  refine ent m134 rfl rfl (ls := [.ref 171, .int (nI j), .int a, .int x]) rfl ?_
  refine w_ald0 i134_0 ?_
  refine w_vV1 i134_1 c112 (Or.inl rfl) ⟨by decide +kernel, by decide⟩ rfl ⟨rfl, Nat.le_of_ble_eq_true rfl⟩ T_begins ?_
  refine w_ald0 i134_4 ?_
  refine w_ald0 i134_5 ?_
  refine w_ild1 i134_6 ?_
  refine w_ild2 i134_7 ?_
  refine w_ild3 i134_8 ?_
  refine w_vG4 i134_9 c133 (Or.inl rfl) ⟨by decide +kernel, by decide⟩ rfl ⟨rfl, Nat.le_of_ble_eq_true rfl⟩ ?_
  refine T_snuffs_bad2 ((congrFun mBeg172 0).trans hn) h12 hj hb (OutMr (ends_lem (d := d + 4) (Q := fun r2 D2 => Wp (d + 6) 134 Q (12 + 3) [.ref 171, .int (nI j), .int a, .int x] (r2.toList ++ []) D2) hc h8 hne (OutEr h (fun a D2 hq => w_ri i134_15 r134 hq))) (fun a D2 hq => w_vG2 i134_12 c113 (Or.inl rfl) ⟨by decide +kernel, by decide⟩ rfl ⟨rfl, Nat.le_of_ble_eq_true rfl⟩ (hq a rfl)))
set_option maxHeartbeats 100000 in
theorem P_writ {d : Nat} {D : Mm} {Q : Option Value → Mm → Prop} {c : Nat} {n : Nat} (hn : D 172 0 = nI n) (h12 : n ≤ 12) {s : Nat} (hs : s < n) {j : Nat} (hj : j < 6) {x : Int32} (hc : D 171 1 = nI c) (h8 : c ≤ 8) (hne : ∀ yy rs, (vSnuffs n (D 172) j s x : Out) = .inl (yy, rs) → ¬ yy = 0) (h : OutE (vSnuffs n (D 172) j s x) D c Q) : Ct (d + 7) 134 [.ref 171, .int (nI j), .int (nI s), .int x] D Q := by
  refine ent m134 rfl rfl (ls := [.ref 171, .int (nI j), .int (nI s), .int x]) rfl ?_
  refine w_ald0 i134_0 ?_
  refine w_vV1 i134_1 c112 (Or.inl rfl) ⟨by decide +kernel, by decide⟩ rfl ⟨rfl, Nat.le_of_ble_eq_true rfl⟩ T_begins ?_
  refine w_ald0 i134_4 ?_
  refine w_ald0 i134_5 ?_
  refine w_ild1 i134_6 ?_
  refine w_ild2 i134_7 ?_
  refine w_ild3 i134_8 ?_
  refine w_vG4 i134_9 c133 (Or.inl rfl) ⟨by decide +kernel, by decide⟩ rfl ⟨rfl, Nat.le_of_ble_eq_true rfl⟩ ?_
  refine T_snuffs (V := D 172) mBeg172 hn h12 hs hj (OutMr (ends_lem (d := d + 4) (Q := fun r2 D2 => Wp (d + 6) 134 Q (12 + 3) [.ref 171, .int (nI j), .int (nI s), .int x] (r2.toList ++ []) D2) hc h8 hne (OutEr h (fun a D2 hq => w_ri i134_15 r134 hq))) (fun a D2 hq => w_vG2 i134_12 c113 (Or.inl rfl) ⟨by decide +kernel, by decide⟩ rfl ⟨rfl, Nat.le_of_ble_eq_true rfl⟩ (hq a rfl)))
set_option maxHeartbeats 100000 in
theorem P_pool_bad {d : Nat} {D : Mm} {Q : Option Value → Mm → Prop} {c : Nat} {n : Nat} (hn : D 172 0 = nI n) (h12 : n ≤ 12) {a x : Int32} (hb : badS n a) (hc : D 171 1 = nI c) (h8 : c ≤ 8) (hne : ∀ yy rs, (.inl (-1011, []) : Out) = .inl (yy, rs) → ¬ yy = 0) (h : OutE (.inl (-1011, [])) D c Q) : Ct (d + 7) 138 [.ref 171, .int a, .int x] D Q := by
  refine ent m138 rfl rfl (ls := [.ref 171, .int a, .int x]) rfl ?_
  refine w_ald0 i138_0 ?_
  refine w_vV1 i138_1 c112 (Or.inl rfl) ⟨by decide +kernel, by decide⟩ rfl ⟨rfl, Nat.le_of_ble_eq_true rfl⟩ T_begins ?_
  refine w_ald0 i138_4 ?_
  refine w_ald0 i138_5 ?_
  refine w_ild1 i138_6 ?_
  refine w_ild2 i138_7 ?_
  refine w_vG3 i138_8 c137 (Or.inl rfl) ⟨by decide +kernel, by decide⟩ rfl ⟨rfl, Nat.le_of_ble_eq_true rfl⟩ ?_
  refine T_pools_bad ((congrFun mBeg172 0).trans hn) h12 hb (OutMr (ends_lem (d := d + 4) (Q := fun r2 D2 => Wp (d + 6) 138 Q (11 + 3) [.ref 171, .int a, .int x] (r2.toList ++ []) D2) hc h8 hne (OutEr h (fun a D2 hq => w_ri i138_14 r138 hq))) (fun a D2 hq => w_vG2 i138_11 c113 (Or.inl rfl) ⟨by decide +kernel, by decide⟩ rfl ⟨rfl, Nat.le_of_ble_eq_true rfl⟩ (hq a rfl)))
set_option maxHeartbeats 100000 in
theorem P_pool {d : Nat} {D : Mm} {Q : Option Value → Mm → Prop} {c : Nat} {n : Nat} (hn : D 172 0 = nI n) (h12 : n ≤ 12) {s : Nat} (hs : s < n) {o : Nat} (ho : D 172 (30 + 8 * s + 0) = nI o) (ho6 : o < 6) {x : Int32} (hc : D 171 1 = nI c) (h8 : c ≤ 8) (hne : ∀ yy rs, (vPools (D 172) s o x : Out) = .inl (yy, rs) → ¬ yy = 0) (h : OutE (vPools (D 172) s o x) D c Q) : Ct (d + 7) 138 [.ref 171, .int (nI s), .int x] D Q := by
  refine ent m138 rfl rfl (ls := [.ref 171, .int (nI s), .int x]) rfl ?_
  refine w_ald0 i138_0 ?_
  refine w_vV1 i138_1 c112 (Or.inl rfl) ⟨by decide +kernel, by decide⟩ rfl ⟨rfl, Nat.le_of_ble_eq_true rfl⟩ T_begins ?_
  refine w_ald0 i138_4 ?_
  refine w_ald0 i138_5 ?_
  refine w_ild1 i138_6 ?_
  refine w_ild2 i138_7 ?_
  refine w_vG3 i138_8 c137 (Or.inl rfl) ⟨by decide +kernel, by decide⟩ rfl ⟨rfl, Nat.le_of_ble_eq_true rfl⟩ ?_
  refine T_pools (V := D 172) mBeg172 hn h12 hs ho ho6 (OutMr (ends_lem (d := d + 4) (Q := fun r2 D2 => Wp (d + 6) 138 Q (11 + 3) [.ref 171, .int (nI s), .int x] (r2.toList ++ []) D2) hc h8 hne (OutEr h (fun a D2 hq => w_ri i138_14 r138 hq))) (fun a D2 hq => w_vG2 i138_11 c113 (Or.inl rfl) ⟨by decide +kernel, by decide⟩ rfl ⟨rfl, Nat.le_of_ble_eq_true rfl⟩ (hq a rfl)))
set_option maxHeartbeats 100000 in
theorem P_share {d : Nat} {D : Mm} {Q : Option Value → Mm → Prop} {c : Nat} {n : Nat} (hn : D 172 0 = nI n) (h12 : n ≤ 12) (hF : ¬ mClaims n (D 172) = 0 → 0 < mClaims n (D 172) ∧ ¬ vLeft n (D 172) < 0) (hc : D 171 1 = nI c) (h8 : c ≤ 8) (hne : ∀ yy rs, (vShares n (D 172) : Out) = .inl (yy, rs) → ¬ yy = 0) (h : OutE (vShares n (D 172)) D c Q) : Ct (d + 7) 143 [.ref 171] D Q := by
  refine ent m143 rfl rfl (ls := [.ref 171]) rfl ?_
  refine w_ald0 i143_0 ?_
  refine w_vV1 i143_1 c112 (Or.inl rfl) ⟨by decide +kernel, by decide⟩ rfl ⟨rfl, Nat.le_of_ble_eq_true rfl⟩ T_begins ?_
  refine w_ald0 i143_4 ?_
  refine w_ald0 i143_5 ?_
  refine w_vG1 i143_6 c142 (Or.inl rfl) ⟨by decide +kernel, by decide⟩ rfl ⟨rfl, Nat.le_of_ble_eq_true rfl⟩ ?_
  refine T_shares (V := D 172) mBeg172 hn h12 hF (OutMr (ends_lem (d := d + 4) (Q := fun r2 D2 => Wp (d + 6) 143 Q (9 + 3) [.ref 171] (r2.toList ++ []) D2) hc h8 hne (OutEr h (fun a D2 hq => w_ri i143_12 r143 hq))) (fun a D2 hq => w_vG2 i143_9 c113 (Or.inl rfl) ⟨by decide +kernel, by decide⟩ rfl ⟨rfl, Nat.le_of_ble_eq_true rfl⟩ (hq a rfl)))
set_option maxHeartbeats 100000 in
theorem P_heir_bad1 {d : Nat} {D : Mm} {Q : Option Value → Mm → Prop} {c : Nat} {a b : Int32} (hb : badH b) (hc : D 171 1 = nI c) (h8 : c ≤ 8) (hne : ∀ yy rs, (.inl (-1011, []) : Out) = .inl (yy, rs) → ¬ yy = 0) (h : OutE (.inl (-1011, [])) D c Q) : Ct (d + 7) 149 [.ref 171, .int b, .int a] D Q := by
  refine ent m149 rfl rfl (ls := [.ref 171, .int b, .int a]) rfl ?_
  refine w_ald0 i149_0 ?_
  refine w_vV1 i149_1 c112 (Or.inl rfl) ⟨by decide +kernel, by decide⟩ rfl ⟨rfl, Nat.le_of_ble_eq_true rfl⟩ T_begins ?_
  refine w_ald0 i149_4 ?_
  refine w_ald0 i149_5 ?_
  refine w_ild1 i149_6 ?_
  refine w_ild2 i149_7 ?_
  refine w_vG3 i149_8 c148 (Or.inl rfl) ⟨by decide +kernel, by decide⟩ rfl ⟨rfl, Nat.le_of_ble_eq_true rfl⟩ ?_
  refine T_tellsHeir_bad1 hb (OutMr (ends_lem (d := d + 4) (Q := fun r2 D2 => Wp (d + 6) 149 Q (11 + 3) [.ref 171, .int b, .int a] (r2.toList ++ []) D2) hc h8 hne (OutEr h (fun a D2 hq => w_ri i149_14 r149 hq))) (fun a D2 hq => w_vG2 i149_11 c113 (Or.inl rfl) ⟨by decide +kernel, by decide⟩ rfl ⟨rfl, Nat.le_of_ble_eq_true rfl⟩ (hq a rfl)))
set_option maxHeartbeats 100000 in
theorem P_heir_bad2 {d : Nat} {D : Mm} {Q : Option Value → Mm → Prop} {c : Nat} {j : Nat} (hj : j < 6) {a : Int32} (hb : badH a) (hc : D 171 1 = nI c) (h8 : c ≤ 8) (hne : ∀ yy rs, (.inl (-1011, []) : Out) = .inl (yy, rs) → ¬ yy = 0) (h : OutE (.inl (-1011, [])) D c Q) : Ct (d + 7) 149 [.ref 171, .int (nI j), .int a] D Q := by
  refine ent m149 rfl rfl (ls := [.ref 171, .int (nI j), .int a]) rfl ?_
  refine w_ald0 i149_0 ?_
  refine w_vV1 i149_1 c112 (Or.inl rfl) ⟨by decide +kernel, by decide⟩ rfl ⟨rfl, Nat.le_of_ble_eq_true rfl⟩ T_begins ?_
  refine w_ald0 i149_4 ?_
  refine w_ald0 i149_5 ?_
  refine w_ild1 i149_6 ?_
  refine w_ild2 i149_7 ?_
  refine w_vG3 i149_8 c148 (Or.inl rfl) ⟨by decide +kernel, by decide⟩ rfl ⟨rfl, Nat.le_of_ble_eq_true rfl⟩ ?_
  refine T_tellsHeir_bad2 hj hb (OutMr (ends_lem (d := d + 4) (Q := fun r2 D2 => Wp (d + 6) 149 Q (11 + 3) [.ref 171, .int (nI j), .int a] (r2.toList ++ []) D2) hc h8 hne (OutEr h (fun a D2 hq => w_ri i149_14 r149 hq))) (fun a D2 hq => w_vG2 i149_11 c113 (Or.inl rfl) ⟨by decide +kernel, by decide⟩ rfl ⟨rfl, Nat.le_of_ble_eq_true rfl⟩ (hq a rfl)))
set_option maxHeartbeats 100000 in
theorem P_heir {d : Nat} {D : Mm} {Q : Option Value → Mm → Prop} {c : Nat} {j : Nat} (hj : j < 6) {i : Nat} (hi : i < 6) (hc : D 171 1 = nI c) (h8 : c ≤ 8) (hne : ∀ yy rs, (vTells (D 172) j i : Out) = .inl (yy, rs) → ¬ yy = 0) (h : OutE (vTells (D 172) j i) D c Q) : Ct (d + 7) 149 [.ref 171, .int (nI j), .int (nI i)] D Q := by
  refine ent m149 rfl rfl (ls := [.ref 171, .int (nI j), .int (nI i)]) rfl ?_
  refine w_ald0 i149_0 ?_
  refine w_vV1 i149_1 c112 (Or.inl rfl) ⟨by decide +kernel, by decide⟩ rfl ⟨rfl, Nat.le_of_ble_eq_true rfl⟩ T_begins ?_
  refine w_ald0 i149_4 ?_
  refine w_ald0 i149_5 ?_
  refine w_ild1 i149_6 ?_
  refine w_ild2 i149_7 ?_
  refine w_vG3 i149_8 c148 (Or.inl rfl) ⟨by decide +kernel, by decide⟩ rfl ⟨rfl, Nat.le_of_ble_eq_true rfl⟩ ?_
  refine T_tellsHeir (V := D 172) mBeg172 hj hi (OutMr (ends_lem (d := d + 4) (Q := fun r2 D2 => Wp (d + 6) 149 Q (11 + 3) [.ref 171, .int (nI j), .int (nI i)] (r2.toList ++ []) D2) hc h8 hne (OutEr h (fun a D2 hq => w_ri i149_14 r149 hq))) (fun a D2 hq => w_vG2 i149_11 c113 (Or.inl rfl) ⟨by decide +kernel, by decide⟩ rfl ⟨rfl, Nat.le_of_ble_eq_true rfl⟩ (hq a rfl)))
set_option maxHeartbeats 100000 in
theorem P_end_bad {d : Nat} {D : Mm} {Q : Option Value → Mm → Prop} {c : Nat} {a : Int32} (hb : badH a) (hc : D 171 1 = nI c) (h8 : c ≤ 8) (hne : ∀ yy rs, (.inl (-1011, []) : Out) = .inl (yy, rs) → ¬ yy = 0) (h : OutE (.inl (-1011, [])) D c Q) : Ct (d + 7) 154 [.ref 171, .int a] D Q := by
  refine ent m154 rfl rfl (ls := [.ref 171, .int a]) rfl ?_
  refine w_ald0 i154_0 ?_
  refine w_vV1 i154_1 c112 (Or.inl rfl) ⟨by decide +kernel, by decide⟩ rfl ⟨rfl, Nat.le_of_ble_eq_true rfl⟩ T_begins ?_
  refine w_ald0 i154_4 ?_
  refine w_ald0 i154_5 ?_
  refine w_ild1 i154_6 ?_
  refine w_vG2 i154_7 c153 (Or.inl rfl) ⟨by decide +kernel, by decide⟩ rfl ⟨rfl, Nat.le_of_ble_eq_true rfl⟩ ?_
  refine T_closes_bad hb (OutMr (ends_lem (d := d + 4) (Q := fun r2 D2 => Wp (d + 6) 154 Q (10 + 3) [.ref 171, .int a] (r2.toList ++ []) D2) hc h8 hne (OutEr h (fun a D2 hq => w_ri i154_13 r154 hq))) (fun a D2 hq => w_vG2 i154_10 c113 (Or.inl rfl) ⟨by decide +kernel, by decide⟩ rfl ⟨rfl, Nat.le_of_ble_eq_true rfl⟩ (hq a rfl)))
set_option maxHeartbeats 100000 in
theorem P_end {d : Nat} {D : Mm} {Q : Option Value → Mm → Prop} {c : Nat} {n : Nat} (hn : D 172 0 = nI n) (h12 : n ≤ 12) {j : Nat} (hj : j < 6) (hh : okHr (D 172)) (h1 : vOpen (D 172) j → (mOpens (D 172) = nI 1 ↔ vSucc (D 172) j = none)) (hc : D 171 1 = nI c) (h8 : c ≤ 8) (hne : ∀ yy rs, (vCloses n (D 172) j : Out) = .inl (yy, rs) → ¬ yy = 0) (h : OutE (vCloses n (D 172) j) D c Q) : Ct (d + 7) 154 [.ref 171, .int (nI j)] D Q := by
  refine ent m154 rfl rfl (ls := [.ref 171, .int (nI j)]) rfl ?_
  refine w_ald0 i154_0 ?_
  refine w_vV1 i154_1 c112 (Or.inl rfl) ⟨by decide +kernel, by decide⟩ rfl ⟨rfl, Nat.le_of_ble_eq_true rfl⟩ T_begins ?_
  refine w_ald0 i154_4 ?_
  refine w_ald0 i154_5 ?_
  refine w_ild1 i154_6 ?_
  refine w_vG2 i154_7 c153 (Or.inl rfl) ⟨by decide +kernel, by decide⟩ rfl ⟨rfl, Nat.le_of_ble_eq_true rfl⟩ ?_
  refine T_closes (V := D 172) mBeg172 hn h12 hj hh h1 (OutMr (ends_lem (d := d + 4) (Q := fun r2 D2 => Wp (d + 6) 154 Q (10 + 3) [.ref 171, .int (nI j)] (r2.toList ++ []) D2) hc h8 hne (OutEr h (fun a D2 hq => w_ri i154_13 r154 hq))) (fun a D2 hq => w_vG2 i154_10 c113 (Or.inl rfl) ⟨by decide +kernel, by decide⟩ rfl ⟨rfl, Nat.le_of_ble_eq_true rfl⟩ (hq a rfl)))
set_option maxHeartbeats 100000 in
theorem P_pass {d : Nat} {D : Mm} {Q : Option Value → Mm → Prop} {c : Nat} {n : Nat} (hn : D 172 0 = nI n) (h12 : n ≤ 12) {x : Int32} (hc : D 171 1 = nI c) (h8 : c ≤ 8) (hne : ∀ yy rs, (vPasses n (D 172) x : Out) = .inl (yy, rs) → ¬ yy = 0) (h : OutE (vPasses n (D 172) x) D c Q) : Ct (d + 7) 156 [.ref 171, .int x] D Q := by
  refine ent m156 rfl rfl (ls := [.ref 171, .int x]) rfl ?_
  refine w_ald0 i156_0 ?_
  refine w_vV1 i156_1 c112 (Or.inl rfl) ⟨by decide +kernel, by decide⟩ rfl ⟨rfl, Nat.le_of_ble_eq_true rfl⟩ T_begins ?_
  refine w_ald0 i156_4 ?_
  refine w_ald0 i156_5 ?_
  refine w_ild1 i156_6 ?_
  refine w_vG2 i156_7 c155 (Or.inl rfl) ⟨by decide +kernel, by decide⟩ rfl ⟨rfl, Nat.le_of_ble_eq_true rfl⟩ ?_
  refine T_passes (V := D 172) mBeg172 hn h12 (OutMr (ends_lem (d := d + 4) (Q := fun r2 D2 => Wp (d + 6) 156 Q (10 + 3) [.ref 171, .int x] (r2.toList ++ []) D2) hc h8 hne (OutEr h (fun a D2 hq => w_ri i156_13 r156 hq))) (fun a D2 hq => w_vG2 i156_10 c113 (Or.inl rfl) ⟨by decide +kernel, by decide⟩ rfl ⟨rfl, Nat.le_of_ble_eq_true rfl⟩ (hq a rfl)))
