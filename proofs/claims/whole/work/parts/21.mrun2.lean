/-! the reference, run -/
def mRO (D : Mm) (i b w l z : Int32) : Mm := mup (mup (mup (mup (mRef D (nI 16) i) 171 4 b) 171 5 w) 171 6 l) 171 7 z
theorem pRun_w2 {U : Nat → Nat} {e : Nat} : ∀ k p, (pRun U e k p).2.1 < 2 := by
  intro k
  induction k with
  | zero => intro p; exact (by decide : 1 < 2)
  | succ k ih =>
    intro p
    by_cases h : (pOrd U e p).2.1 = 0
    · rw [pRun_o h]
      unfold pRest
      dsimp only
      split
      · exact (by decide : 0 < 2)
      · split
        · exact ih _
        · exact (by decide : 1 < 2)
    · rw [pRun_w h]; exact (by decide : 1 < 2)
def RsM (F : Nat → Int32) (rs : List (Int32 × Int32)) : Prop := match rs with
  | [] => F 2 = nI 0 ∧ F 4 = nI 0 ∧ F 6 = nI 0
  | [(a, b)] => F 2 = a ∧ F 3 = b ∧ F 4 = nI 0 ∧ F 6 = nI 0
  | [(a, b), (u, v)] => F 2 = a ∧ F 3 = b ∧ F 4 = u ∧ F 5 = v ∧ F 6 = nI 0
  | (a, b) :: (u, v) :: (y, z) :: _ => F 2 = a ∧ F 3 = b ∧ F 4 = u ∧ F 5 = v ∧ F 6 = y ∧ F 7 = z
set_option maxHeartbeats 100000 in
theorem T_refO_t {d : Nat} {D : Mm} {i : Int32} (hf : D 171 0 = -1014) : Ct (d + 3) 176 [.ref 171, .int i] D (Ex (some (.int (-1014))) (mRO D i (D 171 2) (D 171 3) (D 171 4) (D 171 5))) := by
  refine ent m176 rfl rfl (ls := [.ref 171, .int i, .retAddr 0, .retAddr 0, .retAddr 0, .retAddr 0, .retAddr 0, .retAddr 0]) rfl ?_
  refine w_ald0 i176_0 ?_
  refine w_gfI i176_1 (by decide) s_171 rfl rfl ?_
  refine w_sip i176_4 ks_m1014 ?_
  refine w_cneF i176_7  hf ?_
  refine w_const i176_10 kc_1 ?_
  refine w_goto i176_11 g176_11 ?_
  refine w_ist2 i176_15 ?_
  refine w_ild2 i176_16 ?_
  refine w_ieqNF i176_17 (by omega) (by omega) ?_
  refine w_ald0 i176_20 ?_
  refine w_gfI i176_21 (by decide) s_171 rfl rfl ?_
  refine w_goto i176_24 g176_24 ?_
  refine w_ist3 i176_28 ?_
  refine w_ald0 i176_29 ?_
  refine w_gfI i176_30 (by decide) s_171 rfl rfl ?_
  refine w_ist4 i176_33 ?_
  refine w_ild2 i176_35 ?_
  refine w_ieqNF i176_36 (by omega) (by omega) ?_
  refine w_ald0 i176_39 ?_
  refine w_gfI i176_40 (by decide) s_171 rfl rfl ?_
  refine w_goto i176_43 g176_43 ?_
  refine w_ist5 i176_47 ?_
  refine w_ald0 i176_49 ?_
  refine w_gfI i176_50 (by decide) s_171 rfl rfl ?_
  refine w_ist6 i176_53 ?_
  refine w_ald0 i176_55 ?_
  refine w_bip i176_56 kb_16 ?_
  refine w_ild1 i176_58 ?_
  refine w_vI3 i176_59 c109 (Or.inl rfl) ⟨by decide +kernel, by decide⟩ rfl ⟨rfl, Nat.le_of_ble_eq_true rfl⟩ T_refuses ?_
  refine w_ist7 i176_62 ?_
  refine w_ald0 i176_64 ?_
  refine w_ild3 i176_65 ?_
  refine w_pf0 i176_66 (by decide) s_171 rfl ?_
  refine w_ald0 i176_69 ?_
  refine w_ild4 i176_70 ?_
  refine w_pf0 i176_72 (by decide) s_171 rfl ?_
  refine w_ald0 i176_75 ?_
  refine w_ild5 i176_76 ?_
  refine w_pf0 i176_78 (by decide) s_171 rfl ?_
  refine w_ald0 i176_81 ?_
  refine w_ild6 i176_82 ?_
  refine w_pf0 i176_84 (by decide) s_171 rfl ?_
  refine w_ild7 i176_87 ?_
  refine w_ri i176_89 r176 ?_
  exact ⟨rfl, rfl⟩
set_option maxHeartbeats 100000 in
theorem T_refO_f {d : Nat} {D : Mm} {i : Int32} (hf : ¬ D 171 0 = -1014) : Ct (d + 3) 176 [.ref 171, .int i] D (Ex (some (.int (-1014))) (mRO D i (nI 0) (D 171 3) (nI 0) (D 171 5))) := by
  refine ent m176 rfl rfl (ls := [.ref 171, .int i, .retAddr 0, .retAddr 0, .retAddr 0, .retAddr 0, .retAddr 0, .retAddr 0]) rfl ?_
  refine w_ald0 i176_0 ?_
  refine w_gfI i176_1 (by decide) s_171 rfl rfl ?_
  refine w_sip i176_4 ks_m1014 ?_
  refine w_cneT i176_7 g176_7  hf ?_
  refine w_const i176_14 kc_0 ?_
  refine w_ist2 i176_15 ?_
  refine w_ild2 i176_16 ?_
  refine w_ieqNT i176_17 g176_17 (by omega) (by omega) ?_
  refine w_const i176_27 kc_0 ?_
  refine w_ist3 i176_28 ?_
  refine w_ald0 i176_29 ?_
  refine w_gfI i176_30 (by decide) s_171 rfl rfl ?_
  refine w_ist4 i176_33 ?_
  refine w_ild2 i176_35 ?_
  refine w_ieqNT i176_36 g176_36 (by omega) (by omega) ?_
  refine w_const i176_46 kc_0 ?_
  refine w_ist5 i176_47 ?_
  refine w_ald0 i176_49 ?_
  refine w_gfI i176_50 (by decide) s_171 rfl rfl ?_
  refine w_ist6 i176_53 ?_
  refine w_ald0 i176_55 ?_
  refine w_bip i176_56 kb_16 ?_
  refine w_ild1 i176_58 ?_
  refine w_vI3 i176_59 c109 (Or.inl rfl) ⟨by decide +kernel, by decide⟩ rfl ⟨rfl, Nat.le_of_ble_eq_true rfl⟩ T_refuses ?_
  refine w_ist7 i176_62 ?_
  refine w_ald0 i176_64 ?_
  refine w_ild3 i176_65 ?_
  refine w_pf0 i176_66 (by decide) s_171 rfl ?_
  refine w_ald0 i176_69 ?_
  refine w_ild4 i176_70 ?_
  refine w_pf0 i176_72 (by decide) s_171 rfl ?_
  refine w_ald0 i176_75 ?_
  refine w_ild5 i176_76 ?_
  refine w_pf0 i176_78 (by decide) s_171 rfl ?_
  refine w_ald0 i176_81 ?_
  refine w_ild6 i176_82 ?_
  refine w_pf0 i176_84 (by decide) s_171 rfl ?_
  refine w_ild7 i176_87 ?_
  refine w_ri i176_89 r176 ?_
  exact ⟨rfl, rfl⟩
theorem fF_1 {F : Nat → Int32} {x : Int32} {rs : List (Int32 × Int32)} : fF F x rs 1 = F 1 := by
  rcases rs with _ | ⟨⟨a, b⟩, _ | ⟨⟨u, v⟩, t⟩⟩ <;> rfl
theorem runO_ok : ∀ (os : List (Nat × Nat × Nat × Nat)) (n : Nat) (V : Nat → Int32) (i : Nat) (x : Int32) (rs : List (Int32 × Int32)), runO os n V = .inl (i, x, rs) → okF (.inl (x, rs)) := by
  intro os
  induction os with
  | nil => intro n V i x rs h; cases h
  | cons o os ih =>
    intro n V i x rs h
    cases hO : oOp V o with
    | inl w =>
      obtain ⟨y, qs⟩ := w
      rw [runO_l hO] at h
      cases h
      rw [← hO]; exact okF_Do
    | inr w =>
      obtain ⟨a, V2⟩ := w
      rw [runO_r hO] at h
      exact ih _ _ _ _ _ h
set_option maxHeartbeats 100000 in
theorem P_run {d : Nat} {D : Mm} {Q : Option Value → Mm → Prop} {U : Nat → Nat} {e c : Nat} (ht : D 171 19 = nI e) (h60 : e ≤ 60) (hU : ∀ i, i < e → D 179 i = nI (U i)) (hU2 : ∀ i, i < e → 32 ≤ U i ∧ U i ≤ 126) (hc : D 171 1 = nI c) (h8 : c ≤ 8) (hA : hAll (pRun U e 61 0).2.2 (D 172))
    (hw : ¬ (pRun U e 61 0).2.1 = 0 → ∀ D2 : Mm, (∀ j, j ≠ 0 → j ≠ 19 → j ≠ 20 → j ≠ 21 → j ≠ 23 → j ≠ 24 → D2 171 j = D 171 j) → D2 171 19 = nI 0 → (∀ q, q ≠ 171 → q ≠ 173 → D2 q = D q) → Q (some (.int (-2000 - nI (pRun U e 61 0).1))) D2)
    (hf : (pRun U e 61 0).2.1 = 0 → ∀ i x rs, runO (pRun U e 61 0).2.2 0 (D 172) = .inl (i, x, rs) → ∀ D2 : Mm, RsM (D2 171) ((nI 16, nI i) :: rs) → (∀ j, 7 < j → j ≠ 16 → j ≠ 19 → j ≠ 20 → j ≠ 21 → j ≠ 23 → j ≠ 24 → D2 171 j = D 171 j) → D2 171 1 = D 171 1 → D2 171 19 = nI 0 → (∀ j, j < 126 → D2 172 j = D 172 j) → (∀ q, q ≠ 171 → q ≠ 172 → q ≠ 173 → q ≠ 177 → q ≠ 178 → D2 q = D q) → Q (some (.int (-1014))) D2)
    (hs : (pRun U e 61 0).2.1 = 0 → ∀ i V2, runO (pRun U e 61 0).2.2 0 (D 172) = .inr (i, V2) → ∀ D2 : Mm, D2 172 = V2 → PstE (D 176) (D 172) (D2 176) c → D2 171 1 = nI (min (c + 1) 8) → D2 171 19 = nI 0 → (∀ j, j ≠ 0 → j ≠ 1 → j ≠ 16 → j ≠ 19 → j ≠ 20 → j ≠ 21 → j ≠ 23 → j ≠ 24 → D2 171 j = D 171 j) → (∀ q, q ≠ 171 → q ≠ 172 → q ≠ 173 → q ≠ 176 → q ≠ 177 → q ≠ 178 → D2 q = D q) → Q (some (.int (nI i))) D2) : Ct (d + 11) 177 [.ref 171] D Q := by
  have b171 : mBeg D 171 = vup (D 171) 0 (nI 0) := by
    funext j
    show cpy _ 173 172 126 171 j = _
    unfold cpy
    rw [if_neg (by decide), mupU]
  have b3 : ∀ j, j < 126 → mBeg D 173 j = D 172 j := by
    intro j hj
    show cpy _ 173 172 126 173 j = _
    unfold cpy
    rw [if_pos rfl, if_pos hj, mupF (by decide)]
  have bq : ∀ q, q ≠ 171 → q ≠ 173 → mBeg D q = D q := by
    intro q h1 h2
    funext j
    show cpy _ 173 172 126 q j = _
    unfold cpy
    rw [if_neg h2, mupF h1]
  have hj : ∀ j, j ≠ 0 → mBeg D 171 j = D 171 j := by intro j h; rw [b171]; exact updJ h
  have h00 : mBeg D 171 0 = nI 0 := by rw [b171]; exact updE
  refine ent m177 rfl rfl (ls := [.ref 171, .retAddr 0]) rfl ?_
  refine w_ald0 i177_0 ?_
  refine w_vV1 i177_1 c112 (Or.inl rfl) ⟨by decide +kernel, by decide⟩ rfl ⟨rfl, Nat.le_of_ble_eq_true rfl⟩ T_begins ?_
  refine w_ald0 i177_4 ?_
  refine w_ald0 i177_5 ?_
  refine w_gfI i177_6 (by decide) s_171 rfl ((hj 19 (by decide)).trans ht) ?_
  refine w_pf0 i177_9 (by decide) s_171 rfl ?_
  refine w_ald0 i177_12 ?_
  refine w_const i177_13 kc_0 ?_
  refine w_pf0 i177_14 (by decide) s_171 rfl ?_
  refine w_ald0 i177_17 ?_
  refine w_const i177_18 kc_0 ?_
  refine w_pf1 i177_19 (by decide) s_171 rfl (Or.inl nI_0) ?_
  have tx4 : TXt (mup (mup (mup (mBeg D) 171 21 (nI e)) 171 19 (nI 0)) 171 24 (nI 0)) U e := ⟨(mupJ (by decide)).trans ((mupJ (by decide)).trans mupE), h60, fun i hi => by rw [mupF (by decide), mupF (by decide), mupF (by decide), bq 179 (by decide) (by decide)]; exact hU i hi, hU2⟩
  have z40 : (mup (mup (mup (mBeg D) 171 21 (nI e)) 171 19 (nI 0)) 171 24 (nI 0)) 171 0 = nI 0 := by rw [mupJ (by decide), mupJ (by decide), mupJ (by decide)]; exact h00
  refine w_ald0 i177_22 ?_
  refine w_vG1 i177_23 c175 (Or.inl rfl) ⟨by decide +kernel, by decide⟩ rfl ⟨rfl, Nat.le_of_ble_eq_true rfl⟩ ?_
  refine T_orders1 tx4 z40 mupE (fun D5 g5 f5 m => ?_)
  refine w_ist1 i177_26 ?_
  refine w_ald0 i177_27 ?_
  refine w_gfI i177_28 (by decide) s_171 rfl g5.2.2.2.2.2.2 ?_
  have w2 := pRun_w2 (U := U) (e := e) 61 0
  refine w_ieqN i177_31 g177_31 (by omega) (fun h31 => ?_) (fun h31 => ?_)
  · skip
    refine w_ald0 i177_43 ?_
    refine w_const i177_44 kc_1 ?_
    refine w_pf1 i177_45 (by decide) s_171 rfl (Or.inr rfl) ?_
    have tx6 : TXt (mup D5 171 24 (nI 1)) U e := ⟨(mupJ (by decide)).trans g5.2.1, h60, fun i hi => by rw [mupF (by decide)]; exact g5.2.2.2.2.1 i hi, hU2⟩
    have z60 : mup D5 171 24 (nI 1) 171 0 = nI 0 := (mupJ (by decide)).trans ((f5.1 0 (by decide) (by decide)).trans z40)
    have e172 : mup D5 171 24 (nI 1) 172 = D 172 := by rw [mupF (by decide), f5.2 172 (by decide), mupF (by decide), mupF (by decide), mupF (by decide), bq 172 (by decide) (by decide)]
    refine w_ald0 i177_48 ?_
    refine w_vG1 i177_49 c175 (Or.inl rfl) ⟨by decide +kernel, by decide⟩ rfl ⟨rfl, Nat.le_of_ble_eq_true rfl⟩ ?_
    have w0 := h31
    refine T_orders2 (pe := (pRun U e 61 0).1) (os := (pRun U e 61 0).2.2) tx6 z60 mupE (Prod.ext rfl (Prod.ext w0 rfl)) (by rw [e172]; exact hA) ?_
    rw [e172]
    cases hO : runO (pRun U e 61 0).2.2 0 (D 172) with
    | inl w =>
      obtain ⟨i, x, rs⟩ := w
      intro D7 k1 k2 k3
      have hok := runO_ok _ _ _ _ _ _ hO
      refine w_ist1 i177_52 ?_
      refine w_ald0 i177_53 ?_
      refine w_ald0 i177_54 ?_
      refine w_gfI i177_55 (by decide) s_171 rfl rfl ?_
      refine w_ineT i177_58 g177_58 (by rw [k3]; exact okF_ne hok _ _ rfl) ?_
      refine w_ald0 i177_65 ?_
      refine w_ild1 i177_66 ?_
      refine w_const i177_67 kc_1 ?_
      refine w_isub i177_68 ((nI_sub (Nat.le_add_left 1 i)).trans (congrArg nI (Nat.add_sub_cancel i 1))) ?_
      have j7 : ∀ j, j ≠ 16 → j ≠ 20 → j ≠ 23 → D7 171 j = fF (mup D5 171 24 (nI 1) 171) x rs j := k1
      have fin : ∀ b l, RsM (mRO D7 (nI i) b (D7 171 3) l (D7 171 5) 171) ((nI 16, nI i) :: rs) → Wp (d + 10) 177 Q (69 + 3) [.ref 171, .int (nI (i + 1))] [.int (-1014), .ref 171] (mRO D7 (nI i) b (D7 171 3) l (D7 171 5)) := by
        intro b l hR
        have r0 : mRO D7 (nI i) b (D7 171 3) l (D7 171 5) 171 0 = -1014 := by
          unfold mRO mRef
          rw [mupJ (by decide), mupJ (by decide), mupJ (by decide), mupJ (by decide), mupE]
        refine w_vG2 i177_72 c113 (Or.inl rfl) ⟨by decide +kernel, by decide⟩ rfl ⟨rfl, Nat.le_of_ble_eq_true rfl⟩ ?_
        refine Ct_exq (T_ends_f (by rw [r0]; decide)) ?_
        rw [r0]
        refine w_ri i177_75 r177 ?_
        have m171 : ∀ j, j ≠ 0 → j ≠ 2 → j ≠ 3 → j ≠ 4 → j ≠ 5 → j ≠ 6 → j ≠ 7 → mRO D7 (nI i) b (D7 171 3) l (D7 171 5) 171 j = D7 171 j := by
          intro j a0 a2 a3 a4 a5 a6 a7
          unfold mRO mRef
          rw [mupJ a7, mupJ a6, mupJ a5, mupJ a4, mupJ a0, mupJ a6, mupJ a4, mupJ a3, mupJ a2]
        have mq : ∀ q, q ≠ 171 → mRO D7 (nI i) b (D7 171 3) l (D7 171 5) q = D7 q := by
          intro q hq
          unfold mRO mRef
          rw [mupF hq, mupF hq, mupF hq, mupF hq, mupF hq, mupF hq, mupF hq, mupF hq, mupF hq]
        have m7 : ∀ j, 7 < j → j ≠ 16 → j ≠ 20 → j ≠ 23 → mRO D7 (nI i) b (D7 171 3) l (D7 171 5) 171 j = mup D5 171 24 (nI 1) 171 j := by
          intro j h7 h16 h20 h23
          rw [m171 j (by omega) (by omega) (by omega) (by omega) (by omega) (by omega) (by omega), j7 j h16 h20 h23, fF_hi (by omega)]
        have m1 : mRO D7 (nI i) b (D7 171 3) l (D7 171 5) 171 1 = D 171 1 := by
          rw [m171 1 (by decide) (by decide) (by decide) (by decide) (by decide) (by decide) (by decide), j7 1 (by decide) (by decide) (by decide)]
          have : fF (mup D5 171 24 (nI 1) 171) x rs 1 = mup D5 171 24 (nI 1) 171 1 := fF_1
          rw [this, mupJ (by decide), f5.1 1 (by decide) (by decide), mupJ (by decide), mupJ (by decide), mupJ (by decide), hj 1 (by decide)]
        refine hf w0 i x rs hO _ ?_ (fun j a b2 c1 c2 c3 c4 c5 => ?_) ?_ ?_ (fun j hj2 => ?_) (fun q a1 a2 a3 a4 a5 => ?_)
        · rw [cpyF (by decide)]; exact hR
        · rw [cpyF (by decide), m7 j a b2 c2 c4, mupJ c5, f5.1 j c2 c4, mupJ c5, mupJ c1, mupJ c3, hj j (by omega)]
        · rw [cpyF (by decide)]; exact m1
        · rw [cpyF (by decide), m7 19 (by decide) (by decide) (by decide) (by decide), mupJ (by decide), f5.1 19 (by decide) (by decide), mupJ (by decide), mupE]
        · unfold cpy
          rw [if_pos rfl, if_pos hj2, mq 173 (by decide), k2 173 (by decide) (by decide) (by decide) (by decide), mupF (by decide), f5.2 173 (by decide), mupF (by decide), mupF (by decide), mupF (by decide), b3 j hj2]
        · rw [cpyF a2, mq q a1, k2 q a1 a2 a4 a5, mupF a1, f5.2 q a1, mupF a1, mupF a1, mupF a1, bq q a1 a3]
      have F0 : ∀ j, j ≠ 16 → j ≠ 20 → j ≠ 23 → ∀ b l z1 z2, mRO D7 (nI i) b z1 l z2 171 2 = nI 16 ∧ mRO D7 (nI i) b z1 l z2 171 3 = nI i ∧ mRO D7 (nI i) b z1 l z2 171 4 = b ∧ mRO D7 (nI i) b z1 l z2 171 5 = z1 ∧ mRO D7 (nI i) b z1 l z2 171 6 = l ∧ mRO D7 (nI i) b z1 l z2 171 7 = z2 := by
        intro j _ _ _ b l z1 z2
        unfold mRO mRef
        refine ⟨?_, ?_, ?_, ?_, ?_, ?_⟩
        · rw [mupJ (by decide), mupJ (by decide), mupJ (by decide), mupJ (by decide), mupJ (by decide), mupJ (by decide), mupJ (by decide), mupJ (by decide), mupE]
        · rw [mupJ (by decide), mupJ (by decide), mupJ (by decide), mupJ (by decide), mupJ (by decide), mupJ (by decide), mupJ (by decide), mupE]
        · rw [mupJ (by decide), mupJ (by decide), mupJ (by decide), mupE]
        · rw [mupJ (by decide), mupJ (by decide), mupE]
        · rw [mupJ (by decide), mupE]
        · rw [mupE]
      rcases hok with ⟨e1, e2⟩ | ⟨e1, e2⟩
      · have n14 : ¬ D7 171 0 = -1014 := by rw [k3]; rcases e2 with e2 | e2 <;> (rw [e2]; decide)
        refine w_vI2 i177_69 c176 (Or.inl rfl) ⟨by decide +kernel, by decide⟩ rfl ⟨rfl, Nat.le_of_ble_eq_true rfl⟩ (T_refO_f n14) ?_
        refine fin _ _ ?_
        obtain ⟨p2, p3, p4, p5, p6, p7⟩ := F0 0 (by decide) (by decide) (by decide) (nI 0) (nI 0) (D7 171 3) (D7 171 5)
        rw [e1]
        exact ⟨p2, p3, p4, p6⟩
      · have n14 : D7 171 0 = -1014 := by rw [k3, e1]
        refine w_vI2 i177_69 c176 (Or.inl rfl) ⟨by decide +kernel, by decide⟩ rfl ⟨rfl, Nat.le_of_ble_eq_true rfl⟩ (T_refO_t n14) ?_
        refine fin _ _ ?_
        obtain ⟨p2, p3, p4, p5, p6, p7⟩ := F0 0 (by decide) (by decide) (by decide) (D7 171 2) (D7 171 4) (D7 171 3) (D7 171 5)
        rcases e2 with ⟨a, b, e2, _⟩ | ⟨a, b, u, v, e2, _, _⟩
        · subst e2
          refine ⟨p2, p3, p4.trans ?_, p5.trans ?_, p6.trans ?_⟩
          · rw [j7 2 (by decide) (by decide) (by decide)]; rfl
          · rw [j7 3 (by decide) (by decide) (by decide)]; rfl
          · rw [j7 4 (by decide) (by decide) (by decide)]; rfl
        · subst e2
          refine ⟨p2, p3, p4.trans ?_, p5.trans ?_, p6.trans ?_, p7.trans ?_⟩
          · rw [j7 2 (by decide) (by decide) (by decide)]; rfl
          · rw [j7 3 (by decide) (by decide) (by decide)]; rfl
          · rw [j7 4 (by decide) (by decide) (by decide)]; rfl
          · rw [j7 5 (by decide) (by decide) (by decide)]; rfl
    | inr w =>
      obtain ⟨i, V2⟩ := w
      intro D7 k1 k2
      have z70 : D7 171 0 = nI 0 := (k1.1 0 (by decide) (by decide) (by decide)).trans z60
      refine w_ist1 i177_52 ?_
      refine w_ald0 i177_53 ?_
      refine w_ald0 i177_54 ?_
      refine w_gfI i177_55 (by decide) s_171 rfl z70 ?_
      refine w_ineNF i177_58 (by decide) (by decide) ?_
      refine w_ild1 i177_61 ?_
      refine w_goto i177_62 g177_62 ?_
      refine w_vG2 i177_72 c113 (Or.inl rfl) ⟨by decide +kernel, by decide⟩ rfl ⟨rfl, Nat.le_of_ble_eq_true rfl⟩ ?_
      have q1 : D7 171 1 = nI c := by rw [k1.1 1 (by decide) (by decide) (by decide), mupJ (by decide), f5.1 1 (by decide) (by decide), mupJ (by decide), mupJ (by decide), mupJ (by decide), hj 1 (by decide)]; exact hc
      have q6 : D7 176 = D 176 := by rw [k1.2 176 (by decide) (by decide) (by decide) (by decide), mupF (by decide), f5.2 176 (by decide), mupF (by decide), mupF (by decide), mupF (by decide), bq 176 (by decide) (by decide)]
      have q3 : ∀ k, k < 126 → D7 173 k = D 172 k := by
        intro k hk
        rw [k1.2 173 (by decide) (by decide) (by decide) (by decide), mupF (by decide), f5.2 173 (by decide), mupF (by decide), mupF (by decide), mupF (by decide)]; exact b3 k hk
      refine T_ends_ok (c := c) z70 q1 h8 (fun D8 l1 l2 l3 l4 => ?_)
      refine w_ri i177_75 r177 ?_
      refine hs w0 i V2 hO D8 ?_ (by rw [q6] at l1; exact PstE_ag l1 q3) l2 ?_ (fun j a0 a1 a2 a3 a4 a5 a6 a7 => ?_) (fun q a1 a2 a3 a4 a5 a6 => ?_)
      · rw [l4 172 (by decide) (by decide)]; exact k2
      · rw [l3 19 (by decide), k1.1 19 (by decide) (by decide) (by decide), mupJ (by decide), f5.1 19 (by decide) (by decide), mupJ (by decide), mupE]
      · rw [l3 j a1, k1.1 j a2 a4 a6, mupJ a7, f5.1 j a4 a6, mupJ a7, mupJ a3, mupJ a5, hj j a0]
      · rw [l4 q a1 a4, k1.2 q a1 a2 a5 a6, mupF a1, f5.2 q a1, mupF a1, mupF a1, mupF a1, bq q a1 a3]
  · skip
    refine w_sip i177_34 ks_m2000 ?_
    refine w_ald0 i177_37 ?_
    refine w_gfI i177_38 (by decide) s_171 rfl g5.1 ?_
    refine w_isub i177_41 rfl ?_
    refine w_ri i177_42 r177 ?_
    refine hw h31 D5 (fun j a0 a1 a2 a3 a4 a5 => ?_) ?_ (fun q a b => ?_)
    · rw [f5.1 j a2 a4, mupJ a5, mupJ a1, mupJ a3, hj j a0]
    · rw [f5.1 19 (by decide) (by decide), mupJ (by decide), mupE]
    · rw [f5.2 q a, mupF a, mupF a, mupF a, bq q a b]
