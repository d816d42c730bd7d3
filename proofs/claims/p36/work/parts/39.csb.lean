/-! the text builders -/
/-- a text builder: its signs -/
def SbR (D : Mm) (o : Nat) (ln : List Nat) : Prop := D o 1 = nI 0 ∧ D o 3 = nI ln.length ∧ ln.length ≤ cap D (o + 12) ∧ cap D (o + 12) ≤ 300 ∧ (∀ i, i < ln.length → D (o + 12) i = nI (ln.getD i 0)) ∧ (∀ c, c ∈ ln → c < 128) ∧ (∀ j, j < cap D (o + 12) → fits .byte (.int (D (o + 12) j)) = true)
def FrB (o : Nat) (D D2 : Mm) : Prop := ∀ q, q ≠ o → q ≠ o + 12 → D2 q = D q
theorem FrB.rf {o : Nat} {D : Mm} : FrB o D D := fun _ _ _ => rfl
theorem FrB.tr {o : Nat} {D D2 D3 : Mm} (h : FrB o D D2) (g : FrB o D2 D3) : FrB o D D3 := fun q a b => (g q a b).trans (h q a b)
theorem grow_sb {D : Mm} {o n : Nat} {ln : List Nat} (h : SbR D o ln) (ho : o = 169 ∨ o = 170) (hn : n ≤ 145) : SbR (growD D (o + 12) n) o ln ∧ n ≤ cap (growD D (o + 12) n) (o + 12) ∧ ∀ q, q ≠ o + 12 → growD D (o + 12) n q = D q := by
  obtain ⟨a1, a2, a3, a4, a5, a6, a7⟩ := h
  unfold growD
  by_cases g : n ≤ cap D (o + 12)
  · rw [if_pos g]
    exact ⟨⟨a1, a2, a3, a4, a5, a6, a7⟩, g, fun _ _ => rfl⟩
  · rw [if_neg g]
    have s1 : sb_cap n (cap D (o + 12)) ≤ 300 := by unfold sb_cap; rw [if_neg g]; split <;> omega
    have s2 := sb_cap_ge n (cap D (o + 12))
    have s3 := sb_cap_gem n (cap D (o + 12))
    have hc : cap (fun c j => if c = o + 12 then (if j = LEN then Int32.ofNat (sb_cap n (cap D (o + 12))) else if j < cap D (o + 12) then D (o + 12) j else 0) else D c j) (o + 12) = sb_cap n (cap D (o + 12)) := by
      show ((if o + 12 = o + 12 then (if LEN = LEN then Int32.ofNat (sb_cap n (cap D (o + 12))) else _) else _) : Int32).toNatClampNeg = _
      rw [if_pos rfl, if_pos rfl]
      exact nI_clamp (by omega)
    have hL : LEN = 1000000 := rfl
    have hne : ¬ o = o + 12 := by omega
    have hx : ∀ j, j < 300 → (if o + 12 = o + 12 then (if j = LEN then Int32.ofNat (sb_cap n (cap D (o + 12))) else if j < cap D (o + 12) then D (o + 12) j else 0) else D (o + 12) j) = if j < cap D (o + 12) then D (o + 12) j else 0 := by
      intro j hj
      rw [if_pos rfl, if_neg (by omega)]
    refine ⟨⟨?_, ?_, ?_, ?_, ?_, a6, ?_⟩, ?_, ?_⟩
    · show (if o = o + 12 then _ else D o 1) = _
      rw [if_neg hne]; exact a1
    · show (if o = o + 12 then _ else D o 3) = _
      rw [if_neg hne]; exact a2
    · rw [hc]; omega
    · rw [hc]; exact s1
    · intro i hi
      refine (hx i (by omega)).trans ?_
      rw [if_pos (by omega)]; exact a5 i hi
    · intro j hj
      rw [hc] at hj
      have e := hx j (by omega)
      show fits .byte (.int (if o + 12 = o + 12 then (if j = LEN then Int32.ofNat (sb_cap n (cap D (o + 12))) else if j < cap D (o + 12) then D (o + 12) j else 0) else D (o + 12) j)) = true
      rw [e]
      by_cases g2 : j < cap D (o + 12)
      · rw [if_pos g2]; exact a7 j g2
      · rw [if_neg g2]; decide
    · rw [hc]; exact s2
    · intro q hq
      funext j
      show (if q = o + 12 then _ else D q j) = _
      rw [if_neg hq]
theorem K_ens {d : Nat} {D : Mm} {o n : Nat} {ln : List Nat} (h : SbR D o ln) (ho : o = 169 ∨ o = 170) (hn : n ≤ 145) : Ct (d + 5) 217 [.ref o, .int (nI n)] D (Ex none (growD D (o + 12) n)) := by
  unfold Ct
  rw [if_pos (show (217 : Nat) = ensK ∧ dyB [Value.ref o, Value.int (nI n)] = false from ⟨rfl, by rcases ho with rfl | rfl <;> rfl⟩)]
  obtain ⟨a1, a2, a3, a4, a5, a6, a7⟩ := h
  have e : (nI n).toInt = n := nI_toInt (by omega)
  refine ⟨by omega, ho, a1.trans nI_0, by omega, by omega, by omega, a7, ?_⟩
  rw [e]
  exact ⟨rfl, rfl⟩
theorem i2b_t : ∀ c, c < 128 → (nI c).toInt8.toInt32 = nI c := by decide +kernel
theorem narb_t : ∀ c, c < 128 → vp_nar .byte (nI c) = nI c := by decide +kernel
theorem fitb_t : ∀ c, c < 128 → fits .byte (.int (nI c)) = true := by decide +kernel
theorem and255 : ∀ c, c < 128 → nI c &&& nI 255 = nI c := by decide +kernel
theorem i2c_t : ∀ c, c < 128 → ((nI c).toUInt32 % 65536).toInt32 = nI c := by decide +kernel
theorem narc_t : ∀ c, c < 128 → narrow .char (.int (nI c)) = .int (nI c) := by decide +kernel
theorem cap_mup2 {D : Mm} {q c j : Nat} {x : Int32} (h : q ≠ c ∨ j ≠ LEN) : cap (mup D c j x) q = cap D q := by
  unfold cap mup
  by_cases e : q = c
  · rw [if_pos e, if_neg (fun z => h.elim (fun g => g e) (fun g => g z.symm))]
  · rw [if_neg e]
theorem getD_lt {ln : List Nat} {i : Nat} (h : ∀ c, c ∈ ln → c < 128) (hi : i < ln.length) : ln.getD i 0 < 128 := by
  have e : ln.getD i 0 = ln[i] := by
    show (ln[i]?).getD 0 = ln[i]
    rw [List.getElem?_eq_getElem hi]; rfl
  rw [e]
  exact h _ (List.getElem_mem hi)
theorem SbR.len {D : Mm} {o : Nat} {ln : List Nat} (h : SbR D o ln) : D o 3 = nI ln.length := h.2.1
theorem SbR.cod {D : Mm} {o : Nat} {ln : List Nat} (h : SbR D o ln) : D o 1 = nI 0 := h.1
theorem SbR.fr {D D2 : Mm} {o : Nat} {ln : List Nat} (h : SbR D o ln) (f1 : D2 o = D o) (f2 : D2 (o + 12) = D (o + 12)) : SbR D2 o ln := by
  unfold SbR cap at h ⊢
  rw [f1, f2]; exact h
/-- one more sign -/
theorem SbR.app {D : Mm} {o c : Nat} {ln : List Nat} (h : SbR D o ln) (hc : c < 128) (hr : ln.length + 1 ≤ cap D (o + 12)) : SbR (mup (mup D o 3 (nI (ln.length + 1))) (o + 12) ln.length (vp_nar .byte (nI c))) o (ln ++ [c]) := by
  obtain ⟨a1, a2, a3, a4, a5, a6, a7⟩ := h
  have hL : LEN = 1000000 := rfl
  have ec : cap (mup (mup D o 3 (nI (ln.length + 1))) (o + 12) ln.length (vp_nar .byte (nI c))) (o + 12) = cap D (o + 12) := (cap_mup2 (Or.inr (by omega))).trans (cap_mup2 (Or.inl (by omega)))
  refine ⟨?_, ?_, ?_, ?_, ?_, ?_, ?_⟩
  · exact Eq.trans (mupC (by omega)) (Eq.trans (mupJ (by decide)) a1)
  · rw [List.length_append]
    exact Eq.trans (mupC (by omega)) mupE
  · rw [ec, List.length_append]; exact hr
  · rw [ec]; exact a4
  · intro i hi
    rw [List.length_append] at hi
    have hi2 : i < ln.length + 1 := hi
    rw [getD_app]
    by_cases e : i = ln.length
    · rw [if_pos e, e]
      exact Eq.trans mupE (narb_t c hc)
    · rw [if_neg e]
      exact Eq.trans (mupJ e) (Eq.trans (mupC (by omega)) (a5 i (by omega)))
  · intro x hx
    rcases List.mem_append.mp hx with z | z
    · exact a6 x z
    · rw [List.mem_singleton.mp z]; exact hc
  · intro j hj
    rw [ec] at hj
    by_cases e : j = ln.length
    · rw [e, show mup (mup D o 3 (nI (ln.length + 1))) (o + 12) ln.length (vp_nar .byte (nI c)) (o + 12) ln.length = nI c from Eq.trans mupE (narb_t c hc)]
      exact fitb_t c hc
    · rw [show mup (mup D o 3 (nI (ln.length + 1))) (o + 12) ln.length (vp_nar .byte (nI c)) (o + 12) j = D (o + 12) j from Eq.trans (mupJ e) (mupC (by omega))]
      exact a7 j hj
set_option maxHeartbeats 100000 in
theorem K_canE {d : Nat} {D : Mm} {c : Nat} (hc : c < 128) : Ct (d + 1) 213 [.int (nI c)] D (Ex (some (.int (nI 1))) D) := by
  refine ent m213 rfl rfl (ls := [.int (nI c)]) rfl ?_
  refine w_ild0 i213_0 ?_
  refine w_sip i213_1 ks_255 ?_
  refine w_cgtNF i213_4 (by omega) (by omega) (by omega) ?_
  refine w_const i213_7 kc_1 ?_
  refine w_goto i213_8 g213_8 ?_
  refine w_rz i213_12 r213 nar_z1 ?_
  exact ⟨rfl, rfl⟩
theorem K_ens_169 {d : Nat} {D : Mm} {n : Nat} {ln : List Nat} (h : SbR D 169 ln) (hn : n ≤ 145) : Ct (d + 5) 217 [.ref 169, .int (nI n)] D (Ex none (growD D 181 n)) := K_ens h (Or.inl rfl) hn
set_option maxHeartbeats 100000 in
theorem K_len0_169 {d : Nat} {D : Mm} {ln : List Nat} (h : SbR D 169 ln) : Ct (d + 1) 194 [.ref 169] D (Ex (some (.int (nI ln.length))) D) := by
  refine ent m194 rfl rfl (ls := [.ref 169]) rfl ?_
  refine w_ald0 i194_0 ?_
  refine w_gfI i194_1 (by decide) s_169 rfl h.len ?_
  refine w_ri i194_4 r194 ?_
  exact ⟨rfl, rfl⟩
set_option maxHeartbeats 100000 in
theorem K_len_169 {d : Nat} {D : Mm} {ln : List Nat} (h : SbR D 169 ln) : Ct (d + 2) 193 [.ref 169] D (Ex (some (.int (nI ln.length))) D) := by
  refine ent m193 rfl rfl (ls := [.ref 169]) rfl ?_
  refine w_ald0 i193_0 ?_
  refine w_pI1 i193_1 c194 rfl ⟨by decide +kernel, by decide⟩ rfl ⟨rfl, Nat.le_of_ble_eq_true rfl⟩ (K_len0_169 h) ?_
  refine w_ri i193_4 r193 ?_
  exact ⟨rfl, rfl⟩
set_option maxHeartbeats 100000 in
theorem K_lat_169 {d : Nat} {D : Mm} (h : D 169 1 = nI 0) : Ct (d + 1) 199 [.ref 169] D (Ex (some (.int (nI 1))) D) := by
  refine ent m199 rfl rfl (ls := [.ref 169]) rfl ?_
  refine w_gst (w := .int (nI 1)) i199_0 rfl ?_
  refine w_ieqNF i199_3 (by omega) (by omega) ?_
  refine w_ald0 i199_6 ?_
  refine w_gfI i199_7 (by decide) s_169 rfl h ?_
  refine w_ineNF i199_10 (by omega) (by omega) ?_
  refine w_const i199_13 kc_1 ?_
  refine w_goto i199_14 g199_14 ?_
  refine w_rz i199_18 r199 nar_z1 ?_
  exact ⟨rfl, rfl⟩
set_option maxHeartbeats 100000 in
theorem K_appC0_169 {d : Nat} {D : Mm} {Q : Option Value → Mm → Prop} {ln : List Nat} (h : SbR D 169 ln) (hl : ln.length < 140) {c : Nat} (hc : c < 128) (hq : ∀ D2, SbR D2 169 (ln ++ [c]) → FrB 169 D D2 → Q (some (.ref 169)) D2) : Ct (d + 6) 197 [.ref 169, .int (nI c)] D Q := by
  refine ent m197 rfl rfl (ls := [.ref 169, .int (nI c)]) rfl ?_
  refine w_ald0 i197_0 ?_
  refine w_ald0 i197_1 ?_
  refine w_gfI i197_2 (by decide) s_169 rfl h.len ?_
  refine w_const i197_5 kc_1 ?_
  refine w_iadd i197_6 (nI_add _ _) ?_
  refine w_vV2 i197_7 c217 (Or.inr rfl) ⟨by decide +kernel, by decide⟩ rfl ⟨rfl, Nat.le_of_ble_eq_true rfl⟩ (K_ens_169 h (by omega)) ?_
  obtain ⟨gS, gC, gF⟩ := grow_sb h (Or.inl rfl) (show ln.length + 1 ≤ 145 by omega)
  have gC : ln.length + 1 ≤ cap (growD D 181 (ln.length + 1)) 181 := gC
  have gF : ∀ q, q ≠ 181 → growD D 181 (ln.length + 1) q = D q := gF
  have g4 : cap (growD D 181 (ln.length + 1)) 181 ≤ 300 := gS.2.2.2.1
  have hLEN : LEN = 1000000 := rfl
  refine w_ald0 i197_10 ?_
  refine w_vI1 i197_11 c199 (Or.inr rfl) ⟨by decide +kernel, by decide⟩ rfl ⟨rfl, Nat.le_of_ble_eq_true rfl⟩ (K_lat_169 gS.cod) ?_
  refine w_ieqNF i197_14 (by omega) (by omega) ?_
  refine w_ild1 i197_17 ?_
  refine w_sI1 i197_18 c213 rfl  rfl ⟨rfl, Nat.le_of_ble_eq_true rfl⟩ (K_canE hc) ?_
  refine w_ieqNF i197_21 (by omega) (by omega) ?_
  refine w_ald0 i197_24 ?_
  refine w_gfR i197_25 (by decide) s_169 rfl ?_
  refine w_ald0 i197_28 ?_
  refine w_dup i197_29 rfl ?_
  refine w_gfI i197_30 (by decide) s_169 rfl ((congrFun (gF 169 (by decide)) 3).trans h.len) ?_
  refine w_dup_x1 i197_33 rfl rfl ?_
  refine w_const i197_34 kc_1 ?_
  refine w_iadd i197_35 (nI_add _ _) ?_
  refine w_pf0 i197_36 (by decide) s_169 rfl ?_
  refine w_ild1 i197_39 ?_
  refine w_i2b i197_40 (i2b_t c hc) ?_
  refine w_bas i197_41 (congrArg Prod.fst s_181) (by rw [cap_mup2 (Or.inl (by decide))]; omega) (by omega) ?_
  refine w_goto i197_42 g197_42 ?_
  refine w_ald0 i197_75 ?_
  refine w_ra i197_76 r197 rfl ?_
  exact hq _ (gS.app hc gC) (fun q a b => (mupF b).trans ((mupF a).trans (gF q b)))
set_option maxHeartbeats 100000 in
theorem K_appC_169 {d : Nat} {D : Mm} {Q : Option Value → Mm → Prop} {ln : List Nat} (h : SbR D 169 ln) (hl : ln.length < 140) {c : Nat} (hc : c < 128) (hq : ∀ D2, SbR D2 169 (ln ++ [c]) → FrB 169 D D2 → Q (some (.ref 169)) D2) : Ct (d + 7) 189 [.ref 169, .int (nI c)] D Q := by
  refine ent m189 rfl rfl (ls := [.ref 169, .int (nI c)]) rfl ?_
  refine w_ald0 i189_0 ?_
  refine w_ild1 i189_1 ?_
  refine w_pG2 i189_2 c197 rfl ⟨by decide +kernel, by decide⟩ rfl ⟨rfl, Nat.le_of_ble_eq_true rfl⟩ ?_
  refine K_appC0_169 h hl hc (fun D2 g f => ?_)
  refine w_pop i189_5 rfl ?_
  refine w_ald0 i189_6 ?_
  refine w_ra i189_7 r189 rfl ?_
  exact hq _ g f
theorem SbR.z {D : Mm} {o : Nat} {ln : List Nat} (h : SbR D o ln) : SbR (mup D o 3 (nI 0)) o [] := by
  obtain ⟨a1, a2, a3, a4, a5, a6, a7⟩ := h
  have ec : cap (mup D o 3 (nI 0)) (o + 12) = cap D (o + 12) := cap_mup2 (Or.inl (by omega))
  have ef : mup D o 3 (nI 0) (o + 12) = D (o + 12) := mupF (by omega)
  refine ⟨Eq.trans (mupJ (by decide)) a1, mupE, Nat.zero_le _, by rw [ec]; exact a4, fun i hi => absurd hi (Nat.not_lt_zero i), fun c hc => (by cases hc), fun j hj => ?_⟩
  rw [ec] at hj
  rw [ef]; exact a7 j hj
theorem SbR.z2 {D : Mm} {o : Nat} {ln : List Nat} {x : Int32} (h : SbR D o ln) : SbR (mup (mup D o 2 x) o 3 (nI 0)) o [] := by
  have g : SbR (mup D o 2 x) o ln := by
    obtain ⟨a1, a2, a3, a4, a5, a6, a7⟩ := h
    have ec : cap (mup D o 2 x) (o + 12) = cap D (o + 12) := cap_mup2 (Or.inl (by omega))
    have ef : mup D o 2 x (o + 12) = D (o + 12) := mupF (by omega)
    refine ⟨Eq.trans (mupJ (by decide)) a1, Eq.trans (mupJ (by decide)) a2, by rw [ec]; exact a3, by rw [ec]; exact a4, fun i hi => by rw [ef]; exact a5 i hi, a6, fun j hj => ?_⟩
    rw [ec] at hj
    rw [ef]; exact a7 j hj
  exact g.z
set_option maxHeartbeats 100000 in
theorem K_set0_169 {d : Nat} {D : Mm} {Q : Option Value → Mm → Prop} {ln : List Nat} (h : SbR D 169 ln) (hq : ∀ D2, SbR D2 169 [] → FrB 169 D D2 → Q none D2) : Ct (d + 6) 196 [.ref 169, .int (nI 0)] D Q := by
  have h300 := h.2.2.2.1
  have hll := h.2.2.1
  have eg : growD D 181 0 = D := by unfold growD; rw [if_pos (Nat.zero_le _)]
  refine ent m196 rfl rfl (ls := [.ref 169, .int (nI 0)]) rfl ?_
  refine w_ild1 i196_0 ?_
  refine w_igeNT i196_1 g196_1 (by omega) (by omega) ?_
  refine w_ald0 i196_13 ?_
  refine w_ild1 i196_14 ?_
  refine w_vV2 i196_15 c217 (Or.inr rfl) ⟨by decide +kernel, by decide⟩ rfl ⟨rfl, Nat.le_of_ble_eq_true rfl⟩ (K_ens_169 h (by omega)) ?_
  rw [eg]
  refine w_ald0 i196_18 ?_
  refine w_gfI i196_19 (by decide) s_169 rfl h.len ?_
  refine w_ild1 i196_22 ?_
  refine w_cgeNT i196_23 g196_23 (by omega) (by omega) (Nat.zero_le _) ?_
  refine w_ald0 i196_63 ?_
  refine w_gfI i196_64 (by decide) s_169 rfl h.len ?_
  refine w_ild1 i196_67 ?_
  refine w_cleN i196_68 g196_68 (by omega) (by omega) (fun h68 => ?_) (fun h68 => ?_)
  · skip
    refine w_ald0 i196_76 ?_
    refine w_ild1 i196_77 ?_
    refine w_pf0 i196_78 (by decide) s_169 rfl ?_
    refine w_rv i196_81 r196 ?_
    first
      | exact hq _ (SbR.z (show SbR D 169 ln from h)) (fun q a b => (mupF a))
      | exact hq _ (SbR.z2 (show SbR D 169 ln from h)) (fun q a b => (mupF a).trans (mupF a))
  · skip
    refine w_ald0 i196_71 ?_
    refine w_const i196_72 kc_1 ?_
    refine w_pf1 i196_73 (by decide) s_169 rfl (Or.inr rfl) ?_
    refine w_ald0 i196_76 ?_
    refine w_ild1 i196_77 ?_
    refine w_pf0 i196_78 (by decide) s_169 rfl ?_
    refine w_rv i196_81 r196 ?_
    first
      | exact hq _ (SbR.z (show SbR D 169 ln from h)) (fun q a b => (mupF a))
      | exact hq _ (SbR.z2 (show SbR D 169 ln from h)) (fun q a b => (mupF a).trans (mupF a))
set_option maxHeartbeats 100000 in
theorem K_set_169 {d : Nat} {D : Mm} {Q : Option Value → Mm → Prop} {ln : List Nat} (h : SbR D 169 ln) (hq : ∀ D2, SbR D2 169 [] → FrB 169 D D2 → Q none D2) : Ct (d + 7) 192 [.ref 169, .int (nI 0)] D Q := by
  refine ent m192 rfl rfl (ls := [.ref 169, .int (nI 0)]) rfl ?_
  refine w_ald0 i192_0 ?_
  refine w_ild1 i192_1 ?_
  refine w_pG2 i192_2 c196 rfl ⟨by decide +kernel, by decide⟩ rfl ⟨rfl, Nat.le_of_ble_eq_true rfl⟩ ?_
  refine K_set0_169 h (fun D2 g f => ?_)
  refine w_rv i192_5 r192 ?_
  exact hq _ g f
theorem K_ens_170 {d : Nat} {D : Mm} {n : Nat} {ln : List Nat} (h : SbR D 170 ln) (hn : n ≤ 145) : Ct (d + 5) 217 [.ref 170, .int (nI n)] D (Ex none (growD D 182 n)) := K_ens h (Or.inr rfl) hn
set_option maxHeartbeats 100000 in
theorem K_len0_170 {d : Nat} {D : Mm} {ln : List Nat} (h : SbR D 170 ln) : Ct (d + 1) 194 [.ref 170] D (Ex (some (.int (nI ln.length))) D) := by
  refine ent m194 rfl rfl (ls := [.ref 170]) rfl ?_
  refine w_ald0 i194_0 ?_
  refine w_gfI i194_1 (by decide) s_170 rfl h.len ?_
  refine w_ri i194_4 r194 ?_
  exact ⟨rfl, rfl⟩
set_option maxHeartbeats 100000 in
theorem K_len_170 {d : Nat} {D : Mm} {ln : List Nat} (h : SbR D 170 ln) : Ct (d + 2) 193 [.ref 170] D (Ex (some (.int (nI ln.length))) D) := by
  refine ent m193 rfl rfl (ls := [.ref 170]) rfl ?_
  refine w_ald0 i193_0 ?_
  refine w_pI1 i193_1 c194 rfl ⟨by decide +kernel, by decide⟩ rfl ⟨rfl, Nat.le_of_ble_eq_true rfl⟩ (K_len0_170 h) ?_
  refine w_ri i193_4 r193 ?_
  exact ⟨rfl, rfl⟩
set_option maxHeartbeats 100000 in
theorem K_lat_170 {d : Nat} {D : Mm} (h : D 170 1 = nI 0) : Ct (d + 1) 199 [.ref 170] D (Ex (some (.int (nI 1))) D) := by
  refine ent m199 rfl rfl (ls := [.ref 170]) rfl ?_
  refine w_gst (w := .int (nI 1)) i199_0 rfl ?_
  refine w_ieqNF i199_3 (by omega) (by omega) ?_
  refine w_ald0 i199_6 ?_
  refine w_gfI i199_7 (by decide) s_170 rfl h ?_
  refine w_ineNF i199_10 (by omega) (by omega) ?_
  refine w_const i199_13 kc_1 ?_
  refine w_goto i199_14 g199_14 ?_
  refine w_rz i199_18 r199 nar_z1 ?_
  exact ⟨rfl, rfl⟩
set_option maxHeartbeats 100000 in
theorem K_appC0_170 {d : Nat} {D : Mm} {Q : Option Value → Mm → Prop} {ln : List Nat} (h : SbR D 170 ln) (hl : ln.length < 140) {c : Nat} (hc : c < 128) (hq : ∀ D2, SbR D2 170 (ln ++ [c]) → FrB 170 D D2 → Q (some (.ref 170)) D2) : Ct (d + 6) 197 [.ref 170, .int (nI c)] D Q := by
  refine ent m197 rfl rfl (ls := [.ref 170, .int (nI c)]) rfl ?_
  refine w_ald0 i197_0 ?_
  refine w_ald0 i197_1 ?_
  refine w_gfI i197_2 (by decide) s_170 rfl h.len ?_
  refine w_const i197_5 kc_1 ?_
  refine w_iadd i197_6 (nI_add _ _) ?_
  refine w_vV2 i197_7 c217 (Or.inr rfl) ⟨by decide +kernel, by decide⟩ rfl ⟨rfl, Nat.le_of_ble_eq_true rfl⟩ (K_ens_170 h (by omega)) ?_
  obtain ⟨gS, gC, gF⟩ := grow_sb h (Or.inr rfl) (show ln.length + 1 ≤ 145 by omega)
  have gC : ln.length + 1 ≤ cap (growD D 182 (ln.length + 1)) 182 := gC
  have gF : ∀ q, q ≠ 182 → growD D 182 (ln.length + 1) q = D q := gF
  have g4 : cap (growD D 182 (ln.length + 1)) 182 ≤ 300 := gS.2.2.2.1
  have hLEN : LEN = 1000000 := rfl
  refine w_ald0 i197_10 ?_
  refine w_vI1 i197_11 c199 (Or.inr rfl) ⟨by decide +kernel, by decide⟩ rfl ⟨rfl, Nat.le_of_ble_eq_true rfl⟩ (K_lat_170 gS.cod) ?_
  refine w_ieqNF i197_14 (by omega) (by omega) ?_
  refine w_ild1 i197_17 ?_
  refine w_sI1 i197_18 c213 rfl  rfl ⟨rfl, Nat.le_of_ble_eq_true rfl⟩ (K_canE hc) ?_
  refine w_ieqNF i197_21 (by omega) (by omega) ?_
  refine w_ald0 i197_24 ?_
  refine w_gfR i197_25 (by decide) s_170 rfl ?_
  refine w_ald0 i197_28 ?_
  refine w_dup i197_29 rfl ?_
  refine w_gfI i197_30 (by decide) s_170 rfl ((congrFun (gF 170 (by decide)) 3).trans h.len) ?_
  refine w_dup_x1 i197_33 rfl rfl ?_
  refine w_const i197_34 kc_1 ?_
  refine w_iadd i197_35 (nI_add _ _) ?_
  refine w_pf0 i197_36 (by decide) s_170 rfl ?_
  refine w_ild1 i197_39 ?_
  refine w_i2b i197_40 (i2b_t c hc) ?_
  refine w_bas i197_41 (congrArg Prod.fst s_182) (by rw [cap_mup2 (Or.inl (by decide))]; omega) (by omega) ?_
  refine w_goto i197_42 g197_42 ?_
  refine w_ald0 i197_75 ?_
  refine w_ra i197_76 r197 rfl ?_
  exact hq _ (gS.app hc gC) (fun q a b => (mupF b).trans ((mupF a).trans (gF q b)))
set_option maxHeartbeats 100000 in
theorem K_appC_170 {d : Nat} {D : Mm} {Q : Option Value → Mm → Prop} {ln : List Nat} (h : SbR D 170 ln) (hl : ln.length < 140) {c : Nat} (hc : c < 128) (hq : ∀ D2, SbR D2 170 (ln ++ [c]) → FrB 170 D D2 → Q (some (.ref 170)) D2) : Ct (d + 7) 189 [.ref 170, .int (nI c)] D Q := by
  refine ent m189 rfl rfl (ls := [.ref 170, .int (nI c)]) rfl ?_
  refine w_ald0 i189_0 ?_
  refine w_ild1 i189_1 ?_
  refine w_pG2 i189_2 c197 rfl ⟨by decide +kernel, by decide⟩ rfl ⟨rfl, Nat.le_of_ble_eq_true rfl⟩ ?_
  refine K_appC0_170 h hl hc (fun D2 g f => ?_)
  refine w_pop i189_5 rfl ?_
  refine w_ald0 i189_6 ?_
  refine w_ra i189_7 r189 rfl ?_
  exact hq _ g f
set_option maxHeartbeats 100000 in
theorem K_set0_170 {d : Nat} {D : Mm} {Q : Option Value → Mm → Prop} {ln : List Nat} (h : SbR D 170 ln) (hq : ∀ D2, SbR D2 170 [] → FrB 170 D D2 → Q none D2) : Ct (d + 6) 196 [.ref 170, .int (nI 0)] D Q := by
  have h300 := h.2.2.2.1
  have hll := h.2.2.1
  have eg : growD D 182 0 = D := by unfold growD; rw [if_pos (Nat.zero_le _)]
  refine ent m196 rfl rfl (ls := [.ref 170, .int (nI 0)]) rfl ?_
  refine w_ild1 i196_0 ?_
  refine w_igeNT i196_1 g196_1 (by omega) (by omega) ?_
  refine w_ald0 i196_13 ?_
  refine w_ild1 i196_14 ?_
  refine w_vV2 i196_15 c217 (Or.inr rfl) ⟨by decide +kernel, by decide⟩ rfl ⟨rfl, Nat.le_of_ble_eq_true rfl⟩ (K_ens_170 h (by omega)) ?_
  rw [eg]
  refine w_ald0 i196_18 ?_
  refine w_gfI i196_19 (by decide) s_170 rfl h.len ?_
  refine w_ild1 i196_22 ?_
  refine w_cgeNT i196_23 g196_23 (by omega) (by omega) (Nat.zero_le _) ?_
  refine w_ald0 i196_63 ?_
  refine w_gfI i196_64 (by decide) s_170 rfl h.len ?_
  refine w_ild1 i196_67 ?_
  refine w_cleN i196_68 g196_68 (by omega) (by omega) (fun h68 => ?_) (fun h68 => ?_)
  · skip
    refine w_ald0 i196_76 ?_
    refine w_ild1 i196_77 ?_
    refine w_pf0 i196_78 (by decide) s_170 rfl ?_
    refine w_rv i196_81 r196 ?_
    first
      | exact hq _ (SbR.z (show SbR D 170 ln from h)) (fun q a b => (mupF a))
      | exact hq _ (SbR.z2 (show SbR D 170 ln from h)) (fun q a b => (mupF a).trans (mupF a))
  · skip
    refine w_ald0 i196_71 ?_
    refine w_const i196_72 kc_1 ?_
    refine w_pf1 i196_73 (by decide) s_170 rfl (Or.inr rfl) ?_
    refine w_ald0 i196_76 ?_
    refine w_ild1 i196_77 ?_
    refine w_pf0 i196_78 (by decide) s_170 rfl ?_
    refine w_rv i196_81 r196 ?_
    first
      | exact hq _ (SbR.z (show SbR D 170 ln from h)) (fun q a b => (mupF a))
      | exact hq _ (SbR.z2 (show SbR D 170 ln from h)) (fun q a b => (mupF a).trans (mupF a))
set_option maxHeartbeats 100000 in
theorem K_set_170 {d : Nat} {D : Mm} {Q : Option Value → Mm → Prop} {ln : List Nat} (h : SbR D 170 ln) (hq : ∀ D2, SbR D2 170 [] → FrB 170 D D2 → Q none D2) : Ct (d + 7) 192 [.ref 170, .int (nI 0)] D Q := by
  refine ent m192 rfl rfl (ls := [.ref 170, .int (nI 0)]) rfl ?_
  refine w_ald0 i192_0 ?_
  refine w_ild1 i192_1 ?_
  refine w_pG2 i192_2 c196 rfl ⟨by decide +kernel, by decide⟩ rfl ⟨rfl, Nat.le_of_ble_eq_true rfl⟩ ?_
  refine K_set0_170 h (fun D2 g f => ?_)
  refine w_rv i192_5 r192 ?_
  exact hq _ g f
