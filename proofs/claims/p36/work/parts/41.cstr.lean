/-! builders and strings -/
theorem getD_app2 {ln l2 : List Nat} {i : Nat} : (ln ++ l2).getD i 0 = if i < ln.length then ln.getD i 0 else l2.getD (i - ln.length) 0 := by
  show (ln ++ l2)[i]?.getD 0 = if i < ln.length then ln[i]?.getD 0 else l2[i - ln.length]?.getD 0
  by_cases h : i < ln.length
  · rw [if_pos h, List.getElem?_append_left h]
  · rw [if_neg h, List.getElem?_append_right (Nat.not_lt.mp h)]
theorem SbR.apps {D D2 : Mm} {o : Nat} {ln l2 : List Nat} (h : SbR D o ln) (h1 : D2 o 1 = D o 1) (h3 : D2 o 3 = nI (ln.length + l2.length)) (hr : ln.length + l2.length ≤ cap D (o + 12)) (g1 : ∀ i, i < l2.length → D2 (o + 12) (ln.length + i) = nI (l2.getD i 0)) (g2 : ∀ j, (j < ln.length ∨ ln.length + l2.length ≤ j) → D2 (o + 12) j = D (o + 12) j) (hl : ∀ c, c ∈ l2 → c < 128) : SbR D2 o (ln ++ l2) := by
  obtain ⟨a1, a2, a3, a4, a5, a6, a7⟩ := h
  have hL : LEN = 1000000 := rfl
  have hc : cap D2 (o + 12) = cap D (o + 12) := by
    show (D2 (o + 12) LEN).toNatClampNeg = (D (o + 12) LEN).toNatClampNeg
    rw [g2 LEN (Or.inr (by omega))]
  refine ⟨h1.trans a1, ?_, ?_, by rw [hc]; exact a4, ?_, ?_, ?_⟩
  · rw [List.length_append]; exact h3
  · rw [hc, List.length_append]; exact hr
  · intro i hi
    rw [List.length_append] at hi
    rw [getD_app2]
    by_cases e : i < ln.length
    · rw [if_pos e, g2 i (Or.inl e)]; exact a5 i e
    · rw [if_neg e]
      have := g1 (i - ln.length) (by omega)
      rw [show ln.length + (i - ln.length) = i by omega] at this
      exact this
  · intro c hc2
    rcases List.mem_append.mp hc2 with z | z
    · exact a6 c z
    · exact hl c z
  · intro j hj
    rw [hc] at hj
    by_cases e : j < ln.length ∨ ln.length + l2.length ≤ j
    · rw [g2 j e]; exact a7 j hj
    · have := g1 (j - ln.length) (by omega)
      rw [show ln.length + (j - ln.length) = j by omega] at this
      rw [this]
      exact fitb_t _ (getD_lt hl (by omega))
theorem dgl_lt {n : Nat} (h : n < 100000) : ∀ c, c ∈ dgl n → c < 128 := by
  intro c hc
  unfold dgl at hc
  split at hc
  · simp only [List.mem_cons, List.not_mem_nil, or_false] at hc; omega
  · split at hc
    · simp only [List.mem_cons, List.not_mem_nil, or_false] at hc; omega
    · split at hc
      · simp only [List.mem_cons, List.not_mem_nil, or_false] at hc; omega
      · split at hc
        · simp only [List.mem_cons, List.not_mem_nil, or_false] at hc; omega
        · simp only [List.mem_cons, List.not_mem_nil, or_false] at hc; omega
theorem shr0 {x : Int32} : x >>> (nI 0 &&& 31) = x := by
  have e : (nI 0 &&& 31 : Int32) = 0 := by decide
  rw [e]
  exact Int32.shiftRight_zero
theorem ifp_len {a b : Nat} (h : a ≤ b) (hb : b < 2147483648) : ifp (nI a ≤ nI b) (nI a) (nI b) = nI a := ifp_t ((nle (by omega) hb).mpr h)
set_option maxHeartbeats 100000 in
theorem K_appI0_169 {d : Nat} {D : Mm} {Q : Option Value → Mm → Prop} {ln : List Nat} (h : SbR D 169 ln) (hl : ln.length + 5 ≤ 140) {n : Nat} (hn : n < 100000) (hq : ∀ D2, SbR D2 169 (ln ++ dgl n) → FrB 169 D D2 → Q (some (.ref 169)) D2) : Ct (d + 6) 198 [.ref 169, .int (nI n)] D Q := by
  have h5 := @dgl_len n
  refine ent m198 rfl rfl (ls := [.ref 169, .int (nI n), .retAddr 0, .retAddr 0]) rfl ?_
  refine w_ald0 i198_0 ?_
  refine w_gfI i198_1 (by decide) s_169 rfl h.len ?_
  refine w_ist2 i198_4 ?_
  refine w_ild2 i198_5 ?_
  refine w_ild1 i198_6 ?_
  refine w_sI1 i198_7 c201 rfl  rfl ⟨rfl, Nat.le_of_ble_eq_true rfl⟩ (K_size hn) ?_
  refine w_iadd i198_10 (nI_add _ _) ?_
  refine w_ist3 i198_11 ?_
  refine w_ald0 i198_12 ?_
  refine w_ild3 i198_13 ?_
  refine w_vV2 i198_14 c217 (Or.inr rfl) ⟨by decide +kernel, by decide⟩ rfl ⟨rfl, Nat.le_of_ble_eq_true rfl⟩ (K_ens_169 h (by omega)) ?_
  obtain ⟨gS, gC, gF⟩ := grow_sb h (Or.inl rfl) (show ln.length + (dgl n).length ≤ 145 by omega)
  have gC : ln.length + (dgl n).length ≤ cap (growD D 181 (ln.length + (dgl n).length)) 181 := gC
  have gF : ∀ q, q ≠ 181 → growD D 181 (ln.length + (dgl n).length) q = D q := gF
  have gS : SbR (growD D 181 (ln.length + (dgl n).length)) 169 ln := gS
  refine w_ald0 i198_17 ?_
  refine w_vI1 i198_18 c199 (Or.inr rfl) ⟨by decide +kernel, by decide⟩ rfl ⟨rfl, Nat.le_of_ble_eq_true rfl⟩ (K_lat_169 gS.cod) ?_
  refine w_ieqNF i198_21 (by omega) (by omega) ?_
  refine w_ild1 i198_24 ?_
  refine w_ild3 i198_25 ?_
  refine w_ald0 i198_26 ?_
  refine w_gfR i198_27 (by decide) s_169 rfl ?_
  refine w_sG3 i198_30 c200 rfl  rfl ⟨rfl, Nat.le_of_ble_eq_true rfl⟩ ?_
  refine K_getC_181 hn gC gS.2.2.2.1 (fun D2 v g => ?_)
  refine w_pop i198_33 rfl ?_
  refine w_goto i198_34 g198_34 ?_
  refine w_ald0 i198_48 ?_
  refine w_ild3 i198_49 ?_
  refine w_pf0 i198_50 (by decide) s_169 rfl ?_
  refine w_ald0 i198_53 ?_
  refine w_ra i198_54 r198 rfl ?_
  have k2 : D2 169 = growD D 181 (ln.length + (dgl n).length) 169 := g.2.2 169 (by decide)
  refine hq _ (gS.apps (Eq.trans (mupJ (by decide)) (congrFun k2 1)) mupE gC (fun i hi => Eq.trans (mupC (by decide)) (g.1 i hi)) (fun j hj => Eq.trans (mupC (by decide)) (g.2.1 j hj)) (dgl_lt hn)) (fun q a b => (mupF a).trans ((g.2.2 q b).trans (gF q b)))
set_option maxHeartbeats 100000 in
theorem K_appI_169 {d : Nat} {D : Mm} {Q : Option Value → Mm → Prop} {ln : List Nat} (h : SbR D 169 ln) (hl : ln.length + 5 ≤ 140) {n : Nat} (hn : n < 100000) (hq : ∀ D2, SbR D2 169 (ln ++ dgl n) → FrB 169 D D2 → Q (some (.ref 169)) D2) : Ct (d + 7) 190 [.ref 169, .int (nI n)] D Q := by
  refine ent m190 rfl rfl (ls := [.ref 169, .int (nI n)]) rfl ?_
  refine w_ald0 i190_0 ?_
  refine w_ild1 i190_1 ?_
  refine w_pG2 i190_2 c198 rfl ⟨by decide +kernel, by decide⟩ rfl ⟨rfl, Nat.le_of_ble_eq_true rfl⟩ ?_
  refine K_appI0_169 h hl hn (fun D2 g f => ?_)
  refine w_pop i190_5 rfl ?_
  refine w_ald0 i190_6 ?_
  refine w_ra i190_7 r190 rfl ?_
  exact hq _ g f
set_option maxHeartbeats 100000 in
theorem K_appI0_170 {d : Nat} {D : Mm} {Q : Option Value → Mm → Prop} {ln : List Nat} (h : SbR D 170 ln) (hl : ln.length + 5 ≤ 140) {n : Nat} (hn : n < 100000) (hq : ∀ D2, SbR D2 170 (ln ++ dgl n) → FrB 170 D D2 → Q (some (.ref 170)) D2) : Ct (d + 6) 198 [.ref 170, .int (nI n)] D Q := by
  have h5 := @dgl_len n
  refine ent m198 rfl rfl (ls := [.ref 170, .int (nI n), .retAddr 0, .retAddr 0]) rfl ?_
  refine w_ald0 i198_0 ?_
  refine w_gfI i198_1 (by decide) s_170 rfl h.len ?_
  refine w_ist2 i198_4 ?_
  refine w_ild2 i198_5 ?_
  refine w_ild1 i198_6 ?_
  refine w_sI1 i198_7 c201 rfl  rfl ⟨rfl, Nat.le_of_ble_eq_true rfl⟩ (K_size hn) ?_
  refine w_iadd i198_10 (nI_add _ _) ?_
  refine w_ist3 i198_11 ?_
  refine w_ald0 i198_12 ?_
  refine w_ild3 i198_13 ?_
  refine w_vV2 i198_14 c217 (Or.inr rfl) ⟨by decide +kernel, by decide⟩ rfl ⟨rfl, Nat.le_of_ble_eq_true rfl⟩ (K_ens_170 h (by omega)) ?_
  obtain ⟨gS, gC, gF⟩ := grow_sb h (Or.inr rfl) (show ln.length + (dgl n).length ≤ 145 by omega)
  have gC : ln.length + (dgl n).length ≤ cap (growD D 182 (ln.length + (dgl n).length)) 182 := gC
  have gF : ∀ q, q ≠ 182 → growD D 182 (ln.length + (dgl n).length) q = D q := gF
  have gS : SbR (growD D 182 (ln.length + (dgl n).length)) 170 ln := gS
  refine w_ald0 i198_17 ?_
  refine w_vI1 i198_18 c199 (Or.inr rfl) ⟨by decide +kernel, by decide⟩ rfl ⟨rfl, Nat.le_of_ble_eq_true rfl⟩ (K_lat_170 gS.cod) ?_
  refine w_ieqNF i198_21 (by omega) (by omega) ?_
  refine w_ild1 i198_24 ?_
  refine w_ild3 i198_25 ?_
  refine w_ald0 i198_26 ?_
  refine w_gfR i198_27 (by decide) s_170 rfl ?_
  refine w_sG3 i198_30 c200 rfl  rfl ⟨rfl, Nat.le_of_ble_eq_true rfl⟩ ?_
  refine K_getC_182 hn gC gS.2.2.2.1 (fun D2 v g => ?_)
  refine w_pop i198_33 rfl ?_
  refine w_goto i198_34 g198_34 ?_
  refine w_ald0 i198_48 ?_
  refine w_ild3 i198_49 ?_
  refine w_pf0 i198_50 (by decide) s_170 rfl ?_
  refine w_ald0 i198_53 ?_
  refine w_ra i198_54 r198 rfl ?_
  have k2 : D2 170 = growD D 182 (ln.length + (dgl n).length) 170 := g.2.2 170 (by decide)
  refine hq _ (gS.apps (Eq.trans (mupJ (by decide)) (congrFun k2 1)) mupE gC (fun i hi => Eq.trans (mupC (by decide)) (g.1 i hi)) (fun j hj => Eq.trans (mupC (by decide)) (g.2.1 j hj)) (dgl_lt hn)) (fun q a b => (mupF a).trans ((g.2.2 q b).trans (gF q b)))
set_option maxHeartbeats 100000 in
theorem K_appI_170 {d : Nat} {D : Mm} {Q : Option Value → Mm → Prop} {ln : List Nat} (h : SbR D 170 ln) (hl : ln.length + 5 ≤ 140) {n : Nat} (hn : n < 100000) (hq : ∀ D2, SbR D2 170 (ln ++ dgl n) → FrB 170 D D2 → Q (some (.ref 170)) D2) : Ct (d + 7) 190 [.ref 170, .int (nI n)] D Q := by
  refine ent m190 rfl rfl (ls := [.ref 170, .int (nI n)]) rfl ?_
  refine w_ald0 i190_0 ?_
  refine w_ild1 i190_1 ?_
  refine w_pG2 i190_2 c198 rfl ⟨by decide +kernel, by decide⟩ rfl ⟨rfl, Nat.le_of_ble_eq_true rfl⟩ ?_
  refine K_appI0_170 h hl hn (fun D2 g f => ?_)
  refine w_pop i190_5 rfl ?_
  refine w_ald0 i190_6 ?_
  refine w_ra i190_7 r190 rfl ?_
  exact hq _ g f
set_option maxHeartbeats 100000 in
theorem K_ck3 {d : Nat} {D : Mm} {i m : Nat} (h : i < m) (hm : m < 2147483648) : Ct (d + 1) 211 [.int (nI i), .int (nI m), .retAddr 1] D (Ex (some (.int (nI i))) D) := by
  refine ent m211 rfl rfl (ls := [.int (nI i), .int (nI m), .retAddr 1]) rfl ?_
  refine w_ild0 i211_0 ?_
  refine w_iltNF i211_1 (by omega) (by omega) ?_
  refine w_ild0 i211_4 ?_
  refine w_ild1 i211_5 ?_
  refine w_cltNT i211_6 g211_6 (by omega) (by omega) (by omega) ?_
  refine w_ild0 i211_16 ?_
  refine w_ri i211_17 r211 ?_
  exact ⟨rfl, rfl⟩
set_option maxHeartbeats 100000 in
theorem K_ckI {d : Nat} {D : Mm} {i m : Nat} (h : i < m) (hm : m < 2147483648) : Ct (d + 2) 210 [.int (nI i), .int (nI m)] D (Ex none D) := by
  refine ent m210 rfl rfl (ls := [.int (nI i), .int (nI m)]) rfl ?_
  refine w_ild0 i210_0 ?_
  refine w_ild1 i210_1 ?_
  refine w_gst i210_2 rfl ?_
  refine w_sI3 i210_5 c211 rfl  rfl ⟨rfl, Nat.le_of_ble_eq_true rfl⟩ (K_ck3 h hm) ?_
  refine w_pop i210_8 rfl ?_
  refine w_rv i210_9 r210 ?_
  exact ⟨rfl, rfl⟩
theorem K_chr0_169 {d : Nat} {D : Mm} {ln : List Nat} {i : Nat} (h : SbR D 169 ln) (hi : i < ln.length) : Ct (d + 3) 195 [.ref 169, .int (nI i)] D (Ex (some (.int (nI (ln.getD i 0)))) D) := by
  have hL : LEN = 1000000 := rfl
  have h3 : ln.length ≤ cap D 181 := h.2.2.1
  have h4 : cap D 181 ≤ 300 := h.2.2.2.1
  have h5 : D 181 i = nI (ln.getD i 0) := h.2.2.2.2.1 i hi
  have h6 := getD_lt h.2.2.2.2.2.1 hi
  refine ent m195 rfl rfl (ls := [.ref 169, .int (nI i), .retAddr 0, .retAddr 0, .retAddr 0]) rfl ?_
  refine w_ald0 i195_0 ?_
  refine w_gfI i195_1 (by decide) s_169 rfl h.cod ?_
  refine w_ist2 i195_4 ?_
  refine w_ald0 i195_5 ?_
  refine w_gfR i195_6 (by decide) s_169 rfl ?_
  refine w_ast3 i195_9 ?_
  refine w_ald0 i195_10 ?_
  refine w_gfI i195_11 (by decide) s_169 rfl h.len ?_
  refine w_ald3 i195_14 ?_
  refine w_alnB i195_15 (congrArg Prod.fst s_181) ?_
  refine w_ild2 i195_16 ?_
  refine w_ishr i195_17 shr0 ?_
  refine w_sKI2 i195_18 c202 rfl ⟨rfl, Nat.le_of_ble_eq_true rfl⟩ (K_min (a := nI ln.length) (b := nI (cap D 181))) ?_
  rw [ifp_len h3 (by omega)]
  refine w_ist4 i195_21 ?_
  refine w_ild1 i195_23 ?_
  refine w_ild4 i195_24 ?_
  refine w_sKV2 i195_26 c210 rfl ⟨rfl, Nat.le_of_ble_eq_true rfl⟩ (K_ckI hi (by omega)) ?_
  refine w_ild2 i195_29 ?_
  refine w_ineNF i195_30 (by decide) (by decide) ?_
  refine w_ald3 i195_33 ?_
  refine w_ild1 i195_34 ?_
  refine w_bal i195_35 (congrArg Prod.fst s_181) (by omega) (by omega) h5 ?_
  refine w_sip i195_36 ks_255 ?_
  refine w_iand i195_39 (and255 _ h6) ?_
  refine w_i2c i195_40 (i2c_t _ h6) ?_
  exact w_rc i195_41 r195 (narc_t _ h6) ⟨rfl, rfl⟩
set_option maxHeartbeats 100000 in
theorem K_chr_169 {d : Nat} {D : Mm} {ln : List Nat} {i : Nat} (h : SbR D 169 ln) (hi : i < ln.length) : Ct (d + 4) 191 [.ref 169, .int (nI i)] D (Ex (some (.int (nI (ln.getD i 0)))) D) := by
  have h6 := getD_lt h.2.2.2.2.2.1 hi
  refine ent m191 rfl rfl (ls := [.ref 169, .int (nI i)]) rfl ?_
  refine w_ald0 i191_0 ?_
  refine w_ild1 i191_1 ?_
  refine w_pI2 i191_2 c195 rfl ⟨by decide +kernel, by decide⟩ rfl ⟨rfl, Nat.le_of_ble_eq_true rfl⟩ (K_chr0_169 h hi) ?_
  refine w_rc i191_5 r191 (narc_t _ h6) ?_
  exact ⟨rfl, rfl⟩
theorem K_chr0_170 {d : Nat} {D : Mm} {ln : List Nat} {i : Nat} (h : SbR D 170 ln) (hi : i < ln.length) : Ct (d + 3) 195 [.ref 170, .int (nI i)] D (Ex (some (.int (nI (ln.getD i 0)))) D) := by
  have hL : LEN = 1000000 := rfl
  have h3 : ln.length ≤ cap D 182 := h.2.2.1
  have h4 : cap D 182 ≤ 300 := h.2.2.2.1
  have h5 : D 182 i = nI (ln.getD i 0) := h.2.2.2.2.1 i hi
  have h6 := getD_lt h.2.2.2.2.2.1 hi
  refine ent m195 rfl rfl (ls := [.ref 170, .int (nI i), .retAddr 0, .retAddr 0, .retAddr 0]) rfl ?_
  refine w_ald0 i195_0 ?_
  refine w_gfI i195_1 (by decide) s_170 rfl h.cod ?_
  refine w_ist2 i195_4 ?_
  refine w_ald0 i195_5 ?_
  refine w_gfR i195_6 (by decide) s_170 rfl ?_
  refine w_ast3 i195_9 ?_
  refine w_ald0 i195_10 ?_
  refine w_gfI i195_11 (by decide) s_170 rfl h.len ?_
  refine w_ald3 i195_14 ?_
  refine w_alnB i195_15 (congrArg Prod.fst s_182) ?_
  refine w_ild2 i195_16 ?_
  refine w_ishr i195_17 shr0 ?_
  refine w_sKI2 i195_18 c202 rfl ⟨rfl, Nat.le_of_ble_eq_true rfl⟩ (K_min (a := nI ln.length) (b := nI (cap D 182))) ?_
  rw [ifp_len h3 (by omega)]
  refine w_ist4 i195_21 ?_
  refine w_ild1 i195_23 ?_
  refine w_ild4 i195_24 ?_
  refine w_sKV2 i195_26 c210 rfl ⟨rfl, Nat.le_of_ble_eq_true rfl⟩ (K_ckI hi (by omega)) ?_
  refine w_ild2 i195_29 ?_
  refine w_ineNF i195_30 (by decide) (by decide) ?_
  refine w_ald3 i195_33 ?_
  refine w_ild1 i195_34 ?_
  refine w_bal i195_35 (congrArg Prod.fst s_182) (by omega) (by omega) h5 ?_
  refine w_sip i195_36 ks_255 ?_
  refine w_iand i195_39 (and255 _ h6) ?_
  refine w_i2c i195_40 (i2c_t _ h6) ?_
  exact w_rc i195_41 r195 (narc_t _ h6) ⟨rfl, rfl⟩
set_option maxHeartbeats 100000 in
theorem K_chr_170 {d : Nat} {D : Mm} {ln : List Nat} {i : Nat} (h : SbR D 170 ln) (hi : i < ln.length) : Ct (d + 4) 191 [.ref 170, .int (nI i)] D (Ex (some (.int (nI (ln.getD i 0)))) D) := by
  have h6 := getD_lt h.2.2.2.2.2.1 hi
  refine ent m191 rfl rfl (ls := [.ref 170, .int (nI i)]) rfl ?_
  refine w_ald0 i191_0 ?_
  refine w_ild1 i191_1 ?_
  refine w_pI2 i191_2 c195 rfl ⟨by decide +kernel, by decide⟩ rfl ⟨rfl, Nat.le_of_ble_eq_true rfl⟩ (K_chr0_170 h hi) ?_
  refine w_rc i191_5 r191 (narc_t _ h6) ?_
  exact ⟨rfl, rfl⟩
theorem sK {m : Nat} (h1 : 1000 ≤ m) (h2 : m < 1010) : rk m = nC 204 ∧ m < 1010 := by
  refine ⟨?_, h2⟩
  unfold rk
  rw [if_pos ⟨h1, by omega⟩]
  decide +kernel
theorem sRo {m : Nat} (h1 : 1000 ≤ m) (h2 : m < 1010) : roK (m + 1000) := Or.inl ⟨by omega, by omega⟩
theorem K_cod {d : Nat} {D : Mm} {m : Nat} (h1 : 1000 ≤ m) (h2 : m < 1010) : Ct (d + 1) 209 [.ref m] D (Ex (some (.int (nI 0))) D) := by
  refine ent m209 rfl rfl (ls := [.ref m]) rfl ?_
  refine w_gst (w := .int (nI 1)) i209_0 rfl ?_
  refine w_ieqNF i209_3 (by decide) (by decide) ?_
  refine w_ald0 i209_6 ?_
  refine w_gfS1 i209_7 h1 h2 ?_
  refine w_goto i209_10 g209_10 ?_
  exact w_rb i209_14 r209 (by decide) ⟨rfl, rfl⟩
theorem K_slat {d : Nat} {D : Mm} {m : Nat} (h1 : 1000 ≤ m) (h2 : m < 1010) : Ct (d + 1) 208 [.ref m] D (Ex (some (.int (nI 1))) D) := by
  refine ent m208 rfl rfl (ls := [.ref m]) rfl ?_
  refine w_gst (w := .int (nI 1)) i208_0 rfl ?_
  refine w_ieqNF i208_3 (by decide) (by decide) ?_
  refine w_ald0 i208_6 ?_
  refine w_gfS1 i208_7 h1 h2 ?_
  refine w_ineF i208_10 rfl ?_
  refine w_const i208_13 kc_1 ?_
  refine w_goto i208_14 g208_14 ?_
  exact w_rz i208_18 r208 nar_z1 ⟨rfl, rfl⟩
theorem nvS {m : Nat} (h1 : 1000 ≤ m) (h5 : m < 5000 := by omega) : nvB (.ref m) = true := by
  have e1 : (m == 181) = false := beq_eq_false_iff_ne.mpr (by omega)
  have e2 : (m == 182) = false := beq_eq_false_iff_ne.mpr (by omega)
  show (!(m == 181) && !(m == 182) && decide (m < 5000)) = true
  rw [e1, e2, decide_eq_true h5]; rfl
theorem K_slen {d : Nat} {D : Mm} {m : Nat} (h1 : 1000 ≤ m) (h2 : m < 1010) : Ct (d + 2) 204 [.ref m] D (Ex (some (.int (nI (roc (m + 1000)).length))) D) := by
  refine ent m204 rfl rfl (ls := [.ref m]) rfl ?_
  refine w_ald0 i204_0 ?_
  refine w_gfS0 i204_1 h1 h2 ?_
  refine w_alnR i204_4 (sRo h1 h2) ?_
  refine w_ald0 i204_5 ?_
  refine w_vI1 i204_6 c209 (Or.inl rfl) (sK h1 h2) (nv_cons (nvS h1) nv_nil) ⟨rfl, Nat.le_of_ble_eq_true rfl⟩ (K_cod h1 h2) ?_
  refine w_ishr i204_9 shr0 ?_
  exact w_ri i204_10 r204 ⟨rfl, rfl⟩
theorem K_chl {d : Nat} {D : Mm} {m i c : Nat} (h1 : 1000 ≤ m) (h2 : m < 1010) (hl : (roc (m + 1000)).length < 100) (hi : i < (roc (m + 1000)).length) (hc : c < 128) (e : (roc (m + 1000)).getD i 0 = nI c) : Ct (d + 3) 212 [.ref (m + 1000), .int (nI i)] D (Ex (some (.int (nI c))) D) := by
  have hnv := nvS (m := m + 1000) (by omega)
  refine ent m212 rfl rfl (ls := [.ref (m + 1000), .int (nI i)]) rfl ?_
  refine w_ild1 i212_0 ?_
  refine w_ald0 i212_1 ?_
  refine w_alnR i212_2 (sRo h1 h2) ?_
  refine w_sV2 i212_3 c210 rfl (nv_cons hnv rfl) ⟨rfl, Nat.le_of_ble_eq_true rfl⟩ (K_ckI hi (by omega)) ?_
  refine w_ald0 i212_6 ?_
  refine w_ild1 i212_7 ?_
  refine w_balR i212_8 (sRo h1 h2) (vp_in_nI hi (by omega)) ?_
  rw [show (nI i).toNatClampNeg = i from nI_clamp (by omega), e]
  refine w_sip i212_9 ks_255 ?_
  refine w_iand i212_12 (and255 _ hc) ?_
  refine w_i2c i212_13 (i2c_t _ hc) ?_
  exact w_rc i212_14 r212 (narc_t _ hc) ⟨rfl, rfl⟩
theorem K_schr {d : Nat} {D : Mm} {m i c : Nat} (h1 : 1000 ≤ m) (h2 : m < 1010) (hl : (roc (m + 1000)).length < 100) (hi : i < (roc (m + 1000)).length) (hc : c < 128) (e : (roc (m + 1000)).getD i 0 = nI c) : Ct (d + 4) 205 [.ref m, .int (nI i)] D (Ex (some (.int (nI c))) D) := by
  refine ent m205 rfl rfl (ls := [.ref m, .int (nI i)]) rfl ?_
  refine w_ald0 i205_0 ?_
  refine w_vI1 i205_1 c208 (Or.inl rfl) (sK h1 h2) (nv_cons (nvS h1) rfl) ⟨rfl, Nat.le_of_ble_eq_true rfl⟩ (K_slat h1 h2) ?_
  refine w_ieqNF i205_4 (by decide) (by decide) ?_
  refine w_ald0 i205_7 ?_
  refine w_gfS0 i205_8 h1 h2 ?_
  refine w_ild1 i205_11 ?_
  refine w_sI2 i205_12 c212 rfl (nv_cons (nvS h1) rfl) ⟨rfl, Nat.le_of_ble_eq_true rfl⟩ (K_chl h1 h2 hl hi hc e) ?_
  exact w_rc i205_15 r205 (narc_t _ hc) ⟨rfl, rfl⟩
def idxF (c : Nat) : Nat → Nat → Int32
  | 0, _ => -1
  | k + 1, i => if (roc 2000).getD i 0 = nI c then nI i else idxF c k (i + 1)
theorem idx_kn : ∀ c, c < 128 → ((idxF c 10 0 < 0) = (kn c = false)) := by
  intro c hc
  apply propext
  revert c
  decide +kernel
theorem rocL : (roc 2000).length = 10 := by decide +kernel
set_option maxHeartbeats 100000 in
theorem K_canE2 {d : Nat} {D : Mm} {c : Nat} (hc : c < 128) : Ct (d + 1) 214 [.int (nI c)] D (Ex (some (.int (nI 1))) D) := by
  refine ent m214 rfl rfl (ls := [.int (nI c)]) rfl ?_
  refine w_ild0 i214_0 ?_
  refine w_iltNF i214_1 (by omega) (by omega) ?_
  refine w_ild0 i214_4 ?_
  refine w_sip i214_5 ks_255 ?_
  refine w_cgtNF i214_8 (by omega) (by omega) (by omega) ?_
  refine w_const i214_11 kc_1 ?_
  refine w_goto i214_12 g214_12 ?_
  refine w_rz i214_16 r214 nar_z1 ?_
  exact ⟨rfl, rfl⟩
set_option maxHeartbeats 100000 in
theorem K_max00 {d : Nat} {D : Mm} : Ct (d + 1) 203 [.int (nI 0), .int (nI 0)] D (Ex (some (.int (nI 0))) D) := by
  refine ent m203 rfl rfl (ls := [.int (nI 0), .int (nI 0)]) rfl ?_
  refine w_ild0 i203_0 ?_
  refine w_ild1 i203_1 ?_
  refine w_cltNF i203_2 (by omega) (by omega) (by omega) ?_
  refine w_ild0 i203_5 ?_
  refine w_goto i203_6 g203_6 ?_
  refine w_ri i203_10 r203 ?_
  exact ⟨rfl, rfl⟩
theorem i2b_eq {c : Nat} (hc : c < 128) : (nI c).toInt8.toInt32 = nI c := i2b_t c hc
theorem K_ixc {d : Nat} {D : Mm} {c : Nat} (hc : c < 128) : Ct (d + 1) 216 [.ref 2000, .int (nI c), .int (nI 0), .int (nI 10)] D (Ex (some (.int (idxF c 10 0))) D) := by
  refine ent m216 rfl rfl (ls := [.ref 2000, .int (nI c), .int (nI 0), .int (nI 10), .retAddr 0, .retAddr 0]) rfl ?_
  refine w_ild1 i216_0 ?_
  refine w_i2b i216_1 (i2b_t _ hc) ?_
  refine w_ist4 i216_2 ?_
  refine w_ild2 i216_4 ?_
  refine w_ist5 i216_5 ?_
  have L : ∀ k i, i + k = 10 → Wp d 216 (Ex (some (.int (idxF c k i))) D) 7 [.ref 2000, .int (nI c), .int (nI 0), .int (nI 10), .int (nI c), .int (nI i)] [] D := by
    intro k
    induction k with
    | zero =>
      intro i hk
      refine w_ild5 i216_7 ?_
      refine w_ild3 i216_9 ?_
      refine w_cgeNT i216_10 g216_10 (by omega) (by omega) (by omega) ?_
      refine w_const i216_31 kc_m1 ?_
      exact w_ri i216_32 r216 ⟨rfl, rfl⟩
    | succ k ih =>
      intro i hk
      unfold idxF
      refine w_ild5 i216_7 ?_
      refine w_ild3 i216_9 ?_
      refine w_cgeNF i216_10 (by omega) (by omega) (by omega) ?_
      refine w_ald0 i216_13 ?_
      refine w_ild5 i216_14 ?_
      refine w_balR i216_16 (sRo (m := 1000) (by decide) (by decide)) (vp_in_nI (by rw [rocL]; omega) (by rw [rocL]; decide)) ?_
      rw [show (nI i).toNatClampNeg = i from nI_clamp (by omega)]
      refine w_ild4 i216_17 ?_
      refine w_cne i216_19 g216_19 (fun h19 => ?_) (fun h19 => ?_)
      · refine w_inc5 i216_25 (inc1 _) ?_
        refine w_goto i216_28 g216_28 ?_
        rw [if_neg h19]
        exact ih (i + 1) (by omega)
      · refine w_ild5 i216_22 ?_
        refine w_ri i216_24 r216 ?_
        rw [if_pos h19]
        exact ⟨rfl, rfl⟩
  exact L 10 0 rfl
theorem K_ixl {d : Nat} {D : Mm} {c : Nat} (hc : c < 128) : Ct (d + 2) 215 [.ref 2000, .int (nI c), .int (nI 0), .int (nI 10)] D (Ex (some (.int (idxF c 10 0))) D) := by
  refine ent m215 rfl rfl (ls := [.ref 2000, .int (nI c), .int (nI 0), .int (nI 10)]) rfl ?_
  refine w_ild1 i215_0 ?_
  refine w_sI1 i215_1 c214 rfl rfl ⟨rfl, Nat.le_of_ble_eq_true rfl⟩ (K_canE2 hc) ?_
  refine w_ineNT i215_4 g215_4 (by decide) (by decide) ?_
  refine w_ild2 i215_9 ?_
  refine w_const i215_10 kc_0 ?_
  refine w_sI2 i215_11 c203 rfl rfl ⟨rfl, Nat.le_of_ble_eq_true rfl⟩ K_max00 ?_
  refine w_ist2 i215_14 ?_
  refine w_ild3 i215_15 ?_
  refine w_ald0 i215_16 ?_
  refine w_alnR i215_17 (sRo (m := 1000) (by decide) (by decide)) ?_
  rw [show Int32.ofNat (roc 2000).length = nI 10 by rw [rocL]; rfl]
  refine w_sI2 i215_18 c202 rfl rfl ⟨rfl, Nat.le_of_ble_eq_true rfl⟩ (K_min (a := nI 10) (b := nI 10)) ?_
  rw [ifp_t (show nI 10 ≤ nI 10 by decide)]
  refine w_ist3 i215_21 ?_
  refine w_ild2 i215_22 ?_
  refine w_ild3 i215_23 ?_
  refine w_cltNT i215_24 g215_24 (by decide) (by decide) (by decide) ?_
  refine w_ald0 i215_29 ?_
  refine w_ild1 i215_30 ?_
  refine w_ild2 i215_31 ?_
  refine w_ild3 i215_32 ?_
  refine w_sI4 i215_33 c216 rfl rfl ⟨rfl, Nat.le_of_ble_eq_true rfl⟩ (K_ixc hc) ?_
  exact w_ri i215_36 r215 ⟨rfl, rfl⟩
theorem K_ix2 {d : Nat} {D : Mm} {c : Nat} (hc : c < 128) : Ct (d + 3) 207 [.ref 1000, .int (nI c), .int (nI 0)] D (Ex (some (.int (idxF c 10 0))) D) := by
  refine ent m207 rfl rfl (ls := [.ref 1000, .int (nI c), .int (nI 0)]) rfl ?_
  refine w_ald0 i207_0 ?_
  refine w_vI1 i207_1 c208 (Or.inl rfl) (sK (by decide) (by decide)) rfl ⟨rfl, Nat.le_of_ble_eq_true rfl⟩ (K_slat (by decide) (by decide)) ?_
  refine w_ieqNF i207_4 (by decide) (by decide) ?_
  refine w_ald0 i207_7 ?_
  refine w_gfS0 i207_8 (by decide) (by decide) ?_
  refine w_ild1 i207_11 ?_
  refine w_ild2 i207_12 ?_
  refine w_ald0 i207_13 ?_
  refine w_vI1 i207_14 c204 (Or.inl rfl) (sK (by decide) (by decide)) rfl ⟨rfl, Nat.le_of_ble_eq_true rfl⟩ (K_slen (by decide) (by decide)) ?_
  rw [show nI (roc (1000 + 1000)).length = nI 10 from congrArg nI rocL]
  refine w_sI4 i207_17 c215 rfl rfl ⟨rfl, Nat.le_of_ble_eq_true rfl⟩ (K_ixl hc) ?_
  refine w_goto i207_20 g207_20 ?_
  exact w_ri i207_36 r207 ⟨rfl, rfl⟩
theorem K_ix {d : Nat} {D : Mm} {c : Nat} (hc : c < 128) : Ct (d + 4) 206 [.ref 1000, .int (nI c)] D (Ex (some (.int (idxF c 10 0))) D) := by
  refine ent m206 rfl rfl (ls := [.ref 1000, .int (nI c)]) rfl ?_
  refine w_ald0 i206_0 ?_
  refine w_ild1 i206_1 ?_
  refine w_const i206_2 kc_0 ?_
  refine w_vI3 i206_3 c207 (Or.inl rfl) (sK (by decide) (by decide)) rfl ⟨rfl, Nat.le_of_ble_eq_true rfl⟩ (K_ix2 hc) ?_
  exact w_ri i206_6 r206 ⟨rfl, rfl⟩
