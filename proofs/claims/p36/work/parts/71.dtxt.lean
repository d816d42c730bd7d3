/-! texts, and how they go behind a builder -/
/-- a text: its object, its row, its signs -/
def TxD (D : Mm) (a b : Nat) (k : List Nat) : Prop := (∀ c, c ∈ k → c < 128) ∧ k.length ≤ 5000 ∧ ((dyn D a 9 ∧ dyn D b 22 ∧ D a 0 = nI b ∧ D a 1 = nI 0 ∧ cap D b = k.length ∧ (∀ i, i < k.length → D b i = nI (k.getD i 0)) ∧ b < 2147483648) ∨ (1000 ≤ a ∧ a < 1019 ∧ b = a + 1000 ∧ roc b = k.map nI))
section
variable {d : Nat} {D : Mm} {a b : Nat} {k : List Nat}
theorem TxD.nv (x : TxD D a b k) : nvV D (.ref a) ∧ nvV D (.ref b) := by
  rcases x.2.2 with ⟨h1, h2, -⟩ | ⟨h1, h2, rfl, -⟩
  · exact ⟨nvD h1.1, nvD h2.1⟩
  · exact ⟨nvK (by omega) (by omega), nvK (by omega) (by omega)⟩
theorem TxD.rec (x : TxD D a b k) {m : Nat} (hk : nC m = 25) : rcv D a m := by
  rcases x.2.2 with ⟨h1, -⟩ | ⟨h1, h2, -⟩
  · exact Or.inr ⟨h1.1, by rw [hk]; exact h1.2, by rw [h1.2]; decide⟩
  · refine Or.inl ⟨?_, h2⟩
    rw [hk]; exact if_pos ⟨h1, h2⟩
theorem TxD.csL (x : TxD D a b k) : csL D b = k.length := by
  rcases x.2.2 with ⟨h1, h2, h3, h4, h5, -⟩ | ⟨h1, h2, rfl, h4⟩
  · rw [csL_d h2.1.1]; exact h5
  · rw [csL_r (by unfold DB; omega), h4, List.length_map]
theorem TxD.csD (x : TxD D a b k) {i : Nat} (hi : i < k.length) : csD D b i = nI (k.getD i 0) := by
  rcases x.2.2 with ⟨h1, h2, h3, h4, h5, h6, -⟩ | ⟨h1, h2, rfl, h4⟩
  · rw [csD_d h2.1.1]; exact h6 i hi
  · rw [csD_r (by unfold DB; omega), h4]
    show (k.map nI).getD i 0 = _
    rw [List.getD_eq_getElem?_getD, List.getD_eq_getElem?_getD, List.getElem?_map, List.getElem?_eq_getElem hi]
    rfl
theorem TxD.cs (x : TxD D a b k) : dyn D b 22 ∨ (2000 ≤ b ∧ b < 2019) := by
  rcases x.2.2 with ⟨h1, h2, -⟩ | ⟨h1, h2, rfl, -⟩
  · exact Or.inl h2
  · exact Or.inr ⟨by omega, by omega⟩
theorem TxD.fr {D2 : Mm} (x : TxD D a b k) (hn : nxt D ≤ nxt D2) (h1 : a < 5000 ∨ D2 a = D a) (h2 : b < 5000 ∨ D2 b = D b) : TxD D2 a b k := by
  refine ⟨x.1, x.2.1, ?_⟩
  rcases x.2.2 with ⟨g1, g2, g3, g4, g5, g6, g7⟩ | g
  · have e1 : D2 a = D a := h1.resolve_left (by have := dyn_ge g1; omega)
    have e2 : D2 b = D b := h2.resolve_left (by have := dyn_ge g2; omega)
    exact Or.inl ⟨dyn_fr g1 hn e1, dyn_fr g2 hn e2, by rw [e1]; exact g3, by rw [e1]; exact g4, by unfold cap; rw [e2]; exact g5, fun i hi => by rw [e2]; exact g6 i hi, g7⟩
  · exact Or.inr g
theorem TxD.w0 {m idx pc aa e : Nat} {ls r : List Value} {Q : Option Value → Mm → Prop} (x : TxD D a b k) (hi : ins m pc = some (.getfield idx, aa, 25, 0, e)) (h : Wp d m Q (pc + 3) ls (.ref b :: r) D) : Wp d m Q pc ls (.ref a :: r) D := by
  rcases x.2.2 with ⟨h1, h2, h3, -, -, -, h7⟩ | ⟨h1, h2, rfl, -⟩
  · refine w_gfT hi h1 (by decide) (w := .ref b) ?_ h
    unfold dvl rv
    rw [if_pos (show rfB 9 0 = true from rfl), h3, nI_clamp h7, if_pos h2.1.1]
  · exact w_gfS2 hi h1 h2 h
theorem TxD.w1 {m idx pc aa e : Nat} {ls r : List Value} {Q : Option Value → Mm → Prop} (x : TxD D a b k) (hi : ins m pc = some (.getfield idx, aa, 25, 1, e)) (h : Wp d m Q (pc + 3) ls (.int (nI 0) :: r) D) : Wp d m Q pc ls (.ref a :: r) D := by
  rcases x.2.2 with ⟨h1, h2, h3, h4, -⟩ | ⟨h1, h2, rfl, -⟩
  · refine w_gfT hi h1 (by decide) (w := .int (nI 0)) ?_ h
    unfold dvl
    rw [if_neg (show ¬ rfB 9 1 = true by decide), h4]
  · exact w_gfS3 hi h1 h2 h
theorem TxD.wl {m pc aa bb cc e : Nat} {ls r : List Value} {Q : Option Value → Mm → Prop} (x : TxD D a b k) (hi : ins m pc = some (.arraylength, aa, bb, cc, e)) (h : Wp d m Q (pc + 1) ls (.int (nI k.length) :: r) D) : Wp d m Q pc ls (.ref b :: r) D := by
  rcases x.2.2 with ⟨h1, h2, h3, h4, h5, -⟩ | ⟨h1, h2, rfl, h4⟩
  · exact w_alnD hi (Or.inl h2) h5 h
  · refine w_alnR hi (Or.inl ⟨by omega, by omega⟩) ?_
    rw [h4, List.length_map]; exact h
end
set_option maxHeartbeats 100000 in
theorem K_codX {d : Nat} {D : Mm} {a bt : Nat} {k : List Nat} (x : TxD D a bt k) : Ct (d + 1) 209 [.ref a] D (Ex (some (.int (nI 0))) D) := by
  have hna := x.nv.1
  have hnb := x.nv.2
  have hkl := x.2.1
  
  refine ent m209 rfl rfl (ls := [.ref a]) rfl ?_
  refine w_gst (w := .int (nI 1)) i209_0 rfl ?_
  refine w_ieqNF i209_3 (by omega) (by omega) ?_
  refine w_ald0 i209_6 ?_
  refine x.w1 i209_7 ?_
  refine w_goto i209_10 g209_10 ?_
  refine w_rb i209_14 r209 (by decide) ?_
  exact ⟨rfl, rfl⟩
set_option maxHeartbeats 100000 in
theorem K_slenX {d : Nat} {D : Mm} {a bt : Nat} {k : List Nat} (x : TxD D a bt k) : Ct (d + 2) 204 [.ref a] D (Ex (some (.int (nI k.length))) D) := by
  have hna := x.nv.1
  have hnb := x.nv.2
  have hkl := x.2.1
  
  refine ent m204 rfl rfl (ls := [.ref a]) rfl ?_
  refine w_ald0 i204_0 ?_
  refine x.w0 i204_1 ?_
  refine x.wl i204_4 ?_
  refine w_ald0 i204_5 ?_
  refine w_VD1 i204_6 c209 (Or.inl rfl) (x.rec (by decide +kernel)) (by repeat (first | exact nvL_nil | refine nvL_cons (by first | assumption | trivial | exact nvSt (by decide) | exact nvD (by assumption) | exact nvK (by omega) (by omega)) ?_)) ⟨(by repeat (first | exact nvL_nil | refine nvL_cons (by first | assumption | trivial | exact nvSt (by decide) | exact nvD (by assumption) | exact nvK (by omega) (by omega)) ?_)), rfl, Nat.le_of_ble_eq_true rfl⟩ (Ex_go (K_codX x) ?_)
  refine w_ishr i204_9 (shrX _) ?_
  refine w_ri i204_10 r204 ?_
  exact ⟨rfl, rfl⟩
set_option maxHeartbeats 100000 in
theorem K_infX {d : Nat} {D : Mm} {lo T u o b : Nat} {t : List Nat} {a bt : Nat} {k : List Nat} (x : TxD D a bt k) (h : SbX D lo T u o b t) : Ct (d + 2) 130 [.ref o, .ref a] D (Ex none D) := by
  have hna := x.nv.1
  have hnb := x.nv.2
  have hkl := x.2.1
  have hdo := h.ob.1
  have hdb := h.rb.1
  have hcp := h.cpm
  have hT := h.tT
  have hLE := LENv
  have hKE := KNDv
  have hft := h.fit
  
  refine ent m130 rfl rfl (ls := [.ref o, .ref a]) rfl ?_
  refine w_gst (w := .int (nI 1)) i130_0 rfl ?_
  refine w_ieqNF i130_3 (by omega) (by omega) ?_
  refine w_ald0 i130_6 ?_
  refine w_gfD i130_7 (Or.inl rfl) h.ob (by decide) (dvl_i (by decide) h.cod) ?_
  refine w_ald1 i130_10 ?_
  refine w_VD1 i130_11 c209 (Or.inl rfl) (x.rec (by decide +kernel)) (by repeat (first | exact nvL_nil | refine nvL_cons (by first | assumption | trivial | exact nvSt (by decide) | exact nvD (by assumption) | exact nvK (by omega) (by omega)) ?_)) ⟨(by repeat (first | exact nvL_nil | refine nvL_cons (by first | assumption | trivial | exact nvSt (by decide) | exact nvD (by assumption) | exact nvK (by omega) (by omega)) ?_)), rfl, Nat.le_of_ble_eq_true rfl⟩ (Ex_go (K_codX x) ?_)
  refine w_ceqNT i130_14 g130_14 (by omega) (by omega) (by omega) ?_
  refine w_rv i130_21 r130 ?_
  exact ⟨rfl, rfl⟩
set_option maxHeartbeats 100000 in
theorem K_gbX {d : Nat} {D : Mm} {Q : Option Value → Mm → Prop} {lo T u o b : Nat} {t : List Nat} (h : SbX D lo T u o b t) {a bt : Nat} {k : List Nat} (x : TxD D a bt k) (hr : t.length + k.length ≤ cap D b) (hq : Q none (cpD D bt b 0 t.length k.length)) : Ct (d + 2) 134 [.ref a, .ref b, .int (nI t.length), .int (nI 0)] D Q := by
  have hna := x.nv.1
  have hnb := x.nv.2
  have hkl := x.2.1
  have hdo := h.ob.1
  have hdb := h.rb.1
  have hcp := h.cpm
  have hT := h.tT
  have hLE := LENv
  have hKE := KNDv
  have hft := h.fit
  
  refine ent m134 rfl rfl (ls := [.ref a, .ref b, .int (nI t.length), .int (nI 0)]) rfl ?_
  refine w_ald0 i134_0 ?_
  refine w_VD1 i134_1 c209 (Or.inl rfl) (x.rec (by decide +kernel)) (by repeat (first | exact nvL_nil | refine nvL_cons (by first | assumption | trivial | exact nvSt (by decide) | exact nvD (by assumption) | exact nvK (by omega) (by omega)) ?_)) ⟨(by repeat (first | exact nvL_nil | refine nvL_cons (by first | assumption | trivial | exact nvSt (by decide) | exact nvD (by assumption) | exact nvK (by omega) (by omega)) ?_)), rfl, Nat.le_of_ble_eq_true rfl⟩ (Ex_go (K_codX x) ?_)
  refine w_ild3 i134_4 ?_
  refine w_cneNF i134_5 (by omega) (by omega) (by omega) ?_
  refine w_ald0 i134_8 ?_
  refine x.w0 i134_9 ?_
  refine w_const i134_12 kc_0 ?_
  refine w_ald1 i134_13 ?_
  refine w_ild2 i134_14 ?_
  refine w_ild3 i134_15 ?_
  refine w_ishl i134_16 (shl0 _) ?_
  refine w_ald0 i134_17 ?_
  refine x.w0 i134_18 ?_
  refine x.wl i134_21 ?_
  refine w_cpy i134_22 x.cs h.rb ⟨rfl, Nat.le_of_ble_eq_true rfl⟩ (by rw [x.csL]; omega) hr ⟨by rw [x.csL]; omega, by omega⟩ (fun i hi => by rw [Nat.zero_add, x.csD hi]; exact fitb_t _ (getD_lt x.1 hi)) ?_
  refine w_goto i134_25 g134_25 ?_
  refine w_rv i134_43 r134 ?_
  exact hq
set_option maxHeartbeats 100000 in
theorem K_psX {d : Nat} {D : Mm} {Q : Option Value → Mm → Prop} {lo T u o b : Nat} {t : List Nat} (h : SbX D lo T u o b t) {a bt : Nat} {k : List Nat} (x : TxD D a bt k) (hr : t.length + k.length ≤ cap D b) (hq : Q none (cpD D bt b 0 t.length k.length)) : Ct (d + 3) 129 [.ref o, .int (nI t.length), .ref a] D Q := by
  have hna := x.nv.1
  have hnb := x.nv.2
  have hkl := x.2.1
  have hdo := h.ob.1
  have hdb := h.rb.1
  have hcp := h.cpm
  have hT := h.tT
  have hLE := LENv
  have hKE := KNDv
  have hft := h.fit
  
  refine ent m129 rfl rfl (ls := [.ref o, .int (nI t.length), .ref a]) rfl ?_
  refine w_ald0 i129_0 ?_
  refine w_ald2 i129_1 ?_
  refine w_VD2 i129_2 c130 (Or.inr (Or.inl rfl)) (h.rec (by decide +kernel)) (by repeat (first | exact nvL_nil | refine nvL_cons (by first | assumption | trivial | exact nvSt (by decide) | exact nvD (by assumption) | exact nvK (by omega) (by omega)) ?_)) ⟨(by repeat (first | exact nvL_nil | refine nvL_cons (by first | assumption | trivial | exact nvSt (by decide) | exact nvD (by assumption) | exact nvK (by omega) (by omega)) ?_)), rfl, Nat.le_of_ble_eq_true rfl⟩ (Ex_go (K_infX x h) ?_)
  refine w_ald2 i129_5 ?_
  refine w_ald0 i129_6 ?_
  refine w_gfD i129_7 (Or.inl rfl) h.ob (by decide) h.rvl ?_
  refine w_ild1 i129_10 ?_
  refine w_ald0 i129_11 ?_
  refine w_gfD i129_12 (Or.inl rfl) h.ob (by decide) (dvl_i (by decide) h.cod) ?_
  refine w_VD4 i129_15 c134 (Or.inl rfl) (x.rec (by decide +kernel)) (by repeat (first | exact nvL_nil | refine nvL_cons (by first | assumption | trivial | exact nvSt (by decide) | exact nvD (by assumption) | exact nvK (by omega) (by omega)) ?_)) ⟨(by repeat (first | exact nvL_nil | refine nvL_cons (by first | assumption | trivial | exact nvSt (by decide) | exact nvD (by assumption) | exact nvK (by omega) (by omega)) ?_)), rfl, Nat.le_of_ble_eq_true rfl⟩ ?_
  refine K_gbX h x hr ?_
  refine w_rv i129_18 r129 ?_
  exact hq
set_option maxHeartbeats 100000 in
theorem K_appSD0 {d : Nat} {D : Mm} {Q : Option Value → Mm → Prop} {lo T u o b : Nat} {t : List Nat} (h : SbX D lo T u o b t) {a bt : Nat} {k : List Nat} (x : TxD D a bt k) (hl : t.length + k.length ≤ T) (ho : a ≠ o) (hb : bt ≠ b) (hq : ∀ D2 b2, StX D D2 lo T u o b b2 (t ++ k) → Q (some (.ref o)) D2) : Ct (d + 5) 128 [.ref o, .ref a] D Q := by
  have hna := x.nv.1
  have hnb := x.nv.2
  have hkl := x.2.1
  have hdo := h.ob.1
  have hdb := h.rb.1
  have hcp := h.cpm
  have hT := h.tT
  have hLE := LENv
  have hKE := KNDv
  have hft := h.fit
  
  refine ent m128 rfl rfl (ls := [.ref o, .ref a, .retAddr 0]) rfl ?_
  refine w_ald1 i128_0 ?_
  refine w_nnul i128_1 g128_1 ?_
  refine w_ald1 i128_9 ?_
  refine w_VD1 i128_10 c204 (Or.inl rfl) (x.rec (by decide +kernel)) (by repeat (first | exact nvL_nil | refine nvL_cons (by first | assumption | trivial | exact nvSt (by decide) | exact nvD (by assumption) | exact nvK (by omega) (by omega)) ?_)) ⟨(by repeat (first | exact nvL_nil | refine nvL_cons (by first | assumption | trivial | exact nvSt (by decide) | exact nvD (by assumption) | exact nvK (by omega) (by omega)) ?_)), rfl, Nat.le_of_ble_eq_true rfl⟩ (Ex_go (K_slenX x) ?_)
  refine w_ist2 i128_13 ?_
  refine w_ald0 i128_14 ?_
  refine w_ald0 i128_15 ?_
  refine w_gfD i128_16 (Or.inl rfl) h.ob (by decide) (dvl_i (by decide) h.len) ?_
  refine w_ild2 i128_19 ?_
  refine w_iadd i128_20 (nI_add _ _) ?_
  refine w_VD2 i128_21 c217 (Or.inr (Or.inl rfl)) (h.rec (by decide +kernel)) (by repeat (first | exact nvL_nil | refine nvL_cons (by first | assumption | trivial | exact nvSt (by decide) | exact nvD (by assumption) | exact nvK (by omega) (by omega)) ?_)) ⟨(by repeat (first | exact nvL_nil | refine nvL_cons (by first | assumption | trivial | exact nvSt (by decide) | exact nvD (by assumption) | exact nvK (by omega) (by omega)) ?_)), rfl, Nat.le_of_ble_eq_true rfl⟩ ?_
  refine K_ensD h hl (fun D2 b2 g gC => ?_)
  have h2 := g.1
  have hdo2 := h2.ob.1
  have hdb2 := h2.rb.1
  have hcp2 := h2.cpm
  have go2 := dyn_ge h2.ob
  have gb2 := dyn_ge h2.rb
  have hne2 := h2.ne
  have gx := g.2.1
  have x2 : TxD D2 a bt k := by
    refine x.fr gx.2 ?_ ?_
    · rcases Nat.lt_or_ge a 5000 with q | q
      · exact Or.inl q
      · rcases x.2.2 with ⟨z1, z2, -⟩ | ⟨z1, z2, -⟩
        · exact Or.inr (gx.1 a z1.1.2 (by omega) ho (fun e => by have q1 := z1.2; have q2 := h.rb.2; rw [e] at q1; omega))
        · omega
    · rcases Nat.lt_or_ge bt 5000 with q | q
      · exact Or.inl q
      · rcases x.2.2 with ⟨z1, z2, -⟩ | ⟨z1, z2, z3, -⟩
        · exact Or.inr (gx.1 bt z2.1.2 (by omega) (fun e => by have q1 := z2.2; have q2 := h.ob.2; rw [e] at q1; omega) hb)
        · omega
  have hna2 := x2.nv.1
  refine w_ald0 i128_24 ?_
  refine w_ald0 i128_25 ?_
  refine w_gfD i128_26 (Or.inl rfl) h2.ob (by decide) (dvl_i (by decide) h2.len) ?_
  refine w_ald1 i128_29 ?_
  refine w_VD3 i128_30 c129 (Or.inr (Or.inl rfl)) (h2.rec (by decide +kernel)) (by repeat (first | exact nvL_nil | refine nvL_cons (by first | assumption | trivial | exact nvSt (by decide) | exact nvD (by assumption) | exact nvK (by omega) (by omega)) ?_)) ⟨(by repeat (first | exact nvL_nil | refine nvL_cons (by first | assumption | trivial | exact nvSt (by decide) | exact nvD (by assumption) | exact nvK (by omega) (by omega)) ?_)), rfl, Nat.le_of_ble_eq_true rfl⟩ ?_
  refine K_psX h2 x2 gC ?_
  have hdo3 : dyn (cpD D2 bt b2 0 t.length k.length) o 0 := dyn_cp h2.ob (by omega) (by omega)
  have elen : cpD D2 bt b2 0 t.length k.length o 3 = nI t.length := (congrFun (cp_ne hne2) 3).trans h2.len
  refine w_ald0 i128_33 ?_
  refine w_dup i128_34 rfl ?_
  refine w_gfD i128_35 (Or.inl rfl) hdo3 (by decide) (dvl_i (by decide) elen) ?_
  refine w_ild2 i128_38 ?_
  refine w_iadd i128_39 (nI_add _ _) ?_
  refine w_pfDI i128_40 (Or.inl rfl) hdo3 (by decide) rfl ?_
  refine w_ald0 i128_43 ?_
  refine w_raD i128_44 r128 (dyn_mup hdo3 (by omega) (Or.inr (by decide))).1 ?_
  refine hq _ b2 (g.tr (h2.put (k := k) (fun j hj => (mupJ hj).trans (congrFun (cp_ne hne2) j)) mupE (fun q y1 y2 => (mupF y1).trans (cp_ne y2)) (fun i hi => ?_) (fun j hj => (mupC (fun e => hne2 e.symm)).trans (cp_out hj)) gC x.1))
  refine (mupC (fun e => hne2 e.symm)).trans ((cp_in (by omega) (by omega)).trans ?_)
  rw [show 0 + (t.length + i - t.length) = i by omega]
  exact x2.csD hi
set_option maxHeartbeats 100000 in
theorem K_appSD {d : Nat} {D : Mm} {Q : Option Value → Mm → Prop} {lo T u o b : Nat} {t : List Nat} (h : SbX D lo T u o b t) {a bt : Nat} {k : List Nat} (x : TxD D a bt k) (hl : t.length + k.length ≤ T) (ho : a ≠ o) (hb : bt ≠ b) (hq : ∀ D2 b2, StX D D2 lo T u o b b2 (t ++ k) → Q (some (.ref o)) D2) : Ct (d + 6) 126 [.ref o, .ref a] D Q := by
  have hna := x.nv.1
  have hnb := x.nv.2
  have hkl := x.2.1
  have hdo := h.ob.1
  have hdb := h.rb.1
  have hcp := h.cpm
  have hT := h.tT
  have hLE := LENv
  have hKE := KNDv
  have hft := h.fit
  
  refine ent m126 rfl rfl (ls := [.ref o, .ref a]) rfl ?_
  refine w_ald0 i126_0 ?_
  refine w_ald1 i126_1 ?_
  refine w_PD2 i126_2 c128 (Or.inl rfl) (h.rec (by decide +kernel)) (by repeat (first | exact nvL_nil | refine nvL_cons (by first | assumption | trivial | exact nvSt (by decide) | exact nvD (by assumption) | exact nvK (by omega) (by omega)) ?_)) ⟨(by repeat (first | exact nvL_nil | refine nvL_cons (by first | assumption | trivial | exact nvSt (by decide) | exact nvD (by assumption) | exact nvK (by omega) (by omega)) ?_)), rfl, Nat.le_of_ble_eq_true rfl⟩ ?_
  refine K_appSD0 h x hl ho hb (fun D2 b2 g => ?_)
  refine w_pop i126_5 rfl ?_
  refine w_ald0 i126_6 ?_
  refine w_raD i126_7 r126 g.1.ob.1 ?_
  exact hq _ _ g
set_option maxHeartbeats 100000 in
theorem K_appSDb {d : Nat} {D : Mm} {Q : Option Value → Mm → Prop} {lo T u o b : Nat} {t : List Nat} (h : SbX D lo T u o b t) {a bt : Nat} {k : List Nat} (x : TxD D a bt k) (hl : t.length + k.length ≤ T) (ho : a ≠ o) (hb : bt ≠ b) (hq : ∀ D2 b2, StX D D2 lo T u o b b2 (t ++ k) → Q (some (.ref o)) D2) : Ct (d + 7) 127 [.ref o, .ref a] D Q := by
  have hna := x.nv.1
  have hnb := x.nv.2
  have hkl := x.2.1
  have hdo := h.ob.1
  have hdb := h.rb.1
  have hcp := h.cpm
  have hT := h.tT
  have hLE := LENv
  have hKE := KNDv
  have hft := h.fit
  
  refine ent m127 rfl rfl (ls := [.ref o, .ref a]) rfl ?_
  refine w_ald0 i127_0 ?_
  refine w_ald1 i127_1 ?_
  refine w_VD2 i127_2 c126 (Or.inl rfl) (h.rec (by decide +kernel)) (by repeat (first | exact nvL_nil | refine nvL_cons (by first | assumption | trivial | exact nvSt (by decide) | exact nvD (by assumption) | exact nvK (by omega) (by omega)) ?_)) ⟨(by repeat (first | exact nvL_nil | refine nvL_cons (by first | assumption | trivial | exact nvSt (by decide) | exact nvD (by assumption) | exact nvK (by omega) (by omega)) ?_)), rfl, Nat.le_of_ble_eq_true rfl⟩ ?_
  refine K_appSD h x hl ho hb (fun D2 b2 g => ?_)
  refine w_raD i127_5 r127 g.1.ob.1 ?_
  exact hq _ _ g
