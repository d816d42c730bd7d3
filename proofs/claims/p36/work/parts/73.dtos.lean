/-! texts are made, and held side by side -/
/-- a row that was copied for a text -/
def CpX (D D2 : Mm) (b n : Nat) : Prop := dyn D2 (DB + nxt D) 22 ∧ cap D2 (DB + nxt D) = n ∧ (∀ i, i < n → D2 (DB + nxt D) i = D b i) ∧ (∀ q, q < DB + nxt D → q ≠ 4500 → D2 q = D q) ∧ nxt D2 = nxt D + 1 ∧ usd D2 = usd D + (n + 1)
theorem cln_x {D : Mm} {b : Nat} (h : dyn D b 22) (hf : fitU D (cap D b)) (hc : cap D b ≤ 1000000) : CpX D (alD D (D b) (cap D b)) b (cap D b) := by
  refine ⟨dyn_new hf h.2, ?_, fun i hi => by rw [al_new], fun q a c => al_old (by omega) c, al_nxt hf, al_usd hf⟩
  show ((alD D (D b) (cap D b)) (DB + nxt D) LEN).toNatClampNeg = _
  rw [al_new]
  rfl
theorem cpy_x {D : Mm} {b n : Nat} (h : dyn D b 22) (hf : fitU D n) (hn : n ≤ cap D b) (hc : cap D b ≤ 1000000) : CpX D (cpD (alD D (rwA 22 n) n) b (DB + nxt D) 0 0 n) b n := by
  have go := dyn_ge h
  have hBE := DBv
  have hn4 : DB + nxt D ≠ 4500 := by omega
  refine ⟨dyn_cp (dyn_new hf (by rw [rwA_k]; exact nI_clamp (by omega))) hn4 (by omega), ?_, fun i hi => ?_, fun q a c => ?_, by rw [nxt_cp hn4, al_nxt hf], by rw [usd_cp hn4, al_usd hf]⟩
  · rw [cap_cp (by omega), cap_new (by omega)]
  · rw [cp_in (Nat.zero_le _) (by omega), csD_d (by omega), al_old (by omega) (by omega), Nat.sub_zero, Nat.zero_add]
  · rw [cp_ne (by omega), al_old (by omega) c]
set_option maxHeartbeats 100000 in
theorem K_ckl {d : Nat} {D : Mm} {n : Nat} (hn : n < 2147483648) : Ct (d + 1) 141 [.int (nI 0), .int (nI n)] D (Ex none D) := by
  refine ent m141 rfl rfl (ls := [.int (nI 0), .int (nI n)]) rfl ?_
  refine w_ild1 i141_0 ?_
  refine w_ild0 i141_1 ?_
  refine w_cgeNT i141_2 g141_2 (by omega) (by omega) (Nat.zero_le _) ?_
  refine w_rv i141_37 r141 ?_
  exact ⟨rfl, rfl⟩
set_option maxHeartbeats 100000 in
theorem K_cor0 {d : Nat} {D : Mm} {Q : Option Value → Mm → Prop} {b n : Nat} (hb : dyn D b 22) (hc : cap D b ≤ 20000) (hf : ∀ j, j < cap D b → fits .byte (.int (D b j)) = true) (hn : n ≤ cap D b) (hu : fitU D n) (hq : Q (some (.ref (DB + nxt D))) (cpD (alD D (rwA 22 n) n) b (DB + nxt D) 0 0 n)) : Ct (d + 2) 140 [.ref b, .int (nI 0), .int (nI n)] D Q := by
  have hdb := hb.1
  have gb := dyn_ge hb
  have hBE := DBv
  have hdb2 := (dyn_al (f := rwA 22 n) (n := n) hb hu).1
  have hdn : dyn (alD D (rwA 22 n) n) (DB + nxt D) 22 := dyn_new hu (by rw [rwA_k]; exact nI_clamp (by omega))
  have hdn1 := hdn.1
  have ec : cap (alD D (rwA 22 n) n) b = cap D b := cap_al (by omega) (by omega)
  refine ent m140 rfl rfl (ls := [.ref b, .int (nI 0), .int (nI n), .retAddr 0, .retAddr 0]) rfl ?_
  refine w_ild1 i140_0 ?_
  refine w_ild2 i140_1 ?_
  refine w_SD2 i140_2 c141 rfl (by repeat (first | exact nvL_nil | refine nvL_cons (by first | assumption | trivial | exact nvSt (by decide) | exact nvD (by assumption) | exact nvK (by omega) (by omega)) ?_)) ⟨(by repeat (first | exact nvL_nil | refine nvL_cons (by first | assumption | trivial | exact nvSt (by decide) | exact nvD (by assumption) | exact nvK (by omega) (by omega)) ?_)), rfl, Nat.le_of_ble_eq_true rfl⟩ (Ex_go (K_ckl (by omega)) ?_)
  refine w_ild2 i140_5 ?_
  refine w_ild1 i140_6 ?_
  refine w_isub i140_7 (nI_sub (Nat.zero_le _)) ?_
  rw [Nat.sub_zero]
  refine w_ist3 i140_8 ?_
  refine w_ild3 i140_9 ?_
  refine w_nab i140_10 (by omega) (nvL_ok (by repeat (first | exact nvL_nil | refine nvL_cons (by first | assumption | trivial | exact nvSt (by decide) | exact nvD (by assumption) | exact nvK (by omega) (by omega)) ?_))) (nvL_ok nvL_nil) hu ?_
  refine w_ast4 i140_12 ?_
  refine w_ald0 i140_14 ?_
  refine w_ild1 i140_15 ?_
  refine w_ald4 i140_16 ?_
  refine w_const i140_18 kc_0 ?_
  refine w_ald0 i140_19 ?_
  refine w_alnD i140_20 (Or.inl (dyn_al hb hu)) ec ?_
  refine w_ild1 i140_21 ?_
  refine w_isub i140_22 (nI_sub (Nat.zero_le _)) ?_
  rw [Nat.sub_zero]
  refine w_ild3 i140_23 ?_
  refine w_SD2 i140_24 c202 rfl (by repeat (first | exact nvL_nil | refine nvL_cons (by first | assumption | trivial | exact nvSt (by decide) | exact nvD (by assumption) | exact nvK (by omega) (by omega)) ?_)) ⟨(by repeat (first | exact nvL_nil | refine nvL_cons (by first | assumption | trivial | exact nvSt (by decide) | exact nvD (by assumption) | exact nvK (by omega) (by omega)) ?_)), rfl, Nat.le_of_ble_eq_true rfl⟩ (Ex_go K_min ?_)
  have em : ifp (nI (cap D b) ≤ nI n) (nI (cap D b)) (nI n) = nI n := by
    by_cases q : nI (cap D b) ≤ nI n
    · rw [ifp_t q]; have := (nI_leI (by omega) (by omega)).mp q; rw [show cap D b = n by omega]
    · exact ifp_f q
  rw [em]
  refine w_cpy i140_27 (Or.inl (dyn_al hb hu)) hdn ⟨rfl, Nat.le_of_ble_eq_true rfl⟩ (by rw [csL_d (by omega), ec]; omega) (by rw [cap_new (by omega)]; omega) ⟨by rw [csL_d (by omega), ec]; omega, by rw [cap_new (by omega)]; omega⟩ (fun i hi => by rw [csD_d (by omega), al_old (by omega) (by omega), Nat.zero_add]; exact hf i (by omega)) ?_
  refine w_ald4 i140_30 ?_
  refine w_raA i140_32 r140 (nvD (dyn_cp hdn (by omega) (by omega)).1) ?_
  exact hq
set_option maxHeartbeats 100000 in
theorem K_cor1 {d : Nat} {D : Mm} {Q : Option Value → Mm → Prop} {b n : Nat} (hb : dyn D b 22) (hc : cap D b ≤ 20000) (hf : ∀ j, j < cap D b → fits .byte (.int (D b j)) = true) (hn : n ≤ cap D b) (hne : n ≠ cap D b) (hu : fitU D n) (hq : Q (some (.ref (DB + nxt D))) (cpD (alD D (rwA 22 n) n) b (DB + nxt D) 0 0 n)) : Ct (d + 3) 139 [.ref b, .int (nI 0), .int (nI n)] D Q := by
  have hdb := hb.1
  have gb := dyn_ge hb
  have hBE := DBv
  
  refine ent m139 rfl rfl (ls := [.ref b, .int (nI 0), .int (nI n)]) rfl ?_
  refine w_ild1 i139_0 ?_
  refine w_ineNF i139_1 (by omega) (by omega) ?_
  refine w_ild2 i139_4 ?_
  refine w_ald0 i139_5 ?_
  refine w_alnD i139_6 (Or.inl hb) rfl ?_
  refine w_ceqNF i139_7 (by omega) (by omega) hne ?_
  refine w_ald0 i139_10 ?_
  refine w_ild1 i139_11 ?_
  refine w_ild2 i139_12 ?_
  refine w_SD3 i139_13 c140 rfl (by repeat (first | exact nvL_nil | refine nvL_cons (by first | assumption | trivial | exact nvSt (by decide) | exact nvD (by assumption) | exact nvK (by omega) (by omega)) ?_)) ⟨(by repeat (first | exact nvL_nil | refine nvL_cons (by first | assumption | trivial | exact nvSt (by decide) | exact nvD (by assumption) | exact nvK (by omega) (by omega)) ?_)), rfl, Nat.le_of_ble_eq_true rfl⟩ ?_
  refine K_cor0 hb hc hf hn hu ?_
  refine w_raA i139_16 r139 (nvD (dyn_cp (dyn_new (k := 22) hu (by rw [rwA_k]; exact nI_clamp (by omega))) (by omega) (by omega)).1) ?_
  exact hq
set_option maxHeartbeats 100000 in
theorem K_cor2 {d : Nat} {D : Mm} {Q : Option Value → Mm → Prop} {b n : Nat} (hb : dyn D b 22) (hc : cap D b ≤ 20000) (hf : ∀ j, j < cap D b → fits .byte (.int (D b j)) = true) (hn : n = cap D b) (hu : fitU D (cap D b)) (hq : Q (some (.ref (DB + nxt D))) (alD D (D b) (cap D b))) : Ct (d + 3) 139 [.ref b, .int (nI 0), .int (nI n)] D Q := by
  have hdb := hb.1
  have gb := dyn_ge hb
  have hBE := DBv
  
  refine ent m139 rfl rfl (ls := [.ref b, .int (nI 0), .int (nI n)]) rfl ?_
  refine w_ild1 i139_0 ?_
  refine w_ineNF i139_1 (by omega) (by omega) ?_
  refine w_ild2 i139_4 ?_
  refine w_ald0 i139_5 ?_
  refine w_alnD i139_6 (Or.inl hb) rfl ?_
  refine w_ceqNT i139_7 g139_7 (by omega) (by omega) hn ?_
  refine w_ald0 i139_17 ?_
  refine w_cln i139_18 hb hf ⟨rfl, Nat.le_of_ble_eq_true rfl⟩ (by omega) (nvL_ok (by repeat (first | exact nvL_nil | refine nvL_cons (by first | assumption | trivial | exact nvSt (by decide) | exact nvD (by assumption) | exact nvK (by omega) (by omega)) ?_))) (nvL_ok (by repeat (first | exact nvL_nil | refine nvL_cons (by first | assumption | trivial | exact nvSt (by decide) | exact nvD (by assumption) | exact nvK (by omega) (by omega)) ?_))) hu ?_
  have hdn := dyn_new (f := D b) hu hb.2
  refine w_castB i139_21 hdn ?_
  refine w_raA i139_24 r139 (nvD hdn.1) ?_
  exact hq
theorem K_cor {d : Nat} {D : Mm} {Q : Option Value → Mm → Prop} {b n : Nat} (hb : dyn D b 22) (hc : cap D b ≤ 20000) (hf : ∀ j, j < cap D b → fits .byte (.int (D b j)) = true) (hn : n ≤ cap D b) (hu : fitU D n) (hq : ∀ D2, CpX D D2 b n → Q (some (.ref (DB + nxt D))) D2) : Ct (d + 3) 139 [.ref b, .int (nI 0), .int (nI n)] D Q := by
  by_cases e : n = cap D b
  · rw [e] at hu
    refine K_cor2 hb hc hf e hu (hq _ ?_)
    rw [e]
    exact cln_x hb hu (by omega)
  · exact K_cor1 hb hc hf hn e hu (hq _ (cpy_x hb hu hn (by omega)))
set_option maxHeartbeats 100000 in
theorem K_gv {d : Nat} {D : Mm} {lo T u o b : Nat} {t : List Nat} (h : SbX D lo T u o b t) : Ct (d + 1) 138 [.ref o] D (Ex (some (.ref b)) D) := by
  have hdo := h.ob.1
  have hdb := h.rb.1
  have hcp := h.cpm
  have hT := h.tT
  have hLE := LENv
  have hKE := KNDv
  have hBE := DBv
  have hft := h.fit
  have go := dyn_ge h.ob
  have gb := dyn_ge h.rb
  have hus := h.us
  have huu := h.uu
  have hnu := h.nu
  
  refine ent m138 rfl rfl (ls := [.ref o]) rfl ?_
  refine w_ald0 i138_0 ?_
  refine w_gfD i138_1 (Or.inl rfl) h.ob (by decide) h.rvl ?_
  refine w_raA i138_4 r138 (nvD hdb) ?_
  exact ⟨rfl, rfl⟩
set_option maxHeartbeats 100000 in
theorem K_str0 {d : Nat} {D : Mm} {Q : Option Value → Mm → Prop} {lo T u o b s : Nat} {t : List Nat} (h : SbX D lo T u o b t) (hs : dyn D s 9) (hs0 : D s 1 = nI 0) (hu : fitU D t.length) (hq : ∀ D2, CpX D D2 b t.length → Q none (mup D2 s 0 (nI (DB + nxt D)))) : Ct (d + 4) 137 [.ref s, .ref o, .null] D Q := by
  have hdo := h.ob.1
  have hdb := h.rb.1
  have hcp := h.cpm
  have hT := h.tT
  have hLE := LENv
  have hKE := KNDv
  have hBE := DBv
  have hft := h.fit
  have go := dyn_ge h.ob
  have gb := dyn_ge h.rb
  have hus := h.us
  have huu := h.uu
  have hnu := h.nu
  have hds := hs.1
  have gs := dyn_ge hs
  
  refine ent m137 rfl rfl (ls := [.ref s, .ref o, .null, .retAddr 0, .retAddr 0]) rfl ?_
  refine w_ald0 i137_0 ?_
  refine w_oin i137_1 ⟨rfl, Nat.le_of_ble_eq_true rfl⟩ ?_
  refine w_ald1 i137_4 ?_
  refine w_VD1 i137_5 c138 (Or.inr (Or.inl rfl)) (h.rec (by decide +kernel)) (by repeat (first | exact nvL_nil | refine nvL_cons (by first | assumption | trivial | exact nvSt (by decide) | exact nvD (by assumption) | exact nvK (by omega) (by omega)) ?_)) ⟨(by repeat (first | exact nvL_nil | refine nvL_cons (by first | assumption | trivial | exact nvSt (by decide) | exact nvD (by assumption) | exact nvK (by omega) (by omega)) ?_)), rfl, Nat.le_of_ble_eq_true rfl⟩ (Ex_go (K_gv h) ?_)
  refine w_ast3 i137_8 ?_
  refine w_ald1 i137_9 ?_
  refine w_VD1 i137_10 c193 (Or.inr (Or.inr rfl)) (h.rec (by decide +kernel)) (by repeat (first | exact nvL_nil | refine nvL_cons (by first | assumption | trivial | exact nvSt (by decide) | exact nvD (by assumption) | exact nvK (by omega) (by omega)) ?_)) ⟨(by repeat (first | exact nvL_nil | refine nvL_cons (by first | assumption | trivial | exact nvSt (by decide) | exact nvD (by assumption) | exact nvK (by omega) (by omega)) ?_)), rfl, Nat.le_of_ble_eq_true rfl⟩ (Ex_go (K_lenD h) ?_)
  refine w_ist4 i137_13 ?_
  refine w_ald1 i137_15 ?_
  refine w_VD1 i137_16 c199 (Or.inr (Or.inl rfl)) (h.rec (by decide +kernel)) (by repeat (first | exact nvL_nil | refine nvL_cons (by first | assumption | trivial | exact nvSt (by decide) | exact nvD (by assumption) | exact nvK (by omega) (by omega)) ?_)) ⟨(by repeat (first | exact nvL_nil | refine nvL_cons (by first | assumption | trivial | exact nvSt (by decide) | exact nvD (by assumption) | exact nvK (by omega) (by omega)) ?_)), rfl, Nat.le_of_ble_eq_true rfl⟩ (Ex_go (K_latD h) ?_)
  refine w_ieqNF i137_19 (by omega) (by omega) ?_
  refine w_ald0 i137_22 ?_
  refine w_const i137_23 kc_0 ?_
  refine w_pfTB i137_24 ⟨by decide +kernel, by decide +kernel⟩ hs ⟨by decide, by decide⟩ ?_
  rw [mup_ix hs0]
  refine w_ald0 i137_27 ?_
  refine w_ald3 i137_28 ?_
  refine w_const i137_29 kc_0 ?_
  refine w_ild4 i137_30 ?_
  refine w_SD3 i137_32 c139 rfl (by repeat (first | exact nvL_nil | refine nvL_cons (by first | assumption | trivial | exact nvSt (by decide) | exact nvD (by assumption) | exact nvK (by omega) (by omega)) ?_)) ⟨(by repeat (first | exact nvL_nil | refine nvL_cons (by first | assumption | trivial | exact nvSt (by decide) | exact nvD (by assumption) | exact nvK (by omega) (by omega)) ?_)), rfl, Nat.le_of_ble_eq_true rfl⟩ ?_
  refine K_cor h.rb (by omega) h.fb h.fit hu (fun D2 g => ?_)
  have hs3 : dyn D2 s 9 := dyn_fr hs (by rw [g.2.2.2.2.1]; omega) (g.2.2.2.1 s (by omega) (by omega))
  refine w_pfTR i137_35 ⟨by decide +kernel, by decide +kernel⟩ hs3 g.1.1 ?_
  refine w_goto i137_38 g137_38 ?_
  refine w_rv i137_97 r137 ?_
  exact hq D2 g
set_option maxHeartbeats 100000 in
theorem K_str1 {d : Nat} {D : Mm} {Q : Option Value → Mm → Prop} {lo T u o b s : Nat} {t : List Nat} (h : SbX D lo T u o b t) (hs : dyn D s 9) (hs0 : D s 1 = nI 0) (hu : fitU D t.length) (hq : ∀ D2, CpX D D2 b t.length → Q none (mup D2 s 0 (nI (DB + nxt D)))) : Ct (d + 5) 136 [.ref s, .ref o] D Q := by
  have hdo := h.ob.1
  have hdb := h.rb.1
  have hcp := h.cpm
  have hT := h.tT
  have hLE := LENv
  have hKE := KNDv
  have hBE := DBv
  have hft := h.fit
  have go := dyn_ge h.ob
  have gb := dyn_ge h.rb
  have hus := h.us
  have huu := h.uu
  have hnu := h.nu
  have hds := hs.1
  have gs := dyn_ge hs
  
  refine ent m136 rfl rfl (ls := [.ref s, .ref o]) rfl ?_
  refine w_ald0 i136_0 ?_
  refine w_ald1 i136_1 ?_
  refine w_null i136_2 ?_
  refine w_PD3 i136_3 c137 (Or.inr rfl) (Or.inr ⟨hs.1, by rw [hs.2]; decide +kernel, by rw [hs.2]; decide⟩) (by repeat (first | exact nvL_nil | refine nvL_cons (by first | assumption | trivial | exact nvSt (by decide) | exact nvD (by assumption) | exact nvK (by omega) (by omega)) ?_)) ⟨(by repeat (first | exact nvL_nil | refine nvL_cons (by first | assumption | trivial | exact nvSt (by decide) | exact nvD (by assumption) | exact nvK (by omega) (by omega)) ?_)), rfl, Nat.le_of_ble_eq_true rfl⟩ ?_
  refine K_str0 h hs hs0 hu (fun D2 g => ?_)
  refine w_rv i136_6 r136 ?_
  exact hq D2 g
/-- what lies below all that is made is as it was -/
def Fr0 (D D2 : Mm) : Prop := FrL (nxt D) D D2
theorem Fr0.rf {D : Mm} : Fr0 D D := FrL.rf
theorem Fr0.tr {D D2 D3 : Mm} (h : Fr0 D D2) (g : Fr0 D2 D3) : Fr0 D D3 := FrL.tr h (FrL.mono g h.2)
set_option maxHeartbeats 100000 in
theorem K_tsD {d : Nat} {D : Mm} {Q : Option Value → Mm → Prop} {lo T u o b : Nat} {t : List Nat} (h : SbX D lo T u o b t) (htT : t.length ≤ T) (huT : u + 5 ≤ 1000000) (hq : ∀ D2 s nb, TxD D2 s nb t → dyn D2 s 9 → DB + nxt D ≤ s ∧ DB + nxt D ≤ nb → Fr0 D D2 → nxt D2 ≤ usd D2 → usd D2 = usd D + t.length + 6 → Q (some (.ref s)) D2) : Ct (d + 6) 135 [.ref o] D Q := by
  have hdo := h.ob.1
  have hdb := h.rb.1
  have hcp := h.cpm
  have hT := h.tT
  have hLE := LENv
  have hKE := KNDv
  have hBE := DBv
  have hft := h.fit
  have go := dyn_ge h.ob
  have gb := dyn_ge h.rb
  have hus := h.us
  have huu := h.uu
  have hnu := h.nu
  have hf : fitU D 4 := ⟨by omega, hnu⟩
  obtain ⟨s, es⟩ : ∃ s, s = DB + nxt D := ⟨_, rfl⟩
  obtain ⟨D1, e1⟩ : ∃ D1, D1 = alD D (rwO 9) 4 := ⟨_, rfl⟩
  have hs : dyn D1 s 9 := by rw [e1, es]; exact dyn_new hf (by rw [rwO_k]; exact nI_clamp (by omega))
  have hs0 : D1 s 1 = nI 0 := by rw [e1, es, al_new]; decide
  have en : nxt D1 = nxt D + 1 := by rw [e1]; exact al_nxt hf
  have eu : usd D1 = usd D + 5 := by rw [e1]; exact al_usd hf
  have fo : ∀ q, q < DB + nxt D → q ≠ 4500 → D1 q = D q := fun q x y => by rw [e1]; exact al_old (by omega) y
  have h1 : SbX D1 lo T (u + 5) o b t ∨ u + 5 > 1000000 := by
    rcases Nat.lt_or_ge 1000000 (u + 5) with z | z
    · exact Or.inr z
    · refine Or.inl ⟨dyn_fr h.ob (by omega) (fo o (by omega) (by omega)), dyn_fr h.rb (by omega) (fo b (by omega) (by omega)), ?_⟩
      have eo := fo o (by omega) (by omega)
      have eb := fo b (by omega) (by omega)
      have ec : cap D1 b = cap D b := by unfold cap; rw [eb]
      rw [eo, eb, ec]
      exact ⟨h.val, h.cod, h.len, h.fit, h.cpm, h.tT, h.byr, h.fb, h.low, by omega, by omega, z⟩
  have h1 : SbX D1 lo T (u + 5) o b t := h1.resolve_right (by omega)
  have hu1 : fitU D1 t.length := ⟨by omega, by omega⟩
  refine ent m135 rfl rfl (ls := [.ref o]) rfl ?_
  refine w_new i135_0 (Or.inr (Or.inr rfl)) (nvL_ok (by repeat (first | exact nvL_nil | refine nvL_cons (by first | assumption | trivial | exact nvSt (by decide) | exact nvD (by assumption) | exact nvK (by omega) (by omega)) ?_))) (nvL_ok nvL_nil) hf ?_
  rw [show (9 : Nat) = 9 from rfl, show nF 9 = 4 from rfl, ← es, ← e1]
  have hdo1 := h1.ob.1
  have hds := hs.1
  refine w_dup i135_3 rfl ?_
  refine w_ald0 i135_4 ?_
  refine w_PD2 i135_5 c136 (Or.inr rfl) (Or.inr ⟨hs.1, by rw [hs.2]; decide +kernel, by rw [hs.2]; decide⟩) (by repeat (first | exact nvL_nil | refine nvL_cons (by first | assumption | trivial | exact nvSt (by decide) | exact nvD (by assumption) | exact nvK (by omega) (by omega)) ?_)) ⟨(by repeat (first | exact nvL_nil | refine nvL_cons (by first | assumption | trivial | exact nvSt (by decide) | exact nvD (by assumption) | exact nvK (by omega) (by omega)) ?_)), rfl, Nat.le_of_ble_eq_true rfl⟩ ?_
  refine K_str1 h1 hs hs0 hu1 (fun D2 g => ?_)
  have hs2 : dyn D2 s 9 := dyn_fr hs (by rw [g.2.2.2.2.1]; omega) (g.2.2.2.1 s (by omega) (by omega))
  have hne : DB + nxt D1 ≠ s := by omega
  have x2 : TxD (mup D2 s 0 (nI (DB + nxt D1))) s (DB + nxt D1) t := by
    refine ⟨h.byr.2, by omega, Or.inl ⟨dyn_mup hs2 (by omega) (Or.inr (by decide)), dyn_mup g.1 (by omega) (Or.inl (fun e => hne e.symm)), mupE, ?_, ?_, fun i hi => ?_, by omega⟩⟩
    · exact (mupJ (by decide)).trans ((congrFun (g.2.2.2.1 s (by omega) (by omega)) 1).trans hs0)
    · rw [cap_mup2 (Or.inl hne)]; exact g.2.1
    · refine (mupC hne).trans ((g.2.2.1 i hi).trans ?_)
      exact h1.byr.1 i hi
  refine w_raD i135_8 r135 (dyn_mup (k := 9) hs2 (by omega) (Or.inr (by decide))).1 ?_
  refine hq _ s (DB + nxt D1) x2 (dyn_mup hs2 (by omega) (Or.inr (by decide))) ⟨by omega, by omega⟩ ⟨fun q y1 y2 => ?_, ?_⟩ ?_ ?_
  · rw [mupF (by omega), g.2.2.2.1 q (by omega) y2]; exact fo q y1 y2
  · rw [nxt_mup (by omega), g.2.2.2.2.1]; omega
  · rw [nxt_mup (by omega), usd_mup (by omega), g.2.2.2.2.1, g.2.2.2.2.2]; omega
  · rw [usd_mup (by omega), g.2.2.2.2.2]; omega
set_option maxHeartbeats 100000 in
theorem K_eqB {d : Nat} {D : Mm} {b1 b2 : Nat} {k : List Nat} (h1 : dyn D b1 22) (h2 : dyn D b2 22) (hk : k.length ≤ 5000) (c1 : cap D b1 = k.length) (c2 : cap D b2 = k.length) (g1 : ∀ i, i < k.length → D b1 i = nI (k.getD i 0)) (g2 : ∀ i, i < k.length → D b2 i = nI (k.getD i 0)) : Ct (d + 1) 143 [.ref b1, .ref b2] D (Ex (some (.int (nI 1))) D) := by
  refine ent m143 rfl rfl (ls := [.ref b1, .ref b2, .retAddr 0]) rfl ?_
  refine w_ald0 i143_0 ?_
  refine w_alnD i143_1 (Or.inl h1) c1 ?_
  refine w_ald1 i143_2 ?_
  refine w_alnD i143_3 (Or.inl h2) c2 ?_
  refine w_cneNF i143_4 (by omega) (by omega) rfl ?_
  refine w_const i143_7 kc_0 ?_
  refine w_ist2 i143_8 ?_
  refine down0 (n := k.length) (P := fun i => Wp _ _ _ 9 [.ref b1, .ref b2, .int (nI i)] [] D) ?_ ?_
  · skip
    refine w_ild2 i143_9 ?_
    refine w_ald0 i143_10 ?_
    refine w_alnD i143_11 (Or.inl h1) c1 ?_
    refine w_cgeNT i143_12 g143_12 (by omega) (by omega) (Nat.le_refl _) ?_
    refine w_const i143_32 kc_1 ?_
    refine w_rz i143_33 r143 nar_z1 ?_
    exact ⟨rfl, rfl⟩
  · intro i hi ih
    refine w_ild2 i143_9 ?_
    refine w_ald0 i143_10 ?_
    refine w_alnD i143_11 (Or.inl h1) c1 ?_
    refine w_cgeNF i143_12 (by omega) (by omega) (by omega) ?_
    refine w_ald0 i143_15 ?_
    refine w_ild2 i143_16 ?_
    refine w_balD i143_17 h1 (by omega) (by omega) (g1 i (by omega)) ?_
    refine w_ald1 i143_18 ?_
    refine w_ild2 i143_19 ?_
    refine w_balD i143_20 h2 (by omega) (by omega) (g2 i (by omega)) ?_
    refine w_ceqT i143_21 g143_21  rfl ?_
    refine w_inc2 i143_26 (inc1 _) ?_
    refine w_goto i143_29 g143_29 ?_
    exact ih
set_option maxHeartbeats 100000 in
theorem K_eqD {d : Nat} {D : Mm} {s1 s2 b1 b2 : Nat} {k : List Nat} (x1 : TxD D s1 b1 k) (x2 : TxD D s2 b2 k) (h1 : dyn D s1 9) (h2 : dyn D s2 9) (hne : s1 ≠ s2) : Ct (d + 2) 142 [.ref s1, .ref s2] D (Ex (some (.int (nI 1))) D) := by
  have hds1 := h1.1
  have hds2 := h2.1
  have hkl := x1.2.1
  have q1 := x1.2.2.resolve_right (fun z => by have := dyn_ge h1; omega)
  have q2 := x2.2.2.resolve_right (fun z => by have := dyn_ge h2; omega)
  have hdb1 := q1.2.1.1
  have hdb2 := q2.2.1.1
  refine ent m142 rfl rfl (ls := [.ref s1, .ref s2, .retAddr 0]) rfl ?_
  refine w_ald0 i142_0 ?_
  refine w_ald1 i142_1 ?_
  refine w_acne i142_2 g142_2 h1.1 h2.1 hne ?_
  refine w_ald1 i142_7 ?_
  refine w_inst i142_8 h2 ?_
  refine w_ieqNF i142_11 (by omega) (by omega) ?_
  refine w_ald1 i142_14 ?_
  refine w_castS i142_15 h2 ?_
  refine w_ast2 i142_18 ?_
  refine w_gst (w := .int (nI 1)) i142_19 rfl ?_
  refine w_ieqNF i142_22 (by omega) (by omega) ?_
  refine w_ald0 i142_25 ?_
  refine x1.w1 i142_26 ?_
  refine w_ald2 i142_29 ?_
  refine x2.w1 i142_30 ?_
  refine w_cneNF i142_33 (by omega) (by omega) (by omega) ?_
  refine w_ald0 i142_36 ?_
  refine x1.w0 i142_37 ?_
  refine w_ald2 i142_40 ?_
  refine x2.w0 i142_41 ?_
  refine w_SD2 i142_44 c143 rfl (by repeat (first | exact nvL_nil | refine nvL_cons (by first | assumption | trivial | exact nvSt (by decide) | exact nvD (by assumption) | exact nvK (by omega) (by omega)) ?_)) ⟨(by repeat (first | exact nvL_nil | refine nvL_cons (by first | assumption | trivial | exact nvSt (by decide) | exact nvD (by assumption) | exact nvK (by omega) (by omega)) ?_)), rfl, Nat.le_of_ble_eq_true rfl⟩ (Ex_go (K_eqB q1.2.1 q2.2.1 hkl q1.2.2.2.2.1 q2.2.2.2.2.1 q1.2.2.2.2.2.1 q2.2.2.2.2.2.1) ?_)
  refine w_ieqNF i142_47 (by omega) (by omega) ?_
  refine w_const i142_50 kc_1 ?_
  refine w_goto i142_51 g142_51 ?_
  refine w_rz i142_55 r142 nar_z1 ?_
  exact ⟨rfl, rfl⟩
