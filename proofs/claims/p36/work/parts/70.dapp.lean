/-! signs and numbers behind a builder -/
set_option maxHeartbeats 100000 in
theorem K_appCD0 {d : Nat} {D : Mm} {Q : Option Value → Mm → Prop} {lo T u o b : Nat} {t : List Nat} (h : SbX D lo T u o b t) (hl : t.length + 1 ≤ T) {c : Nat} (hc : c < 128) (hq : ∀ D2 b2, StX D D2 lo T u o b b2 (t ++ [c]) → Q (some (.ref o)) D2) : Ct (d + 5) 197 [.ref o, .int (nI c)] D Q := by
  have hdo := h.ob.1
  have hdb := h.rb.1
  have hcp := h.cpm
  have hT := h.tT
  have hLE := LENv
  have hKE := KNDv
  have hft := h.fit
  
  refine ent m197 rfl rfl (ls := [.ref o, .int (nI c)]) rfl ?_
  refine w_ald0 i197_0 ?_
  refine w_ald0 i197_1 ?_
  refine w_gfD i197_2 (Or.inl rfl) h.ob (by decide) (dvl_i (by decide) h.len) ?_
  refine w_const i197_5 kc_1 ?_
  refine w_iadd i197_6 (nI_add _ _) ?_
  refine w_VD2 i197_7 c217 (Or.inr (Or.inl rfl)) (h.rec (by decide +kernel)) (by repeat (first | exact nvL_nil | refine nvL_cons (by first | assumption | trivial | exact nvSt (by decide) | exact nvD (by assumption) | exact nvK (by omega) (by omega)) ?_)) ⟨(by repeat (first | exact nvL_nil | refine nvL_cons (by first | assumption | trivial | exact nvSt (by decide) | exact nvD (by assumption) | exact nvK (by omega) (by omega)) ?_)), rfl, Nat.le_of_ble_eq_true rfl⟩ ?_
  refine K_ensD h hl (fun D2 b2 g gC => ?_)
  have h2 := g.1
  have hdo2 := h2.ob.1
  have hdb2 := h2.rb.1
  have hcp2 := h2.cpm
  have hT2 := h2.tT
  have go2 := dyn_ge h2.ob
  have gb2 := dyn_ge h2.rb
  have hne2 := h2.ne
  refine w_ald0 i197_10 ?_
  refine w_VD1 i197_11 c199 (Or.inr (Or.inl rfl)) (h2.rec (by decide +kernel)) (by repeat (first | exact nvL_nil | refine nvL_cons (by first | assumption | trivial | exact nvSt (by decide) | exact nvD (by assumption) | exact nvK (by omega) (by omega)) ?_)) ⟨(by repeat (first | exact nvL_nil | refine nvL_cons (by first | assumption | trivial | exact nvSt (by decide) | exact nvD (by assumption) | exact nvK (by omega) (by omega)) ?_)), rfl, Nat.le_of_ble_eq_true rfl⟩ (Ex_go (K_latD h2) ?_)
  refine w_ieqNF i197_14 (by omega) (by omega) ?_
  refine w_ild1 i197_17 ?_
  refine w_SD1 i197_18 c213 rfl (by repeat (first | exact nvL_nil | refine nvL_cons (by first | assumption | trivial | exact nvSt (by decide) | exact nvD (by assumption) | exact nvK (by omega) (by omega)) ?_)) ⟨(by repeat (first | exact nvL_nil | refine nvL_cons (by first | assumption | trivial | exact nvSt (by decide) | exact nvD (by assumption) | exact nvK (by omega) (by omega)) ?_)), rfl, Nat.le_of_ble_eq_true rfl⟩ (Ex_go (K_canE hc) ?_)
  refine w_ieqNF i197_21 (by omega) (by omega) ?_
  refine w_ald0 i197_24 ?_
  refine w_gfD i197_25 (Or.inl rfl) h2.ob (by decide) h2.rvl ?_
  refine w_ald0 i197_28 ?_
  refine w_dup i197_29 rfl ?_
  refine w_gfD i197_30 (Or.inl rfl) h2.ob (by decide) (dvl_i (by decide) h2.len) ?_
  refine w_dup_x1 i197_33 rfl rfl ?_
  refine w_const i197_34 kc_1 ?_
  refine w_iadd i197_35 (nI_add _ _) ?_
  refine w_pfDI i197_36 (Or.inl rfl) h2.ob (by decide) rfl ?_
  refine w_ild1 i197_39 ?_
  refine w_i2b i197_40 (i2b_t c hc) ?_
  refine w_basD i197_41 (dyn_mup h2.rb (by omega) (Or.inl hne2)) (by rw [cap_mup2 (Or.inl (fun e => hne2 e.symm))]; omega) (by rw [cap_mup2 (Or.inl (fun e => hne2 e.symm))]; omega) ?_
  refine w_goto i197_42 g197_42 ?_
  refine w_ald0 i197_75 ?_
  refine w_raD i197_76 r197 (dyn_mup (dyn_mup h2.ob (by omega) (Or.inr (by decide))) (by omega) (Or.inl (fun e => hne2 e.symm))).1 ?_
  refine hq _ b2 (g.tr (h2.put (k := [c]) (fun j hj => (mupC hne2).trans (mupJ hj)) ((mupC hne2).trans mupE) (fun q x y => (mupF y).trans (mupF x)) (fun i hi => ?_) (fun j hj => ?_) gC (fun x hx => by rw [List.mem_singleton.mp hx]; exact hc)))
  · have hi : i < 1 := hi
    have e0 : i = 0 := by omega
    subst e0
    exact mupE.trans (narb_t c hc)
  · have hj : j < t.length ∨ t.length + 1 ≤ j := hj
    exact (mupJ (by omega)).trans (mupC (fun e => hne2 e.symm))
set_option maxHeartbeats 100000 in
theorem K_appCD {d : Nat} {D : Mm} {Q : Option Value → Mm → Prop} {lo T u o b : Nat} {t : List Nat} (h : SbX D lo T u o b t) (hl : t.length + 1 ≤ T) {c : Nat} (hc : c < 128) (hq : ∀ D2 b2, StX D D2 lo T u o b b2 (t ++ [c]) → Q (some (.ref o)) D2) : Ct (d + 6) 189 [.ref o, .int (nI c)] D Q := by
  have hdo := h.ob.1
  have hdb := h.rb.1
  have hcp := h.cpm
  have hT := h.tT
  have hLE := LENv
  have hKE := KNDv
  have hft := h.fit
  
  refine ent m189 rfl rfl (ls := [.ref o, .int (nI c)]) rfl ?_
  refine w_ald0 i189_0 ?_
  refine w_ild1 i189_1 ?_
  refine w_PD2 i189_2 c197 (Or.inl rfl) (h.rec (by decide +kernel)) (by repeat (first | exact nvL_nil | refine nvL_cons (by first | assumption | trivial | exact nvSt (by decide) | exact nvD (by assumption) | exact nvK (by omega) (by omega)) ?_)) ⟨(by repeat (first | exact nvL_nil | refine nvL_cons (by first | assumption | trivial | exact nvSt (by decide) | exact nvD (by assumption) | exact nvK (by omega) (by omega)) ?_)), rfl, Nat.le_of_ble_eq_true rfl⟩ ?_
  refine K_appCD0 h hl hc (fun D2 b2 g => ?_)
  refine w_pop i189_5 rfl ?_
  refine w_ald0 i189_6 ?_
  refine w_raD i189_7 r189 g.1.ob.1 ?_
  exact hq _ _ g
def GcL (m0 : Nat) (D D2 : Mm) (s : Nat) (k : List Nat) : Prop := (∀ i, i < k.length → D2 m0 (s + i) = nI (k.getD i 0)) ∧ (∀ j, (j < s ∨ s + k.length ≤ j) → D2 m0 j = D m0 j) ∧ (∀ q, q ≠ m0 → D2 q = D q)
/-- a number that is written, its signs -/
def okN (x : Int32) (k : List Nat) : Prop := (∃ n, n < 100000 ∧ x = nI n ∧ k = dgl n) ∨ (x = -1015 ∧ k = [45, 49, 48, 49, 53])
theorem okN_len {x : Int32} {k : List Nat} (h : okN x k) : k.length ≤ 5 ∧ ∀ c, c ∈ k → c < 128 := by
  rcases h with ⟨n, hn, -, rfl⟩ | ⟨-, rfl⟩
  · exact ⟨dgl_len, dgl_lt hn⟩
  · exact ⟨by decide, by decide⟩
set_option maxHeartbeats 100000 in
theorem K_sizeM {d : Nat} {D : Mm} : Ct (d + 1) 201 [.int (-1015)] D (Ex (some (.int (nI 5))) D) := by
  refine ent m201 rfl rfl (ls := [.int (-1015), .retAddr 0, .retAddr 0, .retAddr 0]) rfl ?_
  refine w_const i201_0 kc_1 ?_
  refine w_ist1 i201_1 ?_
  refine w_ild0 i201_2 ?_
  refine w_iltT i201_3 g201_3 (by decide) ?_
  refine w_bip i201_11 kb_m10 ?_
  refine w_ist2 i201_13 ?_
  refine w_const i201_14 kc_1 ?_
  refine w_ist3 i201_15 ?_
  refine w_ild3 i201_16 ?_
  refine w_bip i201_17 kb_10 ?_
  refine w_cgeF i201_19 (by decide) ?_
  refine w_ild0 i201_22 ?_
  refine w_ild2 i201_23 ?_
  refine w_cleT i201_24 g201_24 (by decide) ?_
  refine w_bip i201_31 kb_10 ?_
  refine w_ild2 i201_33 ?_
  refine w_imul i201_34 rfl ?_
  refine w_ist2 i201_35 ?_
  refine w_inc3 i201_36 (inc1 _) ?_
  refine w_goto i201_39 g201_39 ?_
  refine w_ild3 i201_16 ?_
  refine w_bip i201_17 kb_10 ?_
  refine w_cgeF i201_19 (by decide) ?_
  refine w_ild0 i201_22 ?_
  refine w_ild2 i201_23 ?_
  refine w_cleT i201_24 g201_24 (by decide) ?_
  refine w_bip i201_31 kb_10 ?_
  refine w_ild2 i201_33 ?_
  refine w_imul i201_34 rfl ?_
  refine w_ist2 i201_35 ?_
  refine w_inc3 i201_36 (inc1 _) ?_
  refine w_goto i201_39 g201_39 ?_
  refine w_ild3 i201_16 ?_
  refine w_bip i201_17 kb_10 ?_
  refine w_cgeF i201_19 (by decide) ?_
  refine w_ild0 i201_22 ?_
  refine w_ild2 i201_23 ?_
  refine w_cleT i201_24 g201_24 (by decide) ?_
  refine w_bip i201_31 kb_10 ?_
  refine w_ild2 i201_33 ?_
  refine w_imul i201_34 rfl ?_
  refine w_ist2 i201_35 ?_
  refine w_inc3 i201_36 (inc1 _) ?_
  refine w_goto i201_39 g201_39 ?_
  refine w_ild3 i201_16 ?_
  refine w_bip i201_17 kb_10 ?_
  refine w_cgeF i201_19 (by decide) ?_
  refine w_ild0 i201_22 ?_
  refine w_ild2 i201_23 ?_
  refine w_cleF i201_24 (by decide) ?_
  refine w_ild3 i201_27 ?_
  refine w_ild1 i201_28 ?_
  refine w_iadd i201_29 rfl ?_
  refine w_ri i201_30 r201 ?_
  exact ⟨rfl, rfl⟩
set_option maxHeartbeats 100000 in
theorem K_getM {d : Nat} {D : Mm} {Q : Option Value → Mm → Prop} {m0 s : Nat} (hs : s + 5 ≤ cap D m0) (hc : cap D m0 ≤ 1000000) (hu : dyn D m0 22) (hq : ∀ D2 v, GcL m0 D D2 s [45, 49, 48, 49, 53] → Q (some (.int v)) D2) : Ct (d + 1) 200 [.int (-1015), .int (nI (s + 5)), .ref m0] D Q := by
  have hLE := LENv
  have hKE := KNDv
  have hg := dyn_ge hu
  refine ent m200 rfl rfl (ls := [.int (-1015), .int (nI (s + 5)), .ref m0, .retAddr 0, .retAddr 0, .retAddr 0, .retAddr 0]) rfl ?_
  refine w_ild1 i200_0 ?_
  refine w_ist5 i200_1 ?_
  refine w_ild0 i200_3 ?_
  refine w_igeF i200_4 (by decide) ?_
  refine w_const i200_7 kc_1 ?_
  refine w_goto i200_8 g200_8 ?_
  refine w_ist6 i200_12 ?_
  refine w_ild6 i200_14 ?_
  refine w_ineNT i200_16 g200_16 (by omega) (by omega) ?_
  refine w_ild0 i200_22 ?_
  refine w_bip i200_23 kb_m100 ?_
  refine w_cgtF i200_25 (by decide) ?_
  refine w_ild0 i200_28 ?_
  refine w_bip i200_29 kb_100 ?_
  refine w_idiv i200_31 (v := -10) (by decide) (by decide) ?_
  refine w_ist3 i200_32 ?_
  refine w_ild3 i200_33 ?_
  refine w_bip i200_34 kb_100 ?_
  refine w_imul i200_36 (v := -1000) (by decide) ?_
  refine w_ild0 i200_37 ?_
  refine w_isub i200_38 (v := nI 15) (by decide) ?_
  refine w_ist4 i200_39 ?_
  refine w_ild3 i200_41 ?_
  refine w_ist0 i200_42 ?_
  refine w_ald2 i200_43 ?_
  refine w_inc5 i200_44 (dec1 _) ?_
  refine w_ild5 i200_47 ?_
  refine w_gst i200_49 rfl ?_
  refine w_ild4 i200_52 ?_
  refine w_balO i200_54 (by omega) ?_
  refine w_basD i200_55 hu (by omega) (by omega) ?_
  refine w_ald2 i200_56 ?_
  refine w_inc5 i200_57 (dec1 _) ?_
  refine w_ild5 i200_60 ?_
  refine w_gst i200_62 rfl ?_
  refine w_ild4 i200_65 ?_
  refine w_balT i200_67 (by omega) ?_
  refine w_basD i200_68 (dyn_mup hu (by omega) (Or.inr (by omega))) (by rw [cap_mup2 (Or.inr (by omega))]; omega) (by rw [cap_mup2 (Or.inr (by omega))]; omega) ?_
  refine w_goto i200_69 g200_69 ?_
  refine w_ild0 i200_22 ?_
  refine w_bip i200_23 kb_m100 ?_
  refine w_cgtT i200_25 g200_25 (by decide) ?_
  refine w_ald2 i200_72 ?_
  refine w_inc5 i200_73 (dec1 _) ?_
  refine w_ild5 i200_76 ?_
  refine w_gst i200_78 rfl ?_
  refine w_ild0 i200_81 ?_
  refine w_ineg i200_82 (v := nI 10) (by decide) ?_
  refine w_balO i200_83 (by omega) ?_
  refine w_basD i200_84 (dyn_mup (dyn_mup hu (by omega) (Or.inr (by omega))) (by omega) (Or.inr (by omega))) (by rw [cap_mup2 (Or.inr (by omega)), cap_mup2 (Or.inr (by omega))]; omega) (by rw [cap_mup2 (Or.inr (by omega)), cap_mup2 (Or.inr (by omega))]; omega) ?_
  refine w_ild0 i200_85 ?_
  refine w_bip i200_86 kb_m9 ?_
  refine w_cgeF i200_88 (by decide) ?_
  refine w_ald2 i200_91 ?_
  refine w_inc5 i200_92 (dec1 _) ?_
  refine w_ild5 i200_95 ?_
  refine w_gst i200_97 rfl ?_
  refine w_ild0 i200_100 ?_
  refine w_ineg i200_101 (v := nI 10) (by decide) ?_
  refine w_balT i200_102 (by omega) ?_
  refine w_basD i200_103 (dyn_mup (dyn_mup (dyn_mup hu (by omega) (Or.inr (by omega))) (by omega) (Or.inr (by omega))) (by omega) (Or.inr (by omega))) (by rw [cap_mup2 (Or.inr (by omega)), cap_mup2 (Or.inr (by omega)), cap_mup2 (Or.inr (by omega))]; omega) (by rw [cap_mup2 (Or.inr (by omega)), cap_mup2 (Or.inr (by omega)), cap_mup2 (Or.inr (by omega))]; omega) ?_
  refine w_ild6 i200_104 ?_
  refine w_ieqNF i200_106 (by omega) (by omega) ?_
  refine w_ald2 i200_109 ?_
  refine w_inc5 i200_110 (dec1 _) ?_
  refine w_ild5 i200_113 ?_
  refine w_bip i200_115 kb_45 ?_
  refine w_basD i200_117 (dyn_mup (dyn_mup (dyn_mup (dyn_mup hu (by omega) (Or.inr (by omega))) (by omega) (Or.inr (by omega))) (by omega) (Or.inr (by omega))) (by omega) (Or.inr (by omega))) (by rw [cap_mup2 (Or.inr (by omega)), cap_mup2 (Or.inr (by omega)), cap_mup2 (Or.inr (by omega)), cap_mup2 (Or.inr (by omega))]; omega) (by rw [cap_mup2 (Or.inr (by omega)), cap_mup2 (Or.inr (by omega)), cap_mup2 (Or.inr (by omega)), cap_mup2 (Or.inr (by omega))]; omega) ?_
  refine w_ild5 i200_118 ?_
  refine w_ri i200_120 r200 ?_
  refine hq _ _ ⟨fun i hi => ?_, fun j hj => ?_, fun q a => (mupF a).trans ((mupF a).trans ((mupF a).trans ((mupF a).trans (mupF a))))⟩
  · have hi : i < 5 := hi
    rcases (by omega : i = 0 ∨ i = 1 ∨ i = 2 ∨ i = 3 ∨ i = 4) with z | z | z | z | z <;> subst z
    · exact mupE.trans (narb_t 45 (by decide))
    · exact (mupJ (by omega)).trans (mupE.trans (narb_t 49 (by decide)))
    · exact (mupJ (by omega)).trans ((mupJ (by omega)).trans (mupE.trans (narb_t 48 (by decide))))
    · exact (mupJ (by omega)).trans ((mupJ (by omega)).trans ((mupJ (by omega)).trans (mupE.trans (narb_t 49 (by decide)))))
    · exact (mupJ (by omega)).trans ((mupJ (by omega)).trans ((mupJ (by omega)).trans ((mupJ (by omega)).trans (mupE.trans (narb_t 53 (by decide))))))
  · have hj : j < s ∨ s + 5 ≤ j := hj
    exact (mupJ (by omega)).trans ((mupJ (by omega)).trans ((mupJ (by omega)).trans ((mupJ (by omega)).trans (mupJ (by omega)))))
theorem K_sizeX {d : Nat} {D : Mm} {x : Int32} {k : List Nat} (h : okN x k) : Ct (d + 1) 201 [.int x] D (Ex (some (.int (nI k.length))) D) := by
  rcases h with ⟨n, hn, rfl, rfl⟩ | ⟨rfl, rfl⟩
  · exact K_size hn
  · exact K_sizeM
theorem K_getX {d : Nat} {D : Mm} {Q : Option Value → Mm → Prop} {m0 s : Nat} {x : Int32} {k : List Nat} (h : okN x k) (hs : s + k.length ≤ cap D m0) (hc : cap D m0 ≤ 1000000) (hu : dyn D m0 22) (hq : ∀ D2 v, GcL m0 D D2 s k → Q (some (.int v)) D2) : Ct (d + 1) 200 [.int x, .int (nI (s + k.length)), .ref m0] D Q := by
  rcases h with ⟨n, hn, rfl, rfl⟩ | ⟨rfl, rfl⟩
  · exact K_getC_D hn hs hc hu hq
  · exact K_getM hs hc hu hq
set_option maxHeartbeats 100000 in
theorem K_appID0 {d : Nat} {D : Mm} {Q : Option Value → Mm → Prop} {lo T u o b : Nat} {t : List Nat} (h : SbX D lo T u o b t) {x : Int32} {k : List Nat} (hx : okN x k) (hl : t.length + k.length ≤ T) (hq : ∀ D2 b2, StX D D2 lo T u o b b2 (t ++ k) → Q (some (.ref o)) D2) : Ct (d + 5) 198 [.ref o, .int x] D Q := by
  have hdo := h.ob.1
  have hdb := h.rb.1
  have hcp := h.cpm
  have hT := h.tT
  have hLE := LENv
  have hKE := KNDv
  have hft := h.fit
  
  refine ent m198 rfl rfl (ls := [.ref o, .int x, .retAddr 0, .retAddr 0]) rfl ?_
  refine w_ald0 i198_0 ?_
  refine w_gfD i198_1 (Or.inl rfl) h.ob (by decide) (dvl_i (by decide) h.len) ?_
  refine w_ist2 i198_4 ?_
  refine w_ild2 i198_5 ?_
  refine w_ild1 i198_6 ?_
  refine w_SD1 i198_7 c201 rfl (by repeat (first | exact nvL_nil | refine nvL_cons (by first | assumption | trivial | exact nvSt (by decide) | exact nvD (by assumption) | exact nvK (by omega) (by omega)) ?_)) ⟨(by repeat (first | exact nvL_nil | refine nvL_cons (by first | assumption | trivial | exact nvSt (by decide) | exact nvD (by assumption) | exact nvK (by omega) (by omega)) ?_)), rfl, Nat.le_of_ble_eq_true rfl⟩ (Ex_go (K_sizeX hx) ?_)
  refine w_iadd i198_10 (nI_add _ _) ?_
  refine w_ist3 i198_11 ?_
  refine w_ald0 i198_12 ?_
  refine w_ild3 i198_13 ?_
  refine w_VD2 i198_14 c217 (Or.inr (Or.inl rfl)) (h.rec (by decide +kernel)) (by repeat (first | exact nvL_nil | refine nvL_cons (by first | assumption | trivial | exact nvSt (by decide) | exact nvD (by assumption) | exact nvK (by omega) (by omega)) ?_)) ⟨(by repeat (first | exact nvL_nil | refine nvL_cons (by first | assumption | trivial | exact nvSt (by decide) | exact nvD (by assumption) | exact nvK (by omega) (by omega)) ?_)), rfl, Nat.le_of_ble_eq_true rfl⟩ ?_
  refine K_ensD h hl (fun D2 b2 g gC => ?_)
  have h2 := g.1
  have hdo2 := h2.ob.1
  have hdb2 := h2.rb.1
  have hcp2 := h2.cpm
  have hT2 := h2.tT
  have go2 := dyn_ge h2.ob
  have gb2 := dyn_ge h2.rb
  have hne2 := h2.ne
  refine w_ald0 i198_17 ?_
  refine w_VD1 i198_18 c199 (Or.inr (Or.inl rfl)) (h2.rec (by decide +kernel)) (by repeat (first | exact nvL_nil | refine nvL_cons (by first | assumption | trivial | exact nvSt (by decide) | exact nvD (by assumption) | exact nvK (by omega) (by omega)) ?_)) ⟨(by repeat (first | exact nvL_nil | refine nvL_cons (by first | assumption | trivial | exact nvSt (by decide) | exact nvD (by assumption) | exact nvK (by omega) (by omega)) ?_)), rfl, Nat.le_of_ble_eq_true rfl⟩ (Ex_go (K_latD h2) ?_)
  refine w_ieqNF i198_21 (by omega) (by omega) ?_
  refine w_ild1 i198_24 ?_
  refine w_ild3 i198_25 ?_
  refine w_ald0 i198_26 ?_
  refine w_gfD i198_27 (Or.inl rfl) h2.ob (by decide) h2.rvl ?_
  refine w_SD3 i198_30 c200 rfl (by repeat (first | exact nvL_nil | refine nvL_cons (by first | assumption | trivial | exact nvSt (by decide) | exact nvD (by assumption) | exact nvK (by omega) (by omega)) ?_)) ⟨(by repeat (first | exact nvL_nil | refine nvL_cons (by first | assumption | trivial | exact nvSt (by decide) | exact nvD (by assumption) | exact nvK (by omega) (by omega)) ?_)), rfl, Nat.le_of_ble_eq_true rfl⟩ ?_
  refine K_getX (s := t.length) hx gC (by omega) h2.rb (fun D3 v g3 => ?_)
  obtain ⟨y1, y2, y3⟩ := g3
  have hdo3 : dyn D3 o 0 := dyn_fr h2.ob (by unfold nxt; rw [y3 4500 (by omega)]; exact Nat.le_refl _) (y3 o hne2)
  refine w_pop i198_33 rfl ?_
  refine w_goto i198_34 g198_34 ?_
  refine w_ald0 i198_48 ?_
  refine w_ild3 i198_49 ?_
  refine w_pfDI i198_50 (Or.inl rfl) hdo3 (by decide) rfl ?_
  refine w_ald0 i198_53 ?_
  refine w_raD i198_54 r198 (dyn_mup hdo3 (by omega) (Or.inr (by decide))).1 ?_
  refine hq _ b2 (g.tr (h2.put (k := k) (fun j hj => (mupJ hj).trans (congrFun (y3 o hne2) j)) mupE (fun q x y => (mupF x).trans (y3 q y)) (fun i hi => (mupC (fun e => hne2 e.symm)).trans (y1 i hi)) (fun j hj => (mupC (fun e => hne2 e.symm)).trans (y2 j hj)) gC (okN_len hx).2))
set_option maxHeartbeats 100000 in
theorem K_appID {d : Nat} {D : Mm} {Q : Option Value → Mm → Prop} {lo T u o b : Nat} {t : List Nat} (h : SbX D lo T u o b t) {x : Int32} {k : List Nat} (hx : okN x k) (hl : t.length + k.length ≤ T) (hq : ∀ D2 b2, StX D D2 lo T u o b b2 (t ++ k) → Q (some (.ref o)) D2) : Ct (d + 6) 190 [.ref o, .int x] D Q := by
  have hdo := h.ob.1
  have hdb := h.rb.1
  have hcp := h.cpm
  have hT := h.tT
  have hLE := LENv
  have hKE := KNDv
  have hft := h.fit
  
  refine ent m190 rfl rfl (ls := [.ref o, .int x]) rfl ?_
  refine w_ald0 i190_0 ?_
  refine w_ild1 i190_1 ?_
  refine w_PD2 i190_2 c198 (Or.inl rfl) (h.rec (by decide +kernel)) (by repeat (first | exact nvL_nil | refine nvL_cons (by first | assumption | trivial | exact nvSt (by decide) | exact nvD (by assumption) | exact nvK (by omega) (by omega)) ?_)) ⟨(by repeat (first | exact nvL_nil | refine nvL_cons (by first | assumption | trivial | exact nvSt (by decide) | exact nvD (by assumption) | exact nvK (by omega) (by omega)) ?_)), rfl, Nat.le_of_ble_eq_true rfl⟩ ?_
  refine K_appID0 h hx hl (fun D2 b2 g => ?_)
  refine w_pop i190_5 rfl ?_
  refine w_ald0 i190_6 ?_
  refine w_raD i190_7 r190 g.1.ob.1 ?_
  exact hq _ _ g
