/-! the class, reading -/
set_option maxHeartbeats 100000 in
theorem K_hasD_y {d : Nat} {D : Mm} {tx : List Nat} (h : SbR D 169 tx) {p : Nat} (hp : D 160 5 = nI p) (h1 : p < tx.length) (h2 : 48 ≤ tx.getD p 0) (h3 : tx.getD p 0 ≤ 57) : Ct (d + 5) 9 [.ref 160, .ref 169] D (Ex (some (.int (nI 1))) D) := by
  have hlt : tx.length ≤ 300 := Nat.le_trans h.2.2.1 h.2.2.2.1
  refine ent m9 rfl rfl (ls := [.ref 160, .ref 169]) rfl ?_
  refine w_ald0 i9_0 ?_
  refine w_gfI i9_1 (by decide) s_160 rfl hp ?_
  refine w_ald1 i9_4 ?_
  refine w_vI1 i9_5 c193 (Or.inl rfl) ⟨by decide +kernel, by decide⟩ rfl ⟨rfl, Nat.le_of_ble_eq_true rfl⟩ (K_len_169 h) ?_
  refine w_cgeNF i9_8 (by omega) (by omega) (by omega) ?_
  refine w_ald1 i9_11 ?_
  refine w_ald0 i9_12 ?_
  refine w_gfI i9_13 (by decide) s_160 rfl hp ?_
  refine w_vI2 i9_16 c191 (Or.inl rfl) ⟨by decide +kernel, by decide⟩ rfl ⟨rfl, Nat.le_of_ble_eq_true rfl⟩ (K_chr_169 h h1) ?_
  refine w_bip i9_19 kb_48 ?_
  refine w_cltNF i9_21 (by omega) (by omega) (by omega) ?_
  refine w_ald1 i9_24 ?_
  refine w_ald0 i9_25 ?_
  refine w_gfI i9_26 (by decide) s_160 rfl hp ?_
  refine w_vI2 i9_29 c191 (Or.inl rfl) ⟨by decide +kernel, by decide⟩ rfl ⟨rfl, Nat.le_of_ble_eq_true rfl⟩ (K_chr_169 h h1) ?_
  refine w_bip i9_32 kb_57 ?_
  refine w_cgtNF i9_34 (by omega) (by omega) (by omega) ?_
  refine w_const i9_37 kc_1 ?_
  refine w_goto i9_38 g9_38 ?_
  refine w_rz i9_42 r9 nar_z1 ?_
  exact ⟨rfl, rfl⟩
set_option maxHeartbeats 100000 in
theorem K_hasD_o {d : Nat} {D : Mm} {tx : List Nat} (h : SbR D 169 tx) {p : Nat} (hp : D 160 5 = nI p) (hb : p < 1000) (h1 : ¬ p < tx.length) : Ct (d + 5) 9 [.ref 160, .ref 169] D (Ex (some (.int (nI 0))) D) := by
  have hlt : tx.length ≤ 300 := Nat.le_trans h.2.2.1 h.2.2.2.1
  refine ent m9 rfl rfl (ls := [.ref 160, .ref 169]) rfl ?_
  refine w_ald0 i9_0 ?_
  refine w_gfI i9_1 (by decide) s_160 rfl hp ?_
  refine w_ald1 i9_4 ?_
  refine w_vI1 i9_5 c193 (Or.inl rfl) ⟨by decide +kernel, by decide⟩ rfl ⟨rfl, Nat.le_of_ble_eq_true rfl⟩ (K_len_169 h) ?_
  refine w_cgeNT i9_8 g9_8 (by omega) (by omega) (by omega) ?_
  refine w_const i9_41 kc_0 ?_
  refine w_rz i9_42 r9 nar_z0 ?_
  exact ⟨rfl, rfl⟩
set_option maxHeartbeats 100000 in
theorem K_hasD_l {d : Nat} {D : Mm} {tx : List Nat} (h : SbR D 169 tx) {p : Nat} (hp : D 160 5 = nI p) (h1 : p < tx.length) (h2 : tx.getD p 0 < 48) : Ct (d + 5) 9 [.ref 160, .ref 169] D (Ex (some (.int (nI 0))) D) := by
  have hlt : tx.length ≤ 300 := Nat.le_trans h.2.2.1 h.2.2.2.1
  refine ent m9 rfl rfl (ls := [.ref 160, .ref 169]) rfl ?_
  refine w_ald0 i9_0 ?_
  refine w_gfI i9_1 (by decide) s_160 rfl hp ?_
  refine w_ald1 i9_4 ?_
  refine w_vI1 i9_5 c193 (Or.inl rfl) ⟨by decide +kernel, by decide⟩ rfl ⟨rfl, Nat.le_of_ble_eq_true rfl⟩ (K_len_169 h) ?_
  refine w_cgeNF i9_8 (by omega) (by omega) (by omega) ?_
  refine w_ald1 i9_11 ?_
  refine w_ald0 i9_12 ?_
  refine w_gfI i9_13 (by decide) s_160 rfl hp ?_
  refine w_vI2 i9_16 c191 (Or.inl rfl) ⟨by decide +kernel, by decide⟩ rfl ⟨rfl, Nat.le_of_ble_eq_true rfl⟩ (K_chr_169 h h1) ?_
  refine w_bip i9_19 kb_48 ?_
  refine w_cltNT i9_21 g9_21 (by omega) (by omega) (by omega) ?_
  refine w_const i9_41 kc_0 ?_
  refine w_rz i9_42 r9 nar_z0 ?_
  exact ⟨rfl, rfl⟩
set_option maxHeartbeats 100000 in
theorem K_hasD_g {d : Nat} {D : Mm} {tx : List Nat} (h : SbR D 169 tx) {p : Nat} (hp : D 160 5 = nI p) (h1 : p < tx.length) (h2 : 57 < tx.getD p 0) : Ct (d + 5) 9 [.ref 160, .ref 169] D (Ex (some (.int (nI 0))) D) := by
  have hlt : tx.length ≤ 300 := Nat.le_trans h.2.2.1 h.2.2.2.1
  have hx := getD_lt h.2.2.2.2.2.1 h1
  refine ent m9 rfl rfl (ls := [.ref 160, .ref 169]) rfl ?_
  refine w_ald0 i9_0 ?_
  refine w_gfI i9_1 (by decide) s_160 rfl hp ?_
  refine w_ald1 i9_4 ?_
  refine w_vI1 i9_5 c193 (Or.inl rfl) ⟨by decide +kernel, by decide⟩ rfl ⟨rfl, Nat.le_of_ble_eq_true rfl⟩ (K_len_169 h) ?_
  refine w_cgeNF i9_8 (by omega) (by omega) (by omega) ?_
  refine w_ald1 i9_11 ?_
  refine w_ald0 i9_12 ?_
  refine w_gfI i9_13 (by decide) s_160 rfl hp ?_
  refine w_vI2 i9_16 c191 (Or.inl rfl) ⟨by decide +kernel, by decide⟩ rfl ⟨rfl, Nat.le_of_ble_eq_true rfl⟩ (K_chr_169 h h1) ?_
  refine w_bip i9_19 kb_48 ?_
  refine w_cltNF i9_21 (by omega) (by omega) (by omega) ?_
  refine w_ald1 i9_24 ?_
  refine w_ald0 i9_25 ?_
  refine w_gfI i9_26 (by decide) s_160 rfl hp ?_
  refine w_vI2 i9_29 c191 (Or.inl rfl) ⟨by decide +kernel, by decide⟩ rfl ⟨rfl, Nat.le_of_ble_eq_true rfl⟩ (K_chr_169 h h1) ?_
  refine w_bip i9_32 kb_57 ?_
  refine w_cgtNT i9_34 g9_34 (by omega) (by omega) (by omega) ?_
  refine w_const i9_41 kc_0 ?_
  refine w_rz i9_42 r9 nar_z0 ?_
  exact ⟨rfl, rfl⟩
def dgt (tx : List Nat) (p : Nat) : Prop := p < tx.length ∧ 48 ≤ tx.getD p 0 ∧ tx.getD p 0 ≤ 57
theorem K_hasD_n {d : Nat} {D : Mm} {tx : List Nat} (h : SbR D 169 tx) {p : Nat} (hp : D 160 5 = nI p) (hb : p < 1000) (hn : ¬ dgt tx p) : Ct (d + 5) 9 [.ref 160, .ref 169] D (Ex (some (.int (nI 0))) D) := by
  by_cases h1 : p < tx.length
  · by_cases h2 : tx.getD p 0 < 48
    · exact K_hasD_l h hp h1 h2
    · by_cases h3 : tx.getD p 0 ≤ 57
      · exact absurd ⟨h1, Nat.not_lt.mp h2, h3⟩ hn
      · exact K_hasD_g h hp h1 (Nat.not_le.mp h3)
  · exact K_hasD_o h hp hb h1
theorem K_hasD_t {d : Nat} {D : Mm} {tx : List Nat} (h : SbR D 169 tx) {p : Nat} (hp : D 160 5 = nI p) (hn : dgt tx p) : Ct (d + 5) 9 [.ref 160, .ref 169] D (Ex (some (.int (nI 1))) D) := K_hasD_y h hp hn.1 hn.2.1 hn.2.2
def FrO (D D2 : Mm) : Prop := (∀ j, j ≠ 5 → D2 160 j = D 160 j) ∧ (∀ q, q ≠ 160 → D2 q = D q)
theorem FrO.rf {D : Mm} : FrO D D := ⟨fun _ _ => rfl, fun _ _ => rfl⟩
theorem FrO.u {D D2 : Mm} {x : Int32} (h : FrO D D2) : FrO D (mup D2 160 5 x) := ⟨fun j hj => (mupJ hj).trans (h.1 j hj), fun q hq => (mupF hq).trans (h.2 q hq)⟩
theorem SbR.frO {D D2 : Mm} {o : Nat} {ln : List Nat} (h : SbR D o ln) (ho : o = 169 ∨ o = 170) (f : ∀ q, 165 ≤ q → D2 q = D q) : SbR D2 o ln := h.fr (f o (by omega)) (f (o + 12) (by omega))
set_option maxHeartbeats 100000 in
theorem K_sgn_y {d : Nat} {D : Mm} {Q : Option Value → Mm → Prop} {tx : List Nat} (h : SbR D 169 tx) {p : Nat} (hp : D 160 5 = nI p) {c : Nat} (h1 : p < tx.length) (h2 : tx.getD p 0 = c) (hq : Q (some (.int (nI 1))) (mup D 160 5 (nI (p + 1)))) : Ct (d + 5) 8 [.ref 160, .ref 169, .int (nI c)] D Q := by
  have hlt : tx.length ≤ 300 := Nat.le_trans h.2.2.1 h.2.2.2.1
  have hx := getD_lt h.2.2.2.2.2.1 h1
  refine ent m8 rfl rfl (ls := [.ref 160, .ref 169, .int (nI c)]) rfl ?_
  refine w_ald0 i8_0 ?_
  refine w_gfI i8_1 (by decide) s_160 rfl hp ?_
  refine w_ald1 i8_4 ?_
  refine w_vI1 i8_5 c193 (Or.inl rfl) ⟨by decide +kernel, by decide⟩ rfl ⟨rfl, Nat.le_of_ble_eq_true rfl⟩ (K_len_169 h) ?_
  refine w_cgeNF i8_8 (by omega) (by omega) (by omega) ?_
  refine w_ald1 i8_11 ?_
  refine w_ald0 i8_12 ?_
  refine w_gfI i8_13 (by decide) s_160 rfl hp ?_
  refine w_vI2 i8_16 c191 (Or.inl rfl) ⟨by decide +kernel, by decide⟩ rfl ⟨rfl, Nat.le_of_ble_eq_true rfl⟩ (K_chr_169 h h1) ?_
  refine w_ild2 i8_19 ?_
  refine w_ceqNT i8_20 g8_20 (by omega) (by omega) (by omega) ?_
  refine w_ald0 i8_25 ?_
  refine w_dup i8_26 rfl ?_
  refine w_gfI i8_27 (by decide) s_160 rfl hp ?_
  refine w_const i8_30 kc_1 ?_
  refine w_iadd i8_31 (nI_add _ _) ?_
  refine w_pf0 i8_32 (by decide) s_160 rfl ?_
  refine w_const i8_35 kc_1 ?_
  refine w_rz i8_36 r8 nar_z1 ?_
  exact hq
set_option maxHeartbeats 100000 in
theorem K_sgn_o {d : Nat} {D : Mm} {tx : List Nat} (h : SbR D 169 tx) {p : Nat} (hp : D 160 5 = nI p) {c : Nat} (hb : p < 1000) (h1 : ¬ p < tx.length) : Ct (d + 5) 8 [.ref 160, .ref 169, .int (nI c)] D (Ex (some (.int (nI 0))) D) := by
  have hlt : tx.length ≤ 300 := Nat.le_trans h.2.2.1 h.2.2.2.1
  refine ent m8 rfl rfl (ls := [.ref 160, .ref 169, .int (nI c)]) rfl ?_
  refine w_ald0 i8_0 ?_
  refine w_gfI i8_1 (by decide) s_160 rfl hp ?_
  refine w_ald1 i8_4 ?_
  refine w_vI1 i8_5 c193 (Or.inl rfl) ⟨by decide +kernel, by decide⟩ rfl ⟨rfl, Nat.le_of_ble_eq_true rfl⟩ (K_len_169 h) ?_
  refine w_cgeNT i8_8 g8_8 (by omega) (by omega) (by omega) ?_
  refine w_const i8_23 kc_0 ?_
  refine w_rz i8_24 r8 nar_z0 ?_
  exact ⟨rfl, rfl⟩
set_option maxHeartbeats 100000 in
theorem K_sgn_d {d : Nat} {D : Mm} {tx : List Nat} (h : SbR D 169 tx) {p : Nat} (hp : D 160 5 = nI p) {c : Nat} (hc : c < 128) (h1 : p < tx.length) (h2 : ¬ tx.getD p 0 = c) : Ct (d + 5) 8 [.ref 160, .ref 169, .int (nI c)] D (Ex (some (.int (nI 0))) D) := by
  have hlt : tx.length ≤ 300 := Nat.le_trans h.2.2.1 h.2.2.2.1
  have hx := getD_lt h.2.2.2.2.2.1 h1
  refine ent m8 rfl rfl (ls := [.ref 160, .ref 169, .int (nI c)]) rfl ?_
  refine w_ald0 i8_0 ?_
  refine w_gfI i8_1 (by decide) s_160 rfl hp ?_
  refine w_ald1 i8_4 ?_
  refine w_vI1 i8_5 c193 (Or.inl rfl) ⟨by decide +kernel, by decide⟩ rfl ⟨rfl, Nat.le_of_ble_eq_true rfl⟩ (K_len_169 h) ?_
  refine w_cgeNF i8_8 (by omega) (by omega) (by omega) ?_
  refine w_ald1 i8_11 ?_
  refine w_ald0 i8_12 ?_
  refine w_gfI i8_13 (by decide) s_160 rfl hp ?_
  refine w_vI2 i8_16 c191 (Or.inl rfl) ⟨by decide +kernel, by decide⟩ rfl ⟨rfl, Nat.le_of_ble_eq_true rfl⟩ (K_chr_169 h h1) ?_
  refine w_ild2 i8_19 ?_
  refine w_ceqNF i8_20 (by omega) (by omega) (by omega) ?_
  refine w_const i8_23 kc_0 ?_
  refine w_rz i8_24 r8 nar_z0 ?_
  exact ⟨rfl, rfl⟩
theorem K_sgn_n {d : Nat} {D : Mm} {tx : List Nat} (h : SbR D 169 tx) {p : Nat} (hp : D 160 5 = nI p) (hb : p < 1000) {c : Nat} (hc : c < 128) (hn : ¬ (p < tx.length ∧ tx.getD p 0 = c)) : Ct (d + 5) 8 [.ref 160, .ref 169, .int (nI c)] D (Ex (some (.int (nI 0))) D) := by
  by_cases h1 : p < tx.length
  · exact K_sgn_d h hp hc h1 (fun z => hn ⟨h1, z⟩)
  · exact K_sgn_o h hp hb h1
set_option maxHeartbeats 100000 in
theorem K_rdN {d : Nat} {D : Mm} {Q : Option Value → Mm → Prop} {tx : List Nat} (h : SbR D 169 tx) {p : Nat} (hp : D 160 5 = nI p) (hb : p ≤ tx.length) {t : Nat} (ht : t = 49 ∨ t = 50) (hq : ∀ D2, D2 160 5 = nI (dgs (fun i => tx.getD i 0) tx.length (t - 48) 0 p).2 → FrO D D2 → Q (some (.int (nI (dgs (fun i => tx.getD i 0) tx.length (t - 48) 0 p).1))) D2) : Ct (d + 6) 10 [.ref 160, .ref 169, .int (nI t)] D Q := by
  have hlt : tx.length ≤ 300 := Nat.le_trans h.2.2.1 h.2.2.2.1
  refine ent m10 rfl rfl (ls := [.ref 160, .ref 169, .int (nI t), .retAddr 0, .retAddr 0, .retAddr 0]) rfl ?_
  refine w_const i10_0 kc_0 ?_
  refine w_ist3 i10_1 ?_
  refine w_ild2 i10_2 ?_
  refine w_bip i10_3 kb_49 ?_
  refine w_cneN i10_5 g10_5 (by omega) (by omega) (fun h5 => ?_) (fun h5 => ?_)
  · skip
    refine w_const i10_12 kc_2 ?_
    refine w_ist4 i10_13 ?_
    refine w_const i10_15 kc_0 ?_
    refine w_ist5 i10_16 ?_
    have L18 : ∀ k (x j q : Nat) (D1 : Mm), SbR D1 169 tx → D1 160 5 = nI q → FrO D D1 → q ≤ tx.length → j + k = t - 48 → (∀ D2, D2 160 5 = nI (dgs (fun i => tx.getD i 0) tx.length k x q).2 → FrO D D2 → Q (some (.int (nI (dgs (fun i => tx.getD i 0) tx.length k x q).1))) D2) → Wp (d + 5) 10 Q 18 [.ref 160, .ref 169, .int (nI t), .int (nI x), .int (nI (t - 48)), .int (nI j)] [] D1 := by
      intro k
      induction k with
      | zero =>
        intro x j q D1 gS gp gf gl hk hqq
        refine w_ild5 i10_18 ?_
        refine w_ild4 i10_20 ?_
        refine w_cgeNT i10_22 g10_22 (by omega) (by omega) (by omega) ?_
        refine w_ild3 i10_66 ?_
        refine w_ri i10_67 r10 ?_
        first
          | (rw [dgs_no (U := fun i => tx.getD i 0) (e := tx.length) (p := q) hD] at hqq; exact hqq _ gp gf)
          | exact hqq _ gp gf
      | succ k ih =>
        intro x j q D1 gS gp gf gl hk hqq
        refine w_ild5 i10_18 ?_
        refine w_ild4 i10_20 ?_
        refine w_cgeNF i10_22 (by omega) (by omega) (by omega) ?_
        refine w_ald0 i10_25 ?_
        refine w_ald1 i10_26 ?_
        by_cases hD : dgt tx q
        · skip
          refine w_vI2 i10_27 c9 (Or.inl rfl) ⟨by decide +kernel, by decide⟩ rfl ⟨rfl, Nat.le_of_ble_eq_true rfl⟩ (K_hasD_t gS gp hD) ?_
          refine w_ieqNF i10_30 (by omega) (by omega) ?_
          refine w_ild3 i10_33 ?_
          refine w_bip i10_34 kb_10 ?_
          refine w_imul i10_36 (nI_mul _ _) ?_
          refine w_ald1 i10_37 ?_
          refine w_ald0 i10_38 ?_
          refine w_gfI i10_39 (by decide) s_160 rfl gp ?_
          refine w_vI2 i10_42 c191 (Or.inl rfl) ⟨by decide +kernel, by decide⟩ rfl ⟨rfl, Nat.le_of_ble_eq_true rfl⟩ (K_chr_169 gS hD.1) ?_
          refine w_bip i10_45 kb_48 ?_
          refine w_isub i10_47 (nI_sub hD.2.1) ?_
          refine w_iadd i10_48 (nI_add _ _) ?_
          refine w_ist3 i10_49 ?_
          refine w_ald0 i10_50 ?_
          refine w_dup i10_51 rfl ?_
          refine w_gfI i10_52 (by decide) s_160 rfl gp ?_
          refine w_const i10_55 kc_1 ?_
          refine w_iadd i10_56 (nI_add _ _) ?_
          refine w_pf0 i10_57 (by decide) s_160 rfl ?_
          refine w_inc5 i10_60 (inc1 _) ?_
          refine w_goto i10_63 g10_63 ?_
          rw [dgs_ye (U := fun i => tx.getD i 0) (e := tx.length) (p := q) hD] at hqq
          refine ih _ _ (q + 1) _ (gS.frO (Or.inl rfl) (fun q2 h2 => mupF (by omega))) mupE gf.u hD.1 (by omega) (fun D2 g1 g2 => ?_)
          rw [show x * 10 + (tx.getD q 0 - 48) = 10 * x + (tx.getD q 0 - 48) by omega] at g1 ⊢
          exact hqq D2 g1 g2
        · skip
          refine w_vI2 i10_27 c9 (Or.inl rfl) ⟨by decide +kernel, by decide⟩ rfl ⟨rfl, Nat.le_of_ble_eq_true rfl⟩ (K_hasD_n gS gp (by omega) hD) ?_
          refine w_ieqNT i10_30 g10_30 (by omega) (by omega) ?_
          refine w_ild3 i10_66 ?_
          refine w_ri i10_67 r10 ?_
          first
            | (rw [dgs_no (U := fun i => tx.getD i 0) (e := tx.length) (p := q) hD] at hqq; exact hqq _ gp gf)
            | exact hqq _ gp gf
    first
        | (rcases ht with ht | ht <;> subst ht <;> first | omega | exact L18 1 0 0 p D h hp FrO.rf hb rfl hq | exact L18 2 0 0 p D h hp FrO.rf hb rfl hq)
  · skip
    refine w_const i10_8 kc_1 ?_
    refine w_goto i10_9 g10_9 ?_
    refine w_ist4 i10_13 ?_
    refine w_const i10_15 kc_0 ?_
    refine w_ist5 i10_16 ?_
    have L18 : ∀ k (x j q : Nat) (D1 : Mm), SbR D1 169 tx → D1 160 5 = nI q → FrO D D1 → q ≤ tx.length → j + k = t - 48 → (∀ D2, D2 160 5 = nI (dgs (fun i => tx.getD i 0) tx.length k x q).2 → FrO D D2 → Q (some (.int (nI (dgs (fun i => tx.getD i 0) tx.length k x q).1))) D2) → Wp (d + 5) 10 Q 18 [.ref 160, .ref 169, .int (nI t), .int (nI x), .int (nI (t - 48)), .int (nI j)] [] D1 := by
      intro k
      induction k with
      | zero =>
        intro x j q D1 gS gp gf gl hk hqq
        refine w_ild5 i10_18 ?_
        refine w_ild4 i10_20 ?_
        refine w_cgeNT i10_22 g10_22 (by omega) (by omega) (by omega) ?_
        refine w_ild3 i10_66 ?_
        refine w_ri i10_67 r10 ?_
        first
          | (rw [dgs_no (U := fun i => tx.getD i 0) (e := tx.length) (p := q) hD] at hqq; exact hqq _ gp gf)
          | exact hqq _ gp gf
      | succ k ih =>
        intro x j q D1 gS gp gf gl hk hqq
        refine w_ild5 i10_18 ?_
        refine w_ild4 i10_20 ?_
        refine w_cgeNF i10_22 (by omega) (by omega) (by omega) ?_
        refine w_ald0 i10_25 ?_
        refine w_ald1 i10_26 ?_
        by_cases hD : dgt tx q
        · skip
          refine w_vI2 i10_27 c9 (Or.inl rfl) ⟨by decide +kernel, by decide⟩ rfl ⟨rfl, Nat.le_of_ble_eq_true rfl⟩ (K_hasD_t gS gp hD) ?_
          refine w_ieqNF i10_30 (by omega) (by omega) ?_
          refine w_ild3 i10_33 ?_
          refine w_bip i10_34 kb_10 ?_
          refine w_imul i10_36 (nI_mul _ _) ?_
          refine w_ald1 i10_37 ?_
          refine w_ald0 i10_38 ?_
          refine w_gfI i10_39 (by decide) s_160 rfl gp ?_
          refine w_vI2 i10_42 c191 (Or.inl rfl) ⟨by decide +kernel, by decide⟩ rfl ⟨rfl, Nat.le_of_ble_eq_true rfl⟩ (K_chr_169 gS hD.1) ?_
          refine w_bip i10_45 kb_48 ?_
          refine w_isub i10_47 (nI_sub hD.2.1) ?_
          refine w_iadd i10_48 (nI_add _ _) ?_
          refine w_ist3 i10_49 ?_
          refine w_ald0 i10_50 ?_
          refine w_dup i10_51 rfl ?_
          refine w_gfI i10_52 (by decide) s_160 rfl gp ?_
          refine w_const i10_55 kc_1 ?_
          refine w_iadd i10_56 (nI_add _ _) ?_
          refine w_pf0 i10_57 (by decide) s_160 rfl ?_
          refine w_inc5 i10_60 (inc1 _) ?_
          refine w_goto i10_63 g10_63 ?_
          rw [dgs_ye (U := fun i => tx.getD i 0) (e := tx.length) (p := q) hD] at hqq
          refine ih _ _ (q + 1) _ (gS.frO (Or.inl rfl) (fun q2 h2 => mupF (by omega))) mupE gf.u hD.1 (by omega) (fun D2 g1 g2 => ?_)
          rw [show x * 10 + (tx.getD q 0 - 48) = 10 * x + (tx.getD q 0 - 48) by omega] at g1 ⊢
          exact hqq D2 g1 g2
        · skip
          refine w_vI2 i10_27 c9 (Or.inl rfl) ⟨by decide +kernel, by decide⟩ rfl ⟨rfl, Nat.le_of_ble_eq_true rfl⟩ (K_hasD_n gS gp (by omega) hD) ?_
          refine w_ieqNT i10_30 g10_30 (by omega) (by omega) ?_
          refine w_ild3 i10_66 ?_
          refine w_ri i10_67 r10 ?_
          first
            | (rw [dgs_no (U := fun i => tx.getD i 0) (e := tx.length) (p := q) hD] at hqq; exact hqq _ gp gf)
            | exact hqq _ gp gf
    first
        | (rcases ht with ht | ht <;> subst ht <;> first | omega | exact L18 1 0 0 p D h hp FrO.rf hb rfl hq | exact L18 2 0 0 p D h hp FrO.rf hb rfl hq)
set_option maxHeartbeats 100000 in
theorem K_kp0 {d : Nat} {D : Mm} {i : Nat} {v : Int32} (hi : i < 60) : Ct (d + 1) 11 [.ref 160, .int (nI i), .int (nI 0), .int v] D (Ex none (mup D 162 i v)) := by
  refine ent m11 rfl rfl (ls := [.ref 160, .int (nI i), .int (nI 0), .int v]) rfl ?_
  refine w_ild2 i11_0 ?_
  refine w_ineNF i11_1 (by omega) (by omega) ?_
  refine w_ald0 i11_4 ?_
  refine w_gfR i11_5 (by decide) s_160 rfl ?_
  refine w_ild1 i11_8 ?_
  refine w_ild3 i11_9 ?_
  refine w_ias i11_10 s_162 (by decide) (by omega) ?_
  refine w_goto i11_11 g11_11 ?_
  refine w_rv i11_36 r11 ?_
  exact ⟨rfl, rfl⟩
set_option maxHeartbeats 100000 in
theorem K_kp1 {d : Nat} {D : Mm} {i : Nat} {v : Int32} (hi : i < 60) : Ct (d + 1) 11 [.ref 160, .int (nI i), .int (nI 1), .int v] D (Ex none (mup D 163 i v)) := by
  refine ent m11 rfl rfl (ls := [.ref 160, .int (nI i), .int (nI 1), .int v]) rfl ?_
  refine w_ild2 i11_0 ?_
  refine w_ineNT i11_1 g11_1 (by omega) (by omega) ?_
  refine w_ild2 i11_14 ?_
  refine w_const i11_15 kc_1 ?_
  refine w_cneNF i11_16 (by omega) (by omega) (by omega) ?_
  refine w_ald0 i11_19 ?_
  refine w_gfR i11_20 (by decide) s_160 rfl ?_
  refine w_ild1 i11_23 ?_
  refine w_ild3 i11_24 ?_
  refine w_ias i11_25 s_163 (by decide) (by omega) ?_
  refine w_goto i11_26 g11_26 ?_
  refine w_rv i11_36 r11 ?_
  exact ⟨rfl, rfl⟩
set_option maxHeartbeats 100000 in
theorem K_kp2 {d : Nat} {D : Mm} {i : Nat} {v : Int32} (hi : i < 60) : Ct (d + 1) 11 [.ref 160, .int (nI i), .int (nI 2), .int v] D (Ex none (mup D 164 i v)) := by
  refine ent m11 rfl rfl (ls := [.ref 160, .int (nI i), .int (nI 2), .int v]) rfl ?_
  refine w_ild2 i11_0 ?_
  refine w_ineNT i11_1 g11_1 (by omega) (by omega) ?_
  refine w_ild2 i11_14 ?_
  refine w_const i11_15 kc_1 ?_
  refine w_cneNT i11_16 g11_16 (by omega) (by omega) (by omega) ?_
  refine w_ald0 i11_29 ?_
  refine w_gfR i11_30 (by decide) s_160 rfl ?_
  refine w_ild1 i11_33 ?_
  refine w_ild3 i11_34 ?_
  refine w_ias i11_35 s_164 (by decide) (by omega) ?_
  refine w_rv i11_36 r11 ?_
  exact ⟨rfl, rfl⟩
theorem K_kp {d : Nat} {D : Mm} {i k : Nat} {v : Int32} (hi : i < 60) (hk : k < 3) : Ct (d + 1) 11 [.ref 160, .int (nI i), .int (nI k), .int v] D (Ex none (mup D (162 + k) i v)) := by
  rcases (by omega : k = 0 ∨ k = 1 ∨ k = 2) with e | e | e <;> subst e
  · exact K_kp0 hi
  · exact K_kp1 hi
  · exact K_kp2 hi
/-- a pattern read: where, whether wrong, the numbers -/
def pIt (U : Nat → Nat) (e : Nat) : List Nat → Nat → List Nat → Nat × Nat × List Nat
  | [], p, ns => (p, 0, ns)
  | t :: ts, p, ns => if t = 49 ∨ t = 50 then (if (dgs U e (t - 48) 0 p).2 = p then (p, 1, ns) else pIt U e ts (dgs U e (t - 48) 0 p).2 (ns ++ [(dgs U e (t - 48) 0 p).1])) else if p < e ∧ U p = t then pIt U e ts (p + 1) ns else (p, 1, ns)
theorem dgs_gr {U : Nat → Nat} {e : Nat} : ∀ k x p, p ≤ (dgs U e k x p).2 := by
  intro k
  induction k with
  | zero => intro x p; exact Nat.le_refl _
  | succ k ih =>
    intro x p
    by_cases g : p < e ∧ 48 ≤ U p ∧ U p ≤ 57
    · rw [dgs_ye g]
      have := ih (10 * x + (U p - 48)) (p + 1)
      omega
    · rw [dgs_no g]; exact Nat.le_refl _
theorem dgs_z {U : Nat → Nat} {e m p : Nat} (hm : 1 ≤ m) : (dgs U e m 0 p).2 = p ↔ ¬ (p < e ∧ 48 ≤ U p ∧ U p ≤ 57) := by
  obtain ⟨k, rfl⟩ : ∃ k, m = k + 1 := ⟨m - 1, by omega⟩
  constructor
  · intro h g
    rw [dgs_ye g] at h
    have := dgs_gr (U := U) (e := e) k (10 * 0 + (U p - 48)) (p + 1)
    omega
  · intro h
    rw [dgs_no h]
def FrI (i : Nat) (D D2 : Mm) : Prop := (∀ j, j ≠ 5 → D2 160 j = D 160 j) ∧ (∀ q j, q ≠ 160 → ¬ (162 ≤ q ∧ q ≤ 164 ∧ j = i) → D2 q j = D q j)
theorem FrI.rf {i : Nat} {D : Mm} : FrI i D D := ⟨fun _ _ => rfl, fun _ _ _ _ => rfl⟩
theorem FrI.o {i : Nat} {D D1 D2 : Mm} (h : FrI i D D1) (g : FrO D1 D2) : FrI i D D2 := ⟨fun j hj => (g.1 j hj).trans (h.1 j hj), fun q j hq hn => (congrFun (g.2 q hq) j).trans (h.2 q j hq hn)⟩
theorem FrI.k {i k : Nat} {D D1 : Mm} {v : Int32} (h : FrI i D D1) (hk : k < 3) : FrI i D (mup D1 (162 + k) i v) := ⟨fun j hj => (mupC (by omega)).trans (h.1 j hj), fun q j hq hn => (mupN (fun z => hn ⟨by omega, by omega, z.2⟩)).trans (h.2 q j hq hn)⟩
def nums (D : Mm) (i : Nat) (ns : List Nat) : Prop := ∀ k, k < ns.length → D (162 + k) i = nI (ns.getD k 0)
def cntD : List Nat → Nat
  | [] => 0
  | t :: ts => (if t = 49 ∨ t = 50 then 1 else 0) + cntD ts
theorem nvp {a b c e : Int32} {m : Nat} {u : Value} (h1 : nvB (.ref m) = true) (hu : nvB u = true) : [Value.ref 160, .ref 169, .int a, .int b, .ref m, .int c, .int e, u].all nvB = true := nv_cons rfl (nv_cons rfl (nv_cons rfl (nv_cons rfl (nv_cons h1 (nv_cons rfl (nv_cons rfl (nv_cons hu nv_nil)))))))
theorem K_pat {d : Nat} {D : Mm} {Q : Option Value → Mm → Prop} {tx : List Nat} {i c m : Nat} (hi : i < 60) (h1 : 1000 ≤ m) (h2 : m < 1010) (hl : (roc (m + 1000)).length < 100) : ∀ (ts : List Nat) (j p : Nat) (ns : List Nat) (u : Value) (D1 : Mm), nvB u = true → (roc (m + 1000)).length = j + ts.length → (∀ x, x < ts.length → (roc (m + 1000)).getD (j + x) 0 = nI (ts.getD x 0)) → (∀ t, t ∈ ts → t < 128) → ns.length + cntD ts ≤ 3 → SbR D1 169 tx → D1 160 5 = nI p → p ≤ tx.length → FrI i D D1 → nums D1 i ns →
    ((pIt (fun i => tx.getD i 0) tx.length ts p ns).2.1 ≠ 0 → ∀ D2, SbR D2 169 tx → D2 160 5 = nI (pIt (fun i => tx.getD i 0) tx.length ts p ns).1 → FrI i D D2 → Q (some (.int (nI 0))) D2) →
    ((pIt (fun i => tx.getD i 0) tx.length ts p ns).2.1 = 0 → ∀ D2, SbR D2 169 tx → D2 160 5 = nI (pIt (fun i => tx.getD i 0) tx.length ts p ns).1 → FrI i D D2 → nums D2 i (pIt (fun i => tx.getD i 0) tx.length ts p ns).2.2 → Q (some (.int (nI 1))) D2) →
    Wp (d + 7) 6 Q 67 [.ref 160, .ref 169, .int (nI i), .int (nI c), .ref m, .int (nI ns.length), .int (nI j), u] [] D1 := by
  have nm := nvS h1
  intro ts
  induction ts with
  | nil =>
    intro j p ns u D1 hu e1 e2 ec e3 gS gp gl gf gn q0 q1
    have e1 : (roc (m + 1000)).length = j := e1
    refine w_ild6 i6_67 ?_
    refine w_ald4 i6_69 ?_
    refine w_vI1 i6_71 c204 (Or.inl rfl) (sK h1 h2) (nvp nm hu) ⟨rfl, Nat.le_of_ble_eq_true rfl⟩ (K_slen h1 h2) ?_
    refine w_cgeNT i6_74 g6_74 (by omega) (by omega) (by omega) ?_
    refine w_const i6_148 kc_1 ?_
    refine w_rz i6_149 r6 nar_z1 ?_
    exact q1 rfl _ gS gp gf gn
  | cons t ts ih =>
    intro j p ns u D1 hu e1 e2 ec e3 gS gp gl gf gn q0 q1
    have hlt : tx.length ≤ 300 := Nat.le_trans gS.2.2.1 gS.2.2.2.1
    have e1 : (roc (m + 1000)).length = j + (ts.length + 1) := e1
    have ht := ec t List.mem_cons_self
    have et : (roc (m + 1000)).getD j 0 = nI t := e2 0 (Nat.zero_lt_succ _)
    have e2b : ∀ x, x < ts.length → (roc (m + 1000)).getD (j + 1 + x) 0 = nI (ts.getD x 0) := fun x hx => by
      have := e2 (x + 1) (Nat.succ_lt_succ hx)
      rw [show j + (x + 1) = j + 1 + x by omega] at this
      exact this
    have ecb : ∀ t, t ∈ ts → t < 128 := fun t h => ec t (List.mem_cons_of_mem _ h)
    refine w_ild6 i6_67 ?_
    refine w_ald4 i6_69 ?_
    refine w_vI1 i6_71 c204 (Or.inl rfl) (sK h1 h2) (nvp nm hu) ⟨rfl, Nat.le_of_ble_eq_true rfl⟩ (K_slen h1 h2) ?_
    refine w_cgeNF i6_74 (by omega) (by omega) (by omega) ?_
    refine w_ald4 i6_77 ?_
    refine w_ild6 i6_79 ?_
    refine w_vI2 i6_81 c205 (Or.inl rfl) (sK h1 h2) (nvp nm hu) ⟨rfl, Nat.le_of_ble_eq_true rfl⟩ (K_schr h1 h2 hl (by omega) ht et) ?_
    refine w_ist7 i6_84 ?_
    have dig : (t = 49 ∨ t = 50) → Wp (d + 7) 6 Q 100 [.ref 160, .ref 169, .int (nI i), .int (nI c), .ref m, .int (nI ns.length), .int (nI j), .int (nI t)] [] D1 := by
      intro hd
      have hcnt : ns.length + (1 + cntD ts) ≤ 3 := by
        have e3 : ns.length + ((if t = 49 ∨ t = 50 then 1 else 0) + cntD ts) ≤ 3 := e3
        rw [if_pos hd] at e3; exact e3
      have hz := dgs_z (U := fun i => tx.getD i 0) (e := tx.length) (m := t - 48) (p := p) (by omega)
      unfold pIt at q0 q1
      rw [if_pos hd] at q0 q1
      refine w_ald0 i6_100 ?_
      refine w_ald1 i6_101 ?_
      by_cases hD : dgt tx p
      · rw [if_neg (fun z => (hz.mp z) hD)] at q0 q1
        have hd2 := dgs_le (U := fun i => tx.getD i 0) (e := tx.length) (t - 48) 0 p gl
        refine w_vI2 i6_102 c9 (Or.inl rfl) ⟨by decide +kernel, by decide⟩ (nvp nm rfl) ⟨rfl, Nat.le_of_ble_eq_true rfl⟩ (K_hasD_t gS gp hD) ?_
        refine w_ineNT i6_105 g6_105 (by omega) (by omega) ?_
        refine w_ald0 i6_110 ?_
        refine w_ild2 i6_111 ?_
        refine w_ild5 i6_112 ?_
        refine w_ald0 i6_114 ?_
        refine w_ald1 i6_115 ?_
        refine w_ild7 i6_116 ?_
        refine w_vG3 i6_118 c10 (Or.inl rfl) ⟨by decide +kernel, by decide⟩ (nvp nm rfl) ⟨rfl, Nat.le_of_ble_eq_true rfl⟩ ?_
        refine K_rdN gS gp gl hd (fun D2 g1 g2 => ?_)
        refine w_vV4 i6_121 c11 (Or.inl rfl) ⟨by decide +kernel, by decide⟩ (nvp nm rfl) ⟨rfl, Nat.le_of_ble_eq_true rfl⟩ (K_kp (k := ns.length) hi (by omega)) ?_
        refine w_inc5 i6_124 (inc1 _) ?_
        refine w_goto i6_127 g6_127 ?_
        refine w_inc6 i6_142 (inc1 _) ?_
        refine w_goto i6_145 g6_145 ?_
        have el : ns.length + 1 = (ns ++ [(dgs (fun i => tx.getD i 0) tx.length (t - 48) 0 p).1]).length := by rw [List.length_append]; rfl
        rw [el]
        refine ih (j + 1) _ (ns ++ [(dgs (fun i => tx.getD i 0) tx.length (t - 48) 0 p).1]) _ _ rfl (by omega) e2b ecb (by rw [← el]; omega) (gS.frO (Or.inl rfl) (fun q hq => (mupF (by omega)).trans (g2.2 q (by omega)))) ((mupC (by omega)).trans g1) hd2.2 ((gf.o g2).k (by omega)) (fun k hk => ?_) q0 q1
        rw [← el] at hk
        rw [getD_app]
        by_cases ek : k = ns.length
        · rw [if_pos ek, ek]; exact mupE
        · rw [if_neg ek]
          exact Eq.trans (mupC (by omega)) (Eq.trans (congrFun (g2.2 (162 + k) (by omega)) i) (gn k (by omega)))
      · rw [if_pos (hz.mpr hD)] at q0 q1
        refine w_vI2 i6_102 c9 (Or.inl rfl) ⟨by decide +kernel, by decide⟩ (nvp nm rfl) ⟨rfl, Nat.le_of_ble_eq_true rfl⟩ (K_hasD_n gS gp (by omega) hD) ?_
        refine w_ineNF i6_105 (by omega) (by omega) ?_
        refine w_const i6_108 kc_0 ?_
        refine w_rz i6_109 r6 nar_z0 ?_
        exact q0 Nat.one_ne_zero _ gS gp gf
    by_cases h49 : t = 49
    · refine w_ild7 i6_86 ?_
      refine w_bip i6_88 kb_49 ?_
      refine w_ceqNT i6_90 g6_90 (by omega) (by omega) h49 ?_
      exact dig (Or.inl h49)
    · refine w_ild7 i6_86 ?_
      refine w_bip i6_88 kb_49 ?_
      refine w_ceqNF i6_90 (by omega) (by omega) h49 ?_
      refine w_ild7 i6_93 ?_
      refine w_bip i6_95 kb_50 ?_
      by_cases h50 : t = 50
      · refine w_cneNF i6_97 (by omega) (by omega) h50 ?_
        exact dig (Or.inr h50)
      · refine w_cneNT i6_97 g6_97 (by omega) (by omega) h50 ?_
        have hnd : ¬ (t = 49 ∨ t = 50) := fun z => z.elim h49 h50
        have hcnt : ns.length + cntD ts ≤ 3 := by
          have e3 : ns.length + ((if t = 49 ∨ t = 50 then 1 else 0) + cntD ts) ≤ 3 := e3
          rw [if_neg hnd] at e3; omega
        unfold pIt at q0 q1
        rw [if_neg hnd] at q0 q1
        refine w_ald0 i6_130 ?_
        refine w_ald1 i6_131 ?_
        refine w_ild7 i6_132 ?_
        by_cases hs : p < tx.length ∧ tx.getD p 0 = t
        · rw [if_pos hs] at q0 q1
          refine w_vG3 i6_134 c8 (Or.inl rfl) ⟨by decide +kernel, by decide⟩ (nvp nm rfl) ⟨rfl, Nat.le_of_ble_eq_true rfl⟩ ?_
          refine K_sgn_y gS gp hs.1 hs.2 ?_
          refine w_ineNT i6_137 g6_137 (by omega) (by omega) ?_
          refine w_inc6 i6_142 (inc1 _) ?_
          refine w_goto i6_145 g6_145 ?_
          exact ih (j + 1) (p + 1) ns _ _ rfl (by omega) e2b ecb hcnt (gS.frO (Or.inl rfl) (fun q hq => mupF (by omega))) mupE hs.1 (gf.o FrO.rf.u) (fun k hk => (mupC (by omega)).trans (gn k hk)) q0 q1
        · rw [if_neg hs] at q0 q1
          refine w_vI3 i6_134 c8 (Or.inl rfl) ⟨by decide +kernel, by decide⟩ (nvp nm rfl) ⟨rfl, Nat.le_of_ble_eq_true rfl⟩ (K_sgn_n gS gp (by omega) ht hs) ?_
          refine w_ineNF i6_137 (by omega) (by omega) ?_
          refine w_const i6_140 kc_0 ?_
          refine w_rz i6_141 r6 nar_z0 ?_
          exact q0 Nat.one_ne_zero _ gS gp gf
