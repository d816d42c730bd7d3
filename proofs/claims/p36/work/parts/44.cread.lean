/-! the class, a text read -/
set_option maxHeartbeats 100000 in
theorem K_ord_o {d : Nat} {D : Mm} {tx : List Nat} (h : SbR D 169 tx) {p i : Nat} (hp : D 160 5 = nI p) (hb : p < 1000) (h1 : ¬ p < tx.length) : Ct (d + 8) 6 [.ref 160, .ref 169, .int (nI i)] D (Ex (some (.int (nI 0))) D) := by
  have hlt : tx.length ≤ 300 := Nat.le_trans h.2.2.1 h.2.2.2.1
  refine ent m6 rfl rfl (ls := [.ref 160, .ref 169, .int (nI i), .retAddr 0, .retAddr 0, .retAddr 0, .retAddr 0, .retAddr 0]) rfl ?_
  refine w_ald0 i6_0 ?_
  refine w_gfI i6_1 (by decide) s_160 rfl hp ?_
  refine w_ald1 i6_4 ?_
  refine w_vI1 i6_5 c193 (Or.inl rfl) ⟨by decide +kernel, by decide⟩ rfl ⟨rfl, Nat.le_of_ble_eq_true rfl⟩ (K_len_169 h) ?_
  refine w_cgeNT i6_8 g6_8 (by omega) (by omega) (by omega) ?_
  refine w_const i6_27 kc_0 ?_
  refine w_rz i6_28 r6 nar_z0 ?_
  exact ⟨rfl, rfl⟩
set_option maxHeartbeats 100000 in
theorem K_ord_u {d : Nat} {D : Mm} {tx : List Nat} (h : SbR D 169 tx) {p i : Nat} (hp : D 160 5 = nI p) (hb : p < 1000) (h1 : p < tx.length) (hk : ¬ kn (tx.getD p 0) = true) : Ct (d + 8) 6 [.ref 160, .ref 169, .int (nI i)] D (Ex (some (.int (nI 0))) D) := by
  have hlt : tx.length ≤ 300 := Nat.le_trans h.2.2.1 h.2.2.2.1
  refine ent m6 rfl rfl (ls := [.ref 160, .ref 169, .int (nI i), .retAddr 0, .retAddr 0, .retAddr 0, .retAddr 0, .retAddr 0]) rfl ?_
  refine w_ald0 i6_0 ?_
  refine w_gfI i6_1 (by decide) s_160 rfl hp ?_
  refine w_ald1 i6_4 ?_
  refine w_vI1 i6_5 c193 (Or.inl rfl) ⟨by decide +kernel, by decide⟩ rfl ⟨rfl, Nat.le_of_ble_eq_true rfl⟩ (K_len_169 h) ?_
  refine w_cgeNF i6_8 (by omega) (by omega) (by omega) ?_
  refine w_ldc i6_11 (by decide) ?_
  refine w_ald1 i6_13 ?_
  refine w_ald0 i6_14 ?_
  refine w_gfI i6_15 (by decide) s_160 rfl hp ?_
  refine w_vI2 i6_18 c191 (Or.inl rfl) ⟨by decide +kernel, by decide⟩ rfl ⟨rfl, Nat.le_of_ble_eq_true rfl⟩ (K_chr_169 h h1) ?_
  refine w_vI2 i6_21 c206 (Or.inl rfl) (sK (by decide) (by decide)) rfl ⟨rfl, Nat.le_of_ble_eq_true rfl⟩ (K_ix (getD_lt h.2.2.2.2.2.1 h1)) ?_
  refine w_igeF i6_24  ((idx_kn _ (getD_lt h.2.2.2.2.2.1 h1)).mpr (by simpa using hk)) ?_
  refine w_const i6_27 kc_0 ?_
  refine w_rz i6_28 r6 nar_z0 ?_
  exact ⟨rfl, rfl⟩
theorem K_ord {d : Nat} {D : Mm} {Q : Option Value → Mm → Prop} {tx : List Nat} (h : SbR D 169 tx) {p i : Nat} (hp : D 160 5 = nI p) (hi : i < 60) (hb : p < 1000) (hq0 : (pOrd (fun i => tx.getD i 0) tx.length p).2.1 ≠ 0 → ∀ D2, SbR D2 169 tx → D2 160 5 = nI (pOrd (fun i => tx.getD i 0) tx.length p).1 → FrK i D D2 → Q (some (.int (nI 0))) D2) (hq1 : (pOrd (fun i => tx.getD i 0) tx.length p).2.1 = 0 → ∀ D2, SbR D2 169 tx → D2 160 5 = nI (pOrd (fun i => tx.getD i 0) tx.length p).1 → FrK i D D2 → ArgOK D2 i (tx.getD p 0, (pOrd (fun i => tx.getD i 0) tx.length p).2.2) → Q (some (.int (nI 1))) D2) : Ct (d + 8) 6 [.ref 160, .ref 169, .int (nI i)] D Q := by
  by_cases h1 : p < tx.length
  · by_cases hk : kn (tx.getD p 0) = true
    · rcases kn_all hk with z | z | z | z | z | z | z | z | z | z
      · exact K_ord115 h hp hi h1 z hq0 hq1
      · exact K_ord98 h hp hi h1 z hq0 hq1
      · exact K_ord111 h hp hi h1 z hq0 hq1
      · exact K_ord119 h hp hi h1 z hq0 hq1
      · exact K_ord112 h hp hi h1 z hq0 hq1
      · exact K_ord100 h hp hi h1 z hq0 hq1
      · exact K_ord109 h hp hi h1 z hq0 hq1
      · exact K_ord104 h hp hi h1 z hq0 hq1
      · exact K_ord101 h hp hi h1 z hq0 hq1
      · exact K_ord116 h hp hi h1 z hq0 hq1
    · have hE : pOrd (fun i => tx.getD i 0) tx.length p = (p, 1, 0, 0, 0) := by unfold pOrd; rw [if_neg (fun z => hk z.2)]
      rw [hE] at hq0
      exact Ct_exq (K_ord_u h hp hb h1 hk) (hq0 Nat.one_ne_zero D h hp ⟨fun _ _ => rfl, fun _ _ _ _ => rfl⟩)
  · have hE : pOrd (fun i => tx.getD i 0) tx.length p = (p, 1, 0, 0, 0) := by unfold pOrd; rw [if_neg (fun z => h1 z.1)]
    rw [hE] at hq0
    exact Ct_exq (K_ord_o h hp hb h1) (hq0 Nat.one_ne_zero D h hp ⟨fun _ _ => rfl, fun _ _ _ _ => rfl⟩)
def FrR (D D2 : Mm) : Prop := ∀ q, (q < 160 ∨ 164 < q) → D2 q = D q
theorem ArgOK.fr {D D2 : Mm} {i : Nat} {o : Nat × Nat × Nat × Nat} (h : ArgOK D i o) (f : ∀ q, 161 ≤ q → q ≤ 164 → D2 q i = D q i) : ArgOK D2 i o := by
  refine ⟨(f 161 (by decide) (by decide)).trans h.1, h.2.1, fun n V => ?_⟩
  rw [f 162 (by decide) (by decide), f 163 (by decide) (by decide), f 164 (by decide) (by decide)]
  exact h.2.2 n V
def ArgsOK (D : Mm) (os : List (Nat × Nat × Nat × Nat)) : Prop := ∀ j, j < os.length → ArgOK D j (os.getD j (0, 0, 0, 0))
theorem getD_snoc {α : Type} {l : List α} {o : α} {r : List α} {j : Nat} {z : α} : (l ++ o :: r).getD j z = ((l ++ [o]) ++ r).getD j z := by rw [List.append_assoc]; rfl
theorem ArgsOK.snoc {D D2 : Mm} {os : List (Nat × Nat × Nat × Nat)} {o : Nat × Nat × Nat × Nat} (h : ArgsOK D os) (f : FrK os.length D D2) (g : ArgOK D2 os.length o) : ArgsOK D2 (os ++ [o]) := by
  intro j hj
  rw [List.length_append] at hj
  have hj : j < os.length + 1 := hj
  have e : (os ++ [o]).getD j (0, 0, 0, 0) = if j = os.length then o else os.getD j (0, 0, 0, 0) := by
    show (os ++ [o])[j]?.getD (0, 0, 0, 0) = if j = os.length then o else os[j]?.getD (0, 0, 0, 0)
    by_cases q : j = os.length
    · rw [if_pos q, q, List.getElem?_append_right (Nat.le_refl _), Nat.sub_self]; rfl
    · rw [if_neg q, List.getElem?_append_left (by omega)]
  rw [e]
  by_cases q : j = os.length
  · rw [if_pos q, q]; exact g
  · rw [if_neg q]
    exact (h j (by omega)).fr (fun c a b => f.2 c j (by omega) (fun z => q z.2.2))
theorem K_readL {d : Nat} {D : Mm} {Q : Option Value → Mm → Prop} {tx : List Nat} (h60 : tx.length ≤ 60) : ∀ k i p acc (D1 : Mm), i + k = 61 → 2 * i ≤ p → p ≤ tx.length → acc.length = i → ArgsOK D1 acc → SbR D1 169 tx → D1 160 5 = nI p → FrR D D1 →
    ((pRun (fun i => tx.getD i 0) tx.length k p).2.1 ≠ 0 → ∀ D2, FrR D D2 → SbR D2 169 tx → Q (some (.int (nI (pRun (fun i => tx.getD i 0) tx.length k p).1))) D2) →
    ((pRun (fun i => tx.getD i 0) tx.length k p).2.1 = 0 → ∀ D2, FrR D D2 → SbR D2 169 tx → D2 160 4 = nI (acc ++ (pRun (fun i => tx.getD i 0) tx.length k p).2.2).length → ArgsOK D2 (acc ++ (pRun (fun i => tx.getD i 0) tx.length k p).2.2) → Q (some (.int (-1))) D2) →
    Wp (d + 8) 5 Q 12 [.ref 160, .ref 169, .int (nI i)] [] D1 := by
  intro k
  induction k with
  | zero => intro i p acc D1 hk h2 hl; omega
  | succ k ih =>
    intro i p acc D1 hk h2 hl ha gA gS gp gf q0 q1
    refine w_ild2 i5_12 ?_
    refine w_bip i5_13 kb_60 ?_
    refine w_cgeNF i5_15 (by omega) (by omega) (by omega) ?_
    refine w_ald0 i5_18 ?_
    refine w_ald1 i5_19 ?_
    refine w_ild2 i5_20 ?_
    refine w_vG3 i5_21 c6 (Or.inl rfl) ⟨by decide +kernel, by decide⟩ rfl ⟨rfl, Nat.le_of_ble_eq_true rfl⟩ ?_
    have hle := pOrd_le (U := (fun i => tx.getD i 0)) (e := tx.length) hl
    refine K_ord gS gp (by omega) (by omega) (fun w D2 g1 g2 g3 => ?_) (fun w D2 g1 g2 g3 g4 => ?_)
    · rw [pRun_w w] at q0
      refine w_ineNF i5_24 (by decide) (by decide) ?_
      refine w_ald0 i5_27 ?_
      refine w_gfI i5_28 (by decide) s_160 rfl g2 ?_
      refine w_ri i5_31 r5 ?_
      exact q0 Nat.one_ne_zero _ (fun q hq => (funext (fun j => g3.2 q j (by omega) (fun z => by omega)) : D2 q = D1 q).trans (gf q hq)) g1
    · rw [pRun_o w] at q0 q1
      have f2 : FrR D D2 := fun q hq => (funext (fun j => g3.2 q j (by omega) (fun z => by omega)) : D2 q = D1 q).trans (gf q hq)
      subst ha
      have gA2 := gA.snoc g3 g4
      refine w_ineNT i5_24 g5_24 (by decide) (by decide) ?_
      refine w_ald0 i5_32 ?_
      refine w_ild2 i5_33 ?_
      refine w_const i5_34 kc_1 ?_
      refine w_iadd i5_35 (nI_add _ _) ?_
      refine w_pf0 i5_36 (by decide) s_160 rfl ?_
      have g1b : SbR (mup D2 160 4 (nI (acc.length + 1))) 169 tx := g1.frO (Or.inl rfl) (fun q hq => mupF (by omega))
      have f3 : FrR D (mup D2 160 4 (nI (acc.length + 1))) := fun q hq => (mupF (by omega)).trans (f2 q hq)
      have gA3 : ArgsOK (mup D2 160 4 (nI (acc.length + 1))) (acc ++ [(tx.getD p 0, (pOrd (fun i => tx.getD i 0) tx.length p).2.2)]) := fun j hj => (gA2 j hj).fr (fun q a b => mupC (by omega))
      have hlt : tx.length ≤ 300 := by omega
      refine w_ald0 i5_39 ?_
      refine w_gfI i5_40 (by decide) s_160 rfl ((mupJ (by decide)).trans g2) ?_
      refine w_ald1 i5_43 ?_
      refine w_vI1 i5_44 c193 (Or.inl rfl) ⟨by decide +kernel, by decide⟩ rfl ⟨rfl, Nat.le_of_ble_eq_true rfl⟩ (K_len_169 g1b) ?_
      refine w_cltN i5_47 g5_47 (by omega) (by omega) (fun h47 => ?_) (fun h47 => ?_)
      · refine w_ald0 i5_52 ?_
        refine w_ald1 i5_53 ?_
        refine w_bip i5_54 kb_59 ?_
        by_cases hs : tx.getD (pOrd (fun i => tx.getD i 0) tx.length p).1 0 = 59
        · rw [pRest_s h47 hs] at q0 q1
          refine w_vG3 i5_56 c8 (Or.inl rfl) ⟨by decide +kernel, by decide⟩ rfl ⟨rfl, Nat.le_of_ble_eq_true rfl⟩ ?_
          refine K_sgn_y g1b ((mupJ (by decide)).trans g2) h47 hs ?_
          refine w_ineNT i5_59 g5_59 (by decide) (by decide) ?_
          refine w_inc2 i5_67 (inc1 _) ?_
          refine w_goto i5_70 g5_70 ?_
          have hpp := hle.2.2.2 w
          refine ih (acc.length + 1) ((pOrd (fun i => tx.getD i 0) tx.length p).1 + 1) (acc ++ [(tx.getD p 0, (pOrd (fun i => tx.getD i 0) tx.length p).2.2)]) _ (by omega) (by omega) h47 (by rw [List.length_append]; rfl) (fun j hj => (gA3 j hj).fr (fun q a b => mupC (by omega))) (g1b.frO (Or.inl rfl) (fun q hq => mupF (by omega))) mupE (fun q hq => (mupF (by omega)).trans (f3 q hq)) q0 (fun w2 D3 k1 k2 k3 k4 => ?_)
          refine q1 w2 D3 k1 k2 ?_ ?_
          · rw [k3, List.append_assoc]; rfl
          · rw [List.append_assoc] at k4; exact k4
        · rw [pRest_n h47 hs] at q0
          refine w_vI3 i5_56 c8 (Or.inl rfl) ⟨by decide +kernel, by decide⟩ rfl ⟨rfl, Nat.le_of_ble_eq_true rfl⟩ (K_sgn_n g1b ((mupJ (by decide)).trans g2) (by omega) (by decide) (fun z => hs z.2)) ?_
          refine w_ineNF i5_59 (by decide) (by decide) ?_
          refine w_ald0 i5_62 ?_
          refine w_gfI i5_63 (by decide) s_160 rfl ((mupJ (by decide)).trans g2) ?_
          refine w_ri i5_66 r5 ?_
          exact q0 Nat.one_ne_zero _ f3 g1b
      · rw [pRest_e h47] at q1
        refine w_const i5_50 kc_m1 ?_
        refine w_ri i5_51 r5 ?_
        refine q1 rfl _ f3 g1b ?_ gA3
        rw [List.length_append]; exact mupE
theorem K_read {d : Nat} {D : Mm} {Q : Option Value → Mm → Prop} {tx : List Nat} (h : SbR D 169 tx) (h60 : tx.length ≤ 60)
    (q0 : (pRun (fun i => tx.getD i 0) tx.length 61 0).2.1 ≠ 0 → ∀ D2, FrR D D2 → SbR D2 169 tx → Q (some (.int (nI (pRun (fun i => tx.getD i 0) tx.length 61 0).1))) D2)
    (q1 : (pRun (fun i => tx.getD i 0) tx.length 61 0).2.1 = 0 → ∀ D2, FrR D D2 → SbR D2 169 tx → D2 160 4 = nI (pRun (fun i => tx.getD i 0) tx.length 61 0).2.2.length → ArgsOK D2 (pRun (fun i => tx.getD i 0) tx.length 61 0).2.2 → Q (some (.int (-1))) D2) : Ct (d + 9) 5 [.ref 160, .ref 169] D Q := by
  refine ent m5 rfl rfl (ls := [.ref 160, .ref 169, .retAddr 0]) rfl ?_
  refine w_ald0 i5_0 ?_
  refine w_const i5_1 kc_0 ?_
  refine w_pf0 i5_2 (by decide) s_160 rfl ?_
  refine w_ald0 i5_5 ?_
  refine w_const i5_6 kc_0 ?_
  refine w_pf0 i5_7 (by decide) s_160 rfl ?_
  refine w_const i5_10 kc_0 ?_
  refine w_ist2 i5_11 ?_
  exact K_readL h60 61 0 0 [] _ rfl (by decide) (Nat.zero_le _) rfl (fun j hj => absurd hj (Nat.not_lt_zero j)) (h.frO (Or.inl rfl) (fun q hq => (mupF (by omega)).trans (mupF (by omega)))) mupE (fun q hq => (mupF (by omega)).trans (mupF (by omega))) q0 q1
theorem K_mn0 {d : Nat} {D : Mm} : Ct (d + 1) 202 [.int (nI 1), .int (nI 3)] D (Ex (some (.int (nI 1))) D) := by
  have h := K_min (d := d) (D := D) (a := nI 1) (b := nI 3)
  rw [ifp_t (show nI 1 ≤ nI 3 by decide)] at h
  exact h
theorem K_mn1 {d : Nat} {D : Mm} : Ct (d + 1) 202 [.int (nI 2), .int (nI 3)] D (Ex (some (.int (nI 2))) D) := by
  have h := K_min (d := d) (D := D) (a := nI 2) (b := nI 3)
  rw [ifp_t (show nI 2 ≤ nI 3 by decide)] at h
  exact h
theorem K_mn2 {d : Nat} {D : Mm} : Ct (d + 1) 202 [.int (nI 3), .int (nI 3)] D (Ex (some (.int (nI 3))) D) := by
  have h := K_min (d := d) (D := D) (a := nI 3) (b := nI 3)
  rw [ifp_t (show nI 3 ≤ nI 3 by decide)] at h
  exact h
set_option maxHeartbeats 100000 in
theorem K_pa0 {d : Nat} {D : Mm} (hc : D 157 2 = nI 0) {a b : Int32} : Ct (d + 2) 14 [.ref 157, .int a, .int b] D (Ex none (mup (mup (mup (D) 157 2 (nI 1)) 158 0 (a)) 159 0 (b))) := by
  refine ent m14 rfl rfl (ls := [.ref 157, .int a, .int b, .retAddr 0]) rfl ?_
  refine w_ald0 i14_0 ?_
  refine w_ald0 i14_1 ?_
  refine w_gfI i14_2 (by decide) s_157 rfl hc ?_
  refine w_const i14_5 kc_1 ?_
  refine w_iadd i14_6 (nI_add _ _) ?_
  refine w_const i14_7 kc_3 ?_
  refine w_sI2 i14_8 c202 rfl  rfl ⟨rfl, Nat.le_of_ble_eq_true rfl⟩ K_mn0 ?_
  refine w_pf0 i14_11 (by decide) s_157 rfl ?_
  refine w_ald0 i14_14 ?_
  refine w_gfI i14_15 (by decide) s_157 rfl mupE ?_
  refine w_const i14_18 kc_1 ?_
  refine w_isub i14_19 (show nI 1 - nI 1 = nI 0 by decide) ?_
  refine w_ist3 i14_20 ?_
  refine w_ild3 i14_21 ?_
  refine w_ileNT i14_22 g14_22 (by omega) (by omega) ?_
  refine w_ald0 i14_59 ?_
  refine w_gfR i14_60 (by decide) s_157 rfl ?_
  refine w_const i14_63 kc_0 ?_
  refine w_ild1 i14_64 ?_
  refine w_ias i14_65 s_158 (by decide) (by omega) ?_
  refine w_ald0 i14_66 ?_
  refine w_gfR i14_67 (by decide) s_157 rfl ?_
  refine w_const i14_70 kc_0 ?_
  refine w_ild2 i14_71 ?_
  refine w_ias i14_72 s_159 (by decide) (by omega) ?_
  refine w_rv i14_73 r14 ?_
  exact ⟨rfl, rfl⟩
theorem K_pr0 {D : Mm} {a b : Int32} {rs : List (Int32 × Int32)} (hl : rs.length = 0) (h : RsC D rs) : RsC (mup (mup (mup (D) 157 2 (nI 1)) 158 0 (a)) 159 0 (b)) ((a, b) :: rs) := by
  have e : rs = [] := List.eq_nil_of_length_eq_zero hl
  subst e
  exact ⟨((mupC (by decide)).trans ((mupC (by decide)).trans (mupE))), ((mupC (by decide)).trans (mupE)), (mupE)⟩
set_option maxHeartbeats 100000 in
theorem K_pa1 {d : Nat} {D : Mm} (hc : D 157 2 = nI 1) {a b : Int32} : Ct (d + 2) 14 [.ref 157, .int a, .int b] D (Ex none (mup (mup (mup (mup (mup (D) 157 2 (nI 2)) 158 1 (D 158 0)) 159 1 (D 159 0)) 158 0 (a)) 159 0 (b))) := by
  refine ent m14 rfl rfl (ls := [.ref 157, .int a, .int b, .retAddr 0]) rfl ?_
  refine w_ald0 i14_0 ?_
  refine w_ald0 i14_1 ?_
  refine w_gfI i14_2 (by decide) s_157 rfl hc ?_
  refine w_const i14_5 kc_1 ?_
  refine w_iadd i14_6 (nI_add _ _) ?_
  refine w_const i14_7 kc_3 ?_
  refine w_sI2 i14_8 c202 rfl  rfl ⟨rfl, Nat.le_of_ble_eq_true rfl⟩ K_mn1 ?_
  refine w_pf0 i14_11 (by decide) s_157 rfl ?_
  refine w_ald0 i14_14 ?_
  refine w_gfI i14_15 (by decide) s_157 rfl mupE ?_
  refine w_const i14_18 kc_1 ?_
  refine w_isub i14_19 (show nI 2 - nI 1 = nI 1 by decide) ?_
  refine w_ist3 i14_20 ?_
  refine w_ild3 i14_21 ?_
  refine w_ileNF i14_22 (by omega) (by omega) ?_
  refine w_ald0 i14_25 ?_
  refine w_gfR i14_26 (by decide) s_157 rfl ?_
  refine w_ild3 i14_29 ?_
  refine w_ald0 i14_30 ?_
  refine w_gfR i14_31 (by decide) s_157 rfl ?_
  refine w_ild3 i14_34 ?_
  refine w_const i14_35 kc_1 ?_
  refine w_isub i14_36 (show nI 1 - nI 1 = nI 0 by decide) ?_
  refine w_ial i14_37 s_158 (by decide) (by omega) ((mupC (by decide)).trans (rfl)) ?_
  refine w_ias i14_38 s_158 (by decide) (by omega) ?_
  refine w_ald0 i14_39 ?_
  refine w_gfR i14_40 (by decide) s_157 rfl ?_
  refine w_ild3 i14_43 ?_
  refine w_ald0 i14_44 ?_
  refine w_gfR i14_45 (by decide) s_157 rfl ?_
  refine w_ild3 i14_48 ?_
  refine w_const i14_49 kc_1 ?_
  refine w_isub i14_50 (show nI 1 - nI 1 = nI 0 by decide) ?_
  refine w_ial i14_51 s_159 (by decide) (by omega) ((mupC (by decide)).trans ((mupC (by decide)).trans (rfl))) ?_
  refine w_ias i14_52 s_159 (by decide) (by omega) ?_
  refine w_inc3 i14_53 (dec1 0) ?_
  refine w_goto i14_56 g14_56 ?_
  refine w_ild3 i14_21 ?_
  refine w_ileNT i14_22 g14_22 (by omega) (by omega) ?_
  refine w_ald0 i14_59 ?_
  refine w_gfR i14_60 (by decide) s_157 rfl ?_
  refine w_const i14_63 kc_0 ?_
  refine w_ild1 i14_64 ?_
  refine w_ias i14_65 s_158 (by decide) (by omega) ?_
  refine w_ald0 i14_66 ?_
  refine w_gfR i14_67 (by decide) s_157 rfl ?_
  refine w_const i14_70 kc_0 ?_
  refine w_ild2 i14_71 ?_
  refine w_ias i14_72 s_159 (by decide) (by omega) ?_
  refine w_rv i14_73 r14 ?_
  exact ⟨rfl, rfl⟩
theorem K_pr1 {D : Mm} {a b : Int32} {rs : List (Int32 × Int32)} (hl : rs.length = 1) (h : RsC D rs) : RsC (mup (mup (mup (mup (mup (D) 157 2 (nI 2)) 158 1 (D 158 0)) 159 1 (D 159 0)) 158 0 (a)) 159 0 (b)) ((a, b) :: rs) := by
  rcases rs with _ | ⟨⟨u, v⟩, _ | ⟨_, t⟩⟩
  · cases hl
  · exact ⟨((mupC (by decide)).trans ((mupC (by decide)).trans ((mupC (by decide)).trans ((mupC (by decide)).trans (mupE))))), ((mupC (by decide)).trans (mupE)), (mupE), ((mupC (by decide)).trans ((mupJ (by omega)).trans ((mupC (by decide)).trans ((mupE).trans (h.2.1))))), ((mupJ (by omega)).trans ((mupC (by decide)).trans ((mupE).trans (h.2.2))))⟩
  · simp only [List.length_cons] at hl; omega
set_option maxHeartbeats 100000 in
theorem K_pa2 {d : Nat} {D : Mm} (hc : D 157 2 = nI 2) {a b : Int32} : Ct (d + 2) 14 [.ref 157, .int a, .int b] D (Ex none (mup (mup (mup (mup (mup (mup (mup (D) 157 2 (nI 3)) 158 2 (D 158 1)) 159 2 (D 159 1)) 158 1 (D 158 0)) 159 1 (D 159 0)) 158 0 (a)) 159 0 (b))) := by
  refine ent m14 rfl rfl (ls := [.ref 157, .int a, .int b, .retAddr 0]) rfl ?_
  refine w_ald0 i14_0 ?_
  refine w_ald0 i14_1 ?_
  refine w_gfI i14_2 (by decide) s_157 rfl hc ?_
  refine w_const i14_5 kc_1 ?_
  refine w_iadd i14_6 (nI_add _ _) ?_
  refine w_const i14_7 kc_3 ?_
  refine w_sI2 i14_8 c202 rfl  rfl ⟨rfl, Nat.le_of_ble_eq_true rfl⟩ K_mn2 ?_
  refine w_pf0 i14_11 (by decide) s_157 rfl ?_
  refine w_ald0 i14_14 ?_
  refine w_gfI i14_15 (by decide) s_157 rfl mupE ?_
  refine w_const i14_18 kc_1 ?_
  refine w_isub i14_19 (show nI 3 - nI 1 = nI 2 by decide) ?_
  refine w_ist3 i14_20 ?_
  refine w_ild3 i14_21 ?_
  refine w_ileNF i14_22 (by omega) (by omega) ?_
  refine w_ald0 i14_25 ?_
  refine w_gfR i14_26 (by decide) s_157 rfl ?_
  refine w_ild3 i14_29 ?_
  refine w_ald0 i14_30 ?_
  refine w_gfR i14_31 (by decide) s_157 rfl ?_
  refine w_ild3 i14_34 ?_
  refine w_const i14_35 kc_1 ?_
  refine w_isub i14_36 (show nI 2 - nI 1 = nI 1 by decide) ?_
  refine w_ial i14_37 s_158 (by decide) (by omega) ((mupC (by decide)).trans (rfl)) ?_
  refine w_ias i14_38 s_158 (by decide) (by omega) ?_
  refine w_ald0 i14_39 ?_
  refine w_gfR i14_40 (by decide) s_157 rfl ?_
  refine w_ild3 i14_43 ?_
  refine w_ald0 i14_44 ?_
  refine w_gfR i14_45 (by decide) s_157 rfl ?_
  refine w_ild3 i14_48 ?_
  refine w_const i14_49 kc_1 ?_
  refine w_isub i14_50 (show nI 2 - nI 1 = nI 1 by decide) ?_
  refine w_ial i14_51 s_159 (by decide) (by omega) ((mupC (by decide)).trans ((mupC (by decide)).trans (rfl))) ?_
  refine w_ias i14_52 s_159 (by decide) (by omega) ?_
  refine w_inc3 i14_53 (dec1 1) ?_
  refine w_goto i14_56 g14_56 ?_
  refine w_ild3 i14_21 ?_
  refine w_ileNF i14_22 (by omega) (by omega) ?_
  refine w_ald0 i14_25 ?_
  refine w_gfR i14_26 (by decide) s_157 rfl ?_
  refine w_ild3 i14_29 ?_
  refine w_ald0 i14_30 ?_
  refine w_gfR i14_31 (by decide) s_157 rfl ?_
  refine w_ild3 i14_34 ?_
  refine w_const i14_35 kc_1 ?_
  refine w_isub i14_36 (show nI 1 - nI 1 = nI 0 by decide) ?_
  refine w_ial i14_37 s_158 (by decide) (by omega) ((mupC (by decide)).trans ((mupJ (by decide)).trans ((mupC (by decide)).trans (rfl)))) ?_
  refine w_ias i14_38 s_158 (by decide) (by omega) ?_
  refine w_ald0 i14_39 ?_
  refine w_gfR i14_40 (by decide) s_157 rfl ?_
  refine w_ild3 i14_43 ?_
  refine w_ald0 i14_44 ?_
  refine w_gfR i14_45 (by decide) s_157 rfl ?_
  refine w_ild3 i14_48 ?_
  refine w_const i14_49 kc_1 ?_
  refine w_isub i14_50 (show nI 1 - nI 1 = nI 0 by decide) ?_
  refine w_ial i14_51 s_159 (by decide) (by omega) ((mupC (by decide)).trans ((mupJ (by decide)).trans ((mupC (by decide)).trans ((mupC (by decide)).trans (rfl))))) ?_
  refine w_ias i14_52 s_159 (by decide) (by omega) ?_
  refine w_inc3 i14_53 (dec1 0) ?_
  refine w_goto i14_56 g14_56 ?_
  refine w_ild3 i14_21 ?_
  refine w_ileNT i14_22 g14_22 (by omega) (by omega) ?_
  refine w_ald0 i14_59 ?_
  refine w_gfR i14_60 (by decide) s_157 rfl ?_
  refine w_const i14_63 kc_0 ?_
  refine w_ild1 i14_64 ?_
  refine w_ias i14_65 s_158 (by decide) (by omega) ?_
  refine w_ald0 i14_66 ?_
  refine w_gfR i14_67 (by decide) s_157 rfl ?_
  refine w_const i14_70 kc_0 ?_
  refine w_ild2 i14_71 ?_
  refine w_ias i14_72 s_159 (by decide) (by omega) ?_
  refine w_rv i14_73 r14 ?_
  exact ⟨rfl, rfl⟩
theorem K_pr2 {D : Mm} {a b : Int32} {rs : List (Int32 × Int32)} (hl : rs.length = 2) (h : RsC D rs) : RsC (mup (mup (mup (mup (mup (mup (mup (D) 157 2 (nI 3)) 158 2 (D 158 1)) 159 2 (D 159 1)) 158 1 (D 158 0)) 159 1 (D 159 0)) 158 0 (a)) 159 0 (b)) ((a, b) :: rs) := by
  rcases rs with _ | ⟨⟨u, v⟩, _ | ⟨⟨y, z⟩, _ | ⟨_, t⟩⟩⟩
  · cases hl
  · cases hl
  · exact ⟨((mupC (by decide)).trans ((mupC (by decide)).trans ((mupC (by decide)).trans ((mupC (by decide)).trans ((mupC (by decide)).trans ((mupC (by decide)).trans (mupE))))))), ((mupC (by decide)).trans (mupE)), (mupE), ((mupC (by decide)).trans ((mupJ (by omega)).trans ((mupC (by decide)).trans ((mupE).trans (h.2.1))))), ((mupJ (by omega)).trans ((mupC (by decide)).trans ((mupE).trans (h.2.2.1)))), ((mupC (by decide)).trans ((mupJ (by omega)).trans ((mupC (by decide)).trans ((mupJ (by omega)).trans ((mupC (by decide)).trans ((mupE).trans (h.2.2.2.1))))))), ((mupJ (by omega)).trans ((mupC (by decide)).trans ((mupJ (by omega)).trans ((mupC (by decide)).trans ((mupE).trans (h.2.2.2.2))))))⟩
  · simp only [List.length_cons] at hl; omega
