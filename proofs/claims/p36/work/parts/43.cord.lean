/-! the class, one order read -/
theorem pItD {U : Nat → Nat} {e m p : Nat} {ts ns : List Nat} (hm : m = 1 ∨ m = 2) : pIt U e ((48 + m) :: ts) p ns = if (o1P U e m p).2.1 = 0 then pIt U e ts (o1P U e m p).1 (ns ++ [(o1P U e m p).2.2]) else ((o1P U e m p).1, 1, ns) := by
  have h0 : ¬ m = 0 := by omega
  have hE : o1P U e m p = ((dgs U e m 0 p).2, (if (dgs U e m 0 p).2 = p then 1 else 0), (dgs U e m 0 p).1) := by unfold o1P; rw [if_neg h0]
  rw [hE, pIt, if_pos (show 48 + m = 49 ∨ 48 + m = 50 by omega), Nat.add_sub_cancel_left]
  by_cases z : (dgs U e m 0 p).2 = p
  · dsimp only
    rw [if_pos z, if_pos z, if_neg Nat.one_ne_zero, z]
  · dsimp only
    rw [if_neg z, if_neg z, if_pos rfl]
theorem pItS {U : Nat → Nat} {e c m p : Nat} {ts ns : List Nat} (hm : m = 1 ∨ m = 2) (hc : c ≠ 49 ∧ c ≠ 50) : pIt U e (c :: (48 + m) :: ts) p ns = if (bhP U e c m p 0).2.1 = 0 then pIt U e ts (bhP U e c m p 0).1 (ns ++ [(bhP U e c m p 0).2.2]) else ((bhP U e c m p 0).1, 1, ns) := by
  rw [pIt, if_neg (fun z => z.elim hc.1 hc.2)]
  unfold bhP
  rw [if_neg (show ¬ 0 = 1 by decide)]
  by_cases g : p < e ∧ U p = c
  · rw [if_pos g, if_pos g, pItD hm]
    have h0 : ¬ m = 0 := by omega
    have hE : o1P U e m (p + 1) = ((dgs U e m 0 (p + 1)).2, (if (dgs U e m 0 (p + 1)).2 = p + 1 then 1 else 0), (dgs U e m 0 (p + 1)).1) := by unfold o1P; rw [if_neg h0]
    rw [hE]
  · rw [if_neg g, if_neg g]
    simp only [if_neg Nat.one_ne_zero]
theorem nxE {U : Nat → Nat} {e c m : Nat} {s : Nat × Nat × Nat} (hc : c ≠ 0) : nxP U e c m s = bhP U e c m s.1 s.2.1 := by unfold nxP; rw [if_neg hc]
theorem nx0 {U : Nat → Nat} {e m : Nat} {s : Nat × Nat × Nat} : nxP U e 0 m s = (s.1, s.2.1, 0) := rfl
theorem bh1 {U : Nat → Nat} {e c m p : Nat} : bhP U e c m p 1 = (p, 1, 0) := rfl
theorem pit1 {U : Nat → Nat} {e m p : Nat} (hm : m = 1 ∨ m = 2) : (pIt U e [48 + m] p []).1 = (o1P U e m p).1 ∧ (pIt U e [48 + m] p []).2.1 = (o1P U e m p).2.1 ∧ ((o1P U e m p).2.1 = 0 → (pIt U e [48 + m] p []).2.2 = [(o1P U e m p).2.2]) := by
  have w := o1P_w (U := U) (e := e) (m := m) (p := p)
  rw [pItD hm]
  by_cases z : (o1P U e m p).2.1 = 0
  · rw [if_pos z]; exact ⟨rfl, z.symm, fun _ => rfl⟩
  · rw [if_neg z]; exact ⟨rfl, (by dsimp only; omega), fun q => absurd q z⟩
theorem pit3 {U : Nat → Nat} {e m c2 m2 p : Nat} (hm : m = 1 ∨ m = 2) (hc : c2 ≠ 49 ∧ c2 ≠ 50 ∧ c2 ≠ 0) (hm2 : m2 = 1 ∨ m2 = 2) : (pIt U e [48 + m, c2, 48 + m2] p []).1 = (nxP U e c2 m2 (o1P U e m p)).1 ∧ (pIt U e [48 + m, c2, 48 + m2] p []).2.1 = (nxP U e c2 m2 (o1P U e m p)).2.1 ∧ ((nxP U e c2 m2 (o1P U e m p)).2.1 = 0 → (pIt U e [48 + m, c2, 48 + m2] p []).2.2 = [(o1P U e m p).2.2, (nxP U e c2 m2 (o1P U e m p)).2.2]) := by
  have w := o1P_w (U := U) (e := e) (m := m) (p := p)
  rw [pItD hm, nxE hc.2.2]
  by_cases z : (o1P U e m p).2.1 = 0
  · rw [if_pos z, z, pItS hm2 ⟨hc.1, hc.2.1⟩]
    have w2 := @bhP_w U e c2 m2 (o1P U e m p).1 0
    by_cases y : (bhP U e c2 m2 (o1P U e m p).1 0).2.1 = 0
    · rw [if_pos y]; exact ⟨rfl, y.symm, fun _ => rfl⟩
    · rw [if_neg y]; exact ⟨rfl, (by dsimp only; omega), fun q => absurd q y⟩
  · have z1 : (o1P U e m p).2.1 = 1 := by omega
    rw [if_neg z, z1, bh1]
    exact ⟨rfl, rfl, fun q => absurd q Nat.one_ne_zero⟩
theorem pit5 {U : Nat → Nat} {e m c2 m2 c3 m3 p : Nat} (hm : m = 1 ∨ m = 2) (hc : c2 ≠ 49 ∧ c2 ≠ 50 ∧ c2 ≠ 0) (hm2 : m2 = 1 ∨ m2 = 2) (hc3 : c3 ≠ 49 ∧ c3 ≠ 50 ∧ c3 ≠ 0) (hm3 : m3 = 1 ∨ m3 = 2) : (pIt U e [48 + m, c2, 48 + m2, c3, 48 + m3] p []).1 = (nxP U e c3 m3 (nxP U e c2 m2 (o1P U e m p))).1 ∧ (pIt U e [48 + m, c2, 48 + m2, c3, 48 + m3] p []).2.1 = (nxP U e c3 m3 (nxP U e c2 m2 (o1P U e m p))).2.1 ∧ ((nxP U e c3 m3 (nxP U e c2 m2 (o1P U e m p))).2.1 = 0 → (pIt U e [48 + m, c2, 48 + m2, c3, 48 + m3] p []).2.2 = [(o1P U e m p).2.2, (nxP U e c2 m2 (o1P U e m p)).2.2, (nxP U e c3 m3 (nxP U e c2 m2 (o1P U e m p))).2.2]) := by
  have w := o1P_w (U := U) (e := e) (m := m) (p := p)
  rw [pItD hm, nxE hc3.2.2, nxE hc.2.2]
  by_cases z : (o1P U e m p).2.1 = 0
  · rw [if_pos z, z, pItS hm2 ⟨hc.1, hc.2.1⟩]
    have w2 := @bhP_w U e c2 m2 (o1P U e m p).1 0
    by_cases y : (bhP U e c2 m2 (o1P U e m p).1 0).2.1 = 0
    · rw [if_pos y, y, pItS hm3 ⟨hc3.1, hc3.2.1⟩]
      have w3 := @bhP_w U e c3 m3 (bhP U e c2 m2 (o1P U e m p).1 0).1 0
      by_cases x : (bhP U e c3 m3 (bhP U e c2 m2 (o1P U e m p).1 0).1 0).2.1 = 0
      · rw [if_pos x]; exact ⟨rfl, x.symm, fun _ => rfl⟩
      · rw [if_neg x]; exact ⟨rfl, (by dsimp only; omega), fun q => absurd q x⟩
    · have y1 : (bhP U e c2 m2 (o1P U e m p).1 0).2.1 = 1 := by omega
      rw [if_neg y, y1, bh1]
      exact ⟨rfl, rfl, fun q => absurd q Nat.one_ne_zero⟩
  · have z1 : (o1P U e m p).2.1 = 1 := by omega
    rw [if_neg z, z1, bh1, bh1]
    exact ⟨rfl, rfl, fun q => absurd q Nat.one_ne_zero⟩
def FrK (i : Nat) (D D2 : Mm) : Prop := (∀ j, j ≠ 5 → D2 160 j = D 160 j) ∧ (∀ q j, q ≠ 160 → ¬ (161 ≤ q ∧ q ≤ 164 ∧ j = i) → D2 q j = D q j)
def ArgOK (D : Mm) (i : Nat) (o : Nat × Nat × Nat × Nat) : Prop := D 161 i = nI o.1 ∧ kn o.1 = true ∧ ∀ n V, oDo n V o.1 (D 162 i) (D 163 i) (D 164 i) = oDo n V o.1 (nI o.2.1) (nI o.2.2.1) (nI o.2.2.2)
theorem K_chrc {d : Nat} {D : Mm} {ln : List Nat} {i c : Nat} (h : SbR D 169 ln) (hi : i < ln.length) (hc : ln.getD i 0 = c) : Ct (d + 4) 191 [.ref 169, .int (nI i)] D (Ex (some (.int (nI c))) D) := hc ▸ K_chr_169 h hi
theorem pOrd_k {U : Nat → Nat} {e p c : Nat} (h : p < e) (hc : U p = c) (hk : kn c = true) : pOrd U e p = ordS U e c (p + 1) := by unfold pOrd; rw [hc, if_pos ⟨h, hk⟩]
set_option maxHeartbeats 100000 in
theorem K_pt115 {d : Nat} {D : Mm} : Ct (d + 1) 7 [.int (nI 115)] D (Ex (some (.ref 1001)) D) := by
  refine ent m7 rfl rfl (ls := [.int (nI 115)]) rfl ?_
  refine w_ild0 i7_0 ?_
  refine w_ts (t := 104) i7_1 (by decide) ?_
  refine w_ldc i7_104 (by decide) ?_
  refine w_ra i7_106 r7 rfl ?_
  exact ⟨rfl, rfl⟩
set_option maxHeartbeats 100000 in
theorem K_pt98 {d : Nat} {D : Mm} : Ct (d + 1) 7 [.int (nI 98)] D (Ex (some (.ref 1002)) D) := by
  refine ent m7 rfl rfl (ls := [.int (nI 98)]) rfl ?_
  refine w_ild0 i7_0 ?_
  refine w_ts (t := 107) i7_1 (by decide) ?_
  refine w_ldc i7_107 (by decide) ?_
  refine w_ra i7_109 r7 rfl ?_
  exact ⟨rfl, rfl⟩
set_option maxHeartbeats 100000 in
theorem K_pt111 {d : Nat} {D : Mm} : Ct (d + 1) 7 [.int (nI 111)] D (Ex (some (.ref 1003)) D) := by
  refine ent m7 rfl rfl (ls := [.int (nI 111)]) rfl ?_
  refine w_ild0 i7_0 ?_
  refine w_ts (t := 110) i7_1 (by decide) ?_
  refine w_ldc i7_110 (by decide) ?_
  refine w_ra i7_112 r7 rfl ?_
  exact ⟨rfl, rfl⟩
set_option maxHeartbeats 100000 in
theorem K_pt119 {d : Nat} {D : Mm} : Ct (d + 1) 7 [.int (nI 119)] D (Ex (some (.ref 1004)) D) := by
  refine ent m7 rfl rfl (ls := [.int (nI 119)]) rfl ?_
  refine w_ild0 i7_0 ?_
  refine w_ts (t := 113) i7_1 (by decide) ?_
  refine w_ldc i7_113 (by decide) ?_
  refine w_ra i7_115 r7 rfl ?_
  exact ⟨rfl, rfl⟩
set_option maxHeartbeats 100000 in
theorem K_pt112 {d : Nat} {D : Mm} : Ct (d + 1) 7 [.int (nI 112)] D (Ex (some (.ref 1005)) D) := by
  refine ent m7 rfl rfl (ls := [.int (nI 112)]) rfl ?_
  refine w_ild0 i7_0 ?_
  refine w_ts (t := 116) i7_1 (by decide) ?_
  refine w_ldc i7_116 (by decide) ?_
  refine w_ra i7_118 r7 rfl ?_
  exact ⟨rfl, rfl⟩
set_option maxHeartbeats 100000 in
theorem K_pt109 {d : Nat} {D : Mm} : Ct (d + 1) 7 [.int (nI 109)] D (Ex (some (.ref 1001)) D) := by
  refine ent m7 rfl rfl (ls := [.int (nI 109)]) rfl ?_
  refine w_ild0 i7_0 ?_
  refine w_ts (t := 119) i7_1 (by decide) ?_
  refine w_ldc i7_119 (by decide) ?_
  refine w_ra i7_121 r7 rfl ?_
  exact ⟨rfl, rfl⟩
set_option maxHeartbeats 100000 in
theorem K_pt104 {d : Nat} {D : Mm} : Ct (d + 1) 7 [.int (nI 104)] D (Ex (some (.ref 1006)) D) := by
  refine ent m7 rfl rfl (ls := [.int (nI 104)]) rfl ?_
  refine w_ild0 i7_0 ?_
  refine w_ts (t := 122) i7_1 (by decide) ?_
  refine w_ldc i7_122 (by decide) ?_
  refine w_ra i7_124 r7 rfl ?_
  exact ⟨rfl, rfl⟩
set_option maxHeartbeats 100000 in
theorem K_pt101 {d : Nat} {D : Mm} : Ct (d + 1) 7 [.int (nI 101)] D (Ex (some (.ref 1007)) D) := by
  refine ent m7 rfl rfl (ls := [.int (nI 101)]) rfl ?_
  refine w_ild0 i7_0 ?_
  refine w_ts (t := 125) i7_1 (by decide) ?_
  refine w_ldc i7_125 (by decide) ?_
  refine w_ra i7_127 r7 rfl ?_
  exact ⟨rfl, rfl⟩
set_option maxHeartbeats 100000 in
theorem K_pt116 {d : Nat} {D : Mm} : Ct (d + 1) 7 [.int (nI 116)] D (Ex (some (.ref 1008)) D) := by
  refine ent m7 rfl rfl (ls := [.int (nI 116)]) rfl ?_
  refine w_ild0 i7_0 ?_
  refine w_ts (t := 128) i7_1 (by decide) ?_
  refine w_ldc i7_128 (by decide) ?_
  refine w_ra i7_130 r7 rfl ?_
  exact ⟨rfl, rfl⟩
set_option maxHeartbeats 100000 in
theorem K_pt100 {d : Nat} {D : Mm} : Ct (d + 1) 7 [.int (nI 100)] D (Ex (some (.ref 1009)) D) := by
  refine ent m7 rfl rfl (ls := [.int (nI 100)]) rfl ?_
  refine w_ild0 i7_0 ?_
  refine w_ts (t := 131) i7_1 (by decide) ?_
  refine w_ldc i7_131 (by decide) ?_
  refine w_ra i7_133 r7 rfl ?_
  exact ⟨rfl, rfl⟩
set_option maxHeartbeats 100000 in
theorem K_ord115 {d : Nat} {D : Mm} {Q : Option Value → Mm → Prop} {tx : List Nat} (h : SbR D 169 tx) {p i : Nat} (hp : D 160 5 = nI p) (hi : i < 60) (hp1 : p < tx.length) (hc : tx.getD p 0 = 115) (hq0 : (pOrd (fun i => tx.getD i 0) tx.length p).2.1 ≠ 0 → ∀ D2, SbR D2 169 tx → D2 160 5 = nI (pOrd (fun i => tx.getD i 0) tx.length p).1 → FrK i D D2 → Q (some (.int (nI 0))) D2) (hq1 : (pOrd (fun i => tx.getD i 0) tx.length p).2.1 = 0 → ∀ D2, SbR D2 169 tx → D2 160 5 = nI (pOrd (fun i => tx.getD i 0) tx.length p).1 → FrK i D D2 → ArgOK D2 i (tx.getD p 0, (pOrd (fun i => tx.getD i 0) tx.length p).2.2) → Q (some (.int (nI 1))) D2) : Ct (d + 8) 6 [.ref 160, .ref 169, .int (nI i)] D Q := by
  have hlt : tx.length ≤ 300 := Nat.le_trans h.2.2.1 h.2.2.2.1
  refine ent m6 rfl rfl (ls := [.ref 160, .ref 169, .int (nI i), .retAddr 0, .retAddr 0, .retAddr 0, .retAddr 0, .retAddr 0]) rfl ?_
  refine w_ald0 i6_0 ?_
  refine w_gfI i6_1 (by decide) s_160 rfl hp ?_
  refine w_ald1 i6_4 ?_
  refine w_vI1 i6_5 c193 (Or.inl rfl) ⟨by decide +kernel, by decide⟩ rfl ⟨rfl, Nat.le_of_ble_eq_true rfl⟩ (K_len_169 h) ?_
  refine w_cgeNF i6_8 (by omega) (by omega) (by omega) ?_
  refine w_ldc i6_11 (by decide) ?_
  refine w_ald1 i6_13 ?_
  refine w_ald0 i6_14 ?_
  refine w_gfI i6_15 (by decide) s_160 rfl hp ?_
  refine w_vI2 i6_18 c191 (Or.inl rfl) ⟨by decide +kernel, by decide⟩ rfl ⟨rfl, Nat.le_of_ble_eq_true rfl⟩ (K_chrc h hp1 hc) ?_
  refine w_vI2 i6_21 c206 (Or.inl rfl) (sK (by decide) (by decide)) rfl ⟨rfl, Nat.le_of_ble_eq_true rfl⟩ (K_ix (c := 115) (by decide)) ?_
  refine w_igeT i6_24 g6_24  (by decide +kernel) ?_
  refine w_ald1 i6_29 ?_
  refine w_ald0 i6_30 ?_
  refine w_gfI i6_31 (by decide) s_160 rfl hp ?_
  refine w_vI2 i6_34 c191 (Or.inl rfl) ⟨by decide +kernel, by decide⟩ rfl ⟨rfl, Nat.le_of_ble_eq_true rfl⟩ (K_chrc h hp1 hc) ?_
  refine w_ist3 i6_37 ?_
  refine w_ild3 i6_38 ?_
  refine w_sR1 i6_39 c7 rfl  rfl ⟨rfl, Nat.le_of_ble_eq_true rfl⟩ K_pt115 ?_
  refine w_ast4 i6_42 ?_
  refine w_ald0 i6_44 ?_
  refine w_gfR i6_45 (by decide) s_160 rfl ?_
  refine w_ild2 i6_48 ?_
  refine w_ild3 i6_49 ?_
  refine w_ias i6_50 s_161 (by decide) (by omega) ?_
  refine w_ald0 i6_51 ?_
  refine w_dup i6_52 rfl ?_
  refine w_gfI i6_53 (by decide) s_160 rfl ((mupC (by decide)).trans hp) ?_
  refine w_const i6_56 kc_1 ?_
  refine w_iadd i6_57 (nI_add _ _) ?_
  refine w_pf0 i6_58 (by decide) s_160 rfl ?_
  refine w_const i6_61 kc_0 ?_
  refine w_ist5 i6_62 ?_
  refine w_const i6_64 kc_0 ?_
  refine w_ist6 i6_65 ?_
  have hpo : pOrd (fun i => tx.getD i 0) tx.length p = ordS (fun i => tx.getD i 0) tx.length 115 (p + 1) := pOrd_k hp1 hc rfl
  rw [hpo, ordS_eq (show pt 115 = _ from rfl)] at hq0 hq1
  dsimp only at hq0 hq1
  obtain ⟨e1, e2, e3⟩ := pit5 (U := (fun i => tx.getD i 0)) (e := tx.length) (p := p + 1) (m := 1) (c2 := 58) (m2 := 2) (c3 := 47) (m3 := 1) (Or.inl rfl) ⟨by decide, by decide, by decide⟩ (Or.inr rfl) ⟨by decide, by decide, by decide⟩ (Or.inl rfl)
  have fB : ∀ q j, q ≠ 160 → ¬ (161 ≤ q ∧ q ≤ 164 ∧ j = i) → (mup (mup D 161 i (nI 115)) 160 5 (nI (p + 1))) q j = D q j := fun q j a b => (mupC a).trans (mupN (fun z => b ⟨by omega, by omega, z.2⟩))
  refine K_pat (D := mup (mup D 161 i (nI 115)) 160 5 (nI (p + 1))) (tx := tx) (i := i) (c := 115) (m := 1001) hi (by decide) (by decide) (by decide +kernel) [49, 58, 50, 47, 49] 0 (p + 1) [] _ _ rfl (by decide +kernel) (by decide +kernel) (by decide) (by decide) (h.frO (Or.inl rfl) (fun q hq => (mupF (by omega)).trans (mupF (by omega)))) mupE hp1 FrI.rf (fun k hk => absurd hk (Nat.not_lt_zero k)) (fun w D2 g1 g2 g3 => ?_) (fun w D2 g1 g2 g3 g4 => ?_)
  · have w2 := w
    rw [e2] at w2
    refine hq0 w2 D2 g1 (by rw [g2]; exact congrArg nI e1) ⟨fun j hj => (g3.1 j hj).trans ((mupJ hj).trans (mupC (by decide))), fun q j a b => (g3.2 q j a (fun z => b ⟨by omega, z.2⟩)).trans (fB q j a b)⟩
  · have w2 := w
    rw [e2] at w2
    rw [e3 w2] at g4
    have n0 := g4 0 (show 0 < 3 by decide)
    have n1 := g4 1 (show 1 < 3 by decide)
    have n2 := g4 2 (show 2 < 3 by decide)
    refine hq1 w2 D2 g1 (by rw [g2]; exact congrArg nI e1) ⟨fun j hj => (g3.1 j hj).trans ((mupJ hj).trans (mupC (by decide))), fun q j a b => (g3.2 q j a (fun z => b ⟨by omega, z.2⟩)).trans (fB q j a b)⟩ ⟨?_, ?_, fun n V => ?_⟩
    · dsimp only; rw [hc]; exact (g3.2 161 i (by decide) (fun z => by omega)).trans ((mupC (by decide)).trans mupE)
    · dsimp only; rw [hc]; rfl
    · dsimp only; rw [hc, oDo115, oDo115]
      rw [show D2 162 i = _ from n0]
      rw [show D2 163 i = _ from n1]
      rw [show D2 164 i = _ from n2]
      rfl
set_option maxHeartbeats 100000 in
theorem K_ord98 {d : Nat} {D : Mm} {Q : Option Value → Mm → Prop} {tx : List Nat} (h : SbR D 169 tx) {p i : Nat} (hp : D 160 5 = nI p) (hi : i < 60) (hp1 : p < tx.length) (hc : tx.getD p 0 = 98) (hq0 : (pOrd (fun i => tx.getD i 0) tx.length p).2.1 ≠ 0 → ∀ D2, SbR D2 169 tx → D2 160 5 = nI (pOrd (fun i => tx.getD i 0) tx.length p).1 → FrK i D D2 → Q (some (.int (nI 0))) D2) (hq1 : (pOrd (fun i => tx.getD i 0) tx.length p).2.1 = 0 → ∀ D2, SbR D2 169 tx → D2 160 5 = nI (pOrd (fun i => tx.getD i 0) tx.length p).1 → FrK i D D2 → ArgOK D2 i (tx.getD p 0, (pOrd (fun i => tx.getD i 0) tx.length p).2.2) → Q (some (.int (nI 1))) D2) : Ct (d + 8) 6 [.ref 160, .ref 169, .int (nI i)] D Q := by
  have hlt : tx.length ≤ 300 := Nat.le_trans h.2.2.1 h.2.2.2.1
  refine ent m6 rfl rfl (ls := [.ref 160, .ref 169, .int (nI i), .retAddr 0, .retAddr 0, .retAddr 0, .retAddr 0, .retAddr 0]) rfl ?_
  refine w_ald0 i6_0 ?_
  refine w_gfI i6_1 (by decide) s_160 rfl hp ?_
  refine w_ald1 i6_4 ?_
  refine w_vI1 i6_5 c193 (Or.inl rfl) ⟨by decide +kernel, by decide⟩ rfl ⟨rfl, Nat.le_of_ble_eq_true rfl⟩ (K_len_169 h) ?_
  refine w_cgeNF i6_8 (by omega) (by omega) (by omega) ?_
  refine w_ldc i6_11 (by decide) ?_
  refine w_ald1 i6_13 ?_
  refine w_ald0 i6_14 ?_
  refine w_gfI i6_15 (by decide) s_160 rfl hp ?_
  refine w_vI2 i6_18 c191 (Or.inl rfl) ⟨by decide +kernel, by decide⟩ rfl ⟨rfl, Nat.le_of_ble_eq_true rfl⟩ (K_chrc h hp1 hc) ?_
  refine w_vI2 i6_21 c206 (Or.inl rfl) (sK (by decide) (by decide)) rfl ⟨rfl, Nat.le_of_ble_eq_true rfl⟩ (K_ix (c := 98) (by decide)) ?_
  refine w_igeT i6_24 g6_24  (by decide +kernel) ?_
  refine w_ald1 i6_29 ?_
  refine w_ald0 i6_30 ?_
  refine w_gfI i6_31 (by decide) s_160 rfl hp ?_
  refine w_vI2 i6_34 c191 (Or.inl rfl) ⟨by decide +kernel, by decide⟩ rfl ⟨rfl, Nat.le_of_ble_eq_true rfl⟩ (K_chrc h hp1 hc) ?_
  refine w_ist3 i6_37 ?_
  refine w_ild3 i6_38 ?_
  refine w_sR1 i6_39 c7 rfl  rfl ⟨rfl, Nat.le_of_ble_eq_true rfl⟩ K_pt98 ?_
  refine w_ast4 i6_42 ?_
  refine w_ald0 i6_44 ?_
  refine w_gfR i6_45 (by decide) s_160 rfl ?_
  refine w_ild2 i6_48 ?_
  refine w_ild3 i6_49 ?_
  refine w_ias i6_50 s_161 (by decide) (by omega) ?_
  refine w_ald0 i6_51 ?_
  refine w_dup i6_52 rfl ?_
  refine w_gfI i6_53 (by decide) s_160 rfl ((mupC (by decide)).trans hp) ?_
  refine w_const i6_56 kc_1 ?_
  refine w_iadd i6_57 (nI_add _ _) ?_
  refine w_pf0 i6_58 (by decide) s_160 rfl ?_
  refine w_const i6_61 kc_0 ?_
  refine w_ist5 i6_62 ?_
  refine w_const i6_64 kc_0 ?_
  refine w_ist6 i6_65 ?_
  have hpo : pOrd (fun i => tx.getD i 0) tx.length p = ordS (fun i => tx.getD i 0) tx.length 98 (p + 1) := pOrd_k hp1 hc rfl
  rw [hpo, ordS_eq (show pt 98 = _ from rfl)] at hq0 hq1
  dsimp only at hq0 hq1
  obtain ⟨e1, e2, e3⟩ := pit3 (U := (fun i => tx.getD i 0)) (e := tx.length) (p := p + 1) (m := 2) (c2 := 42) (m2 := 2) (Or.inr rfl) ⟨by decide, by decide, by decide⟩ (Or.inr rfl)
  have fB : ∀ q j, q ≠ 160 → ¬ (161 ≤ q ∧ q ≤ 164 ∧ j = i) → (mup (mup D 161 i (nI 98)) 160 5 (nI (p + 1))) q j = D q j := fun q j a b => (mupC a).trans (mupN (fun z => b ⟨by omega, by omega, z.2⟩))
  refine K_pat (D := mup (mup D 161 i (nI 98)) 160 5 (nI (p + 1))) (tx := tx) (i := i) (c := 98) (m := 1002) hi (by decide) (by decide) (by decide +kernel) [50, 42, 50] 0 (p + 1) [] _ _ rfl (by decide +kernel) (by decide +kernel) (by decide) (by decide) (h.frO (Or.inl rfl) (fun q hq => (mupF (by omega)).trans (mupF (by omega)))) mupE hp1 FrI.rf (fun k hk => absurd hk (Nat.not_lt_zero k)) (fun w D2 g1 g2 g3 => ?_) (fun w D2 g1 g2 g3 g4 => ?_)
  · have w2 := w
    rw [e2] at w2
    refine hq0 w2 D2 g1 (by rw [g2]; exact congrArg nI e1) ⟨fun j hj => (g3.1 j hj).trans ((mupJ hj).trans (mupC (by decide))), fun q j a b => (g3.2 q j a (fun z => b ⟨by omega, z.2⟩)).trans (fB q j a b)⟩
  · have w2 := w
    rw [e2] at w2
    rw [e3 w2] at g4
    have n0 := g4 0 (show 0 < 2 by decide)
    have n1 := g4 1 (show 1 < 2 by decide)
    refine hq1 w2 D2 g1 (by rw [g2]; exact congrArg nI e1) ⟨fun j hj => (g3.1 j hj).trans ((mupJ hj).trans (mupC (by decide))), fun q j a b => (g3.2 q j a (fun z => b ⟨by omega, z.2⟩)).trans (fB q j a b)⟩ ⟨?_, ?_, fun n V => ?_⟩
    · dsimp only; rw [hc]; exact (g3.2 161 i (by decide) (fun z => by omega)).trans ((mupC (by decide)).trans mupE)
    · dsimp only; rw [hc]; rfl
    · dsimp only; rw [hc, oDo98, oDo98]
      rw [show D2 162 i = _ from n0]
      rw [show D2 163 i = _ from n1]
      rfl
set_option maxHeartbeats 100000 in
theorem K_ord111 {d : Nat} {D : Mm} {Q : Option Value → Mm → Prop} {tx : List Nat} (h : SbR D 169 tx) {p i : Nat} (hp : D 160 5 = nI p) (hi : i < 60) (hp1 : p < tx.length) (hc : tx.getD p 0 = 111) (hq0 : (pOrd (fun i => tx.getD i 0) tx.length p).2.1 ≠ 0 → ∀ D2, SbR D2 169 tx → D2 160 5 = nI (pOrd (fun i => tx.getD i 0) tx.length p).1 → FrK i D D2 → Q (some (.int (nI 0))) D2) (hq1 : (pOrd (fun i => tx.getD i 0) tx.length p).2.1 = 0 → ∀ D2, SbR D2 169 tx → D2 160 5 = nI (pOrd (fun i => tx.getD i 0) tx.length p).1 → FrK i D D2 → ArgOK D2 i (tx.getD p 0, (pOrd (fun i => tx.getD i 0) tx.length p).2.2) → Q (some (.int (nI 1))) D2) : Ct (d + 8) 6 [.ref 160, .ref 169, .int (nI i)] D Q := by
  have hlt : tx.length ≤ 300 := Nat.le_trans h.2.2.1 h.2.2.2.1
  refine ent m6 rfl rfl (ls := [.ref 160, .ref 169, .int (nI i), .retAddr 0, .retAddr 0, .retAddr 0, .retAddr 0, .retAddr 0]) rfl ?_
  refine w_ald0 i6_0 ?_
  refine w_gfI i6_1 (by decide) s_160 rfl hp ?_
  refine w_ald1 i6_4 ?_
  refine w_vI1 i6_5 c193 (Or.inl rfl) ⟨by decide +kernel, by decide⟩ rfl ⟨rfl, Nat.le_of_ble_eq_true rfl⟩ (K_len_169 h) ?_
  refine w_cgeNF i6_8 (by omega) (by omega) (by omega) ?_
  refine w_ldc i6_11 (by decide) ?_
  refine w_ald1 i6_13 ?_
  refine w_ald0 i6_14 ?_
  refine w_gfI i6_15 (by decide) s_160 rfl hp ?_
  refine w_vI2 i6_18 c191 (Or.inl rfl) ⟨by decide +kernel, by decide⟩ rfl ⟨rfl, Nat.le_of_ble_eq_true rfl⟩ (K_chrc h hp1 hc) ?_
  refine w_vI2 i6_21 c206 (Or.inl rfl) (sK (by decide) (by decide)) rfl ⟨rfl, Nat.le_of_ble_eq_true rfl⟩ (K_ix (c := 111) (by decide)) ?_
  refine w_igeT i6_24 g6_24  (by decide +kernel) ?_
  refine w_ald1 i6_29 ?_
  refine w_ald0 i6_30 ?_
  refine w_gfI i6_31 (by decide) s_160 rfl hp ?_
  refine w_vI2 i6_34 c191 (Or.inl rfl) ⟨by decide +kernel, by decide⟩ rfl ⟨rfl, Nat.le_of_ble_eq_true rfl⟩ (K_chrc h hp1 hc) ?_
  refine w_ist3 i6_37 ?_
  refine w_ild3 i6_38 ?_
  refine w_sR1 i6_39 c7 rfl  rfl ⟨rfl, Nat.le_of_ble_eq_true rfl⟩ K_pt111 ?_
  refine w_ast4 i6_42 ?_
  refine w_ald0 i6_44 ?_
  refine w_gfR i6_45 (by decide) s_160 rfl ?_
  refine w_ild2 i6_48 ?_
  refine w_ild3 i6_49 ?_
  refine w_ias i6_50 s_161 (by decide) (by omega) ?_
  refine w_ald0 i6_51 ?_
  refine w_dup i6_52 rfl ?_
  refine w_gfI i6_53 (by decide) s_160 rfl ((mupC (by decide)).trans hp) ?_
  refine w_const i6_56 kc_1 ?_
  refine w_iadd i6_57 (nI_add _ _) ?_
  refine w_pf0 i6_58 (by decide) s_160 rfl ?_
  refine w_const i6_61 kc_0 ?_
  refine w_ist5 i6_62 ?_
  refine w_const i6_64 kc_0 ?_
  refine w_ist6 i6_65 ?_
  have hpo : pOrd (fun i => tx.getD i 0) tx.length p = ordS (fun i => tx.getD i 0) tx.length 111 (p + 1) := pOrd_k hp1 hc rfl
  rw [hpo, ordS_eq (show pt 111 = _ from rfl)] at hq0 hq1
  dsimp only at hq0 hq1
  obtain ⟨e1, e2, e3⟩ := pit5 (U := (fun i => tx.getD i 0)) (e := tx.length) (p := p + 1) (m := 2) (c2 := 62) (m2 := 1) (c3 := 61) (m3 := 2) (Or.inr rfl) ⟨by decide, by decide, by decide⟩ (Or.inl rfl) ⟨by decide, by decide, by decide⟩ (Or.inr rfl)
  have fB : ∀ q j, q ≠ 160 → ¬ (161 ≤ q ∧ q ≤ 164 ∧ j = i) → (mup (mup D 161 i (nI 111)) 160 5 (nI (p + 1))) q j = D q j := fun q j a b => (mupC a).trans (mupN (fun z => b ⟨by omega, by omega, z.2⟩))
  refine K_pat (D := mup (mup D 161 i (nI 111)) 160 5 (nI (p + 1))) (tx := tx) (i := i) (c := 111) (m := 1003) hi (by decide) (by decide) (by decide +kernel) [50, 62, 49, 61, 50] 0 (p + 1) [] _ _ rfl (by decide +kernel) (by decide +kernel) (by decide) (by decide) (h.frO (Or.inl rfl) (fun q hq => (mupF (by omega)).trans (mupF (by omega)))) mupE hp1 FrI.rf (fun k hk => absurd hk (Nat.not_lt_zero k)) (fun w D2 g1 g2 g3 => ?_) (fun w D2 g1 g2 g3 g4 => ?_)
  · have w2 := w
    rw [e2] at w2
    refine hq0 w2 D2 g1 (by rw [g2]; exact congrArg nI e1) ⟨fun j hj => (g3.1 j hj).trans ((mupJ hj).trans (mupC (by decide))), fun q j a b => (g3.2 q j a (fun z => b ⟨by omega, z.2⟩)).trans (fB q j a b)⟩
  · have w2 := w
    rw [e2] at w2
    rw [e3 w2] at g4
    have n0 := g4 0 (show 0 < 3 by decide)
    have n1 := g4 1 (show 1 < 3 by decide)
    have n2 := g4 2 (show 2 < 3 by decide)
    refine hq1 w2 D2 g1 (by rw [g2]; exact congrArg nI e1) ⟨fun j hj => (g3.1 j hj).trans ((mupJ hj).trans (mupC (by decide))), fun q j a b => (g3.2 q j a (fun z => b ⟨by omega, z.2⟩)).trans (fB q j a b)⟩ ⟨?_, ?_, fun n V => ?_⟩
    · dsimp only; rw [hc]; exact (g3.2 161 i (by decide) (fun z => by omega)).trans ((mupC (by decide)).trans mupE)
    · dsimp only; rw [hc]; rfl
    · dsimp only; rw [hc, oDo111, oDo111]
      rw [show D2 162 i = _ from n0]
      rw [show D2 163 i = _ from n1]
      rw [show D2 164 i = _ from n2]
      rfl
set_option maxHeartbeats 100000 in
theorem K_ord119 {d : Nat} {D : Mm} {Q : Option Value → Mm → Prop} {tx : List Nat} (h : SbR D 169 tx) {p i : Nat} (hp : D 160 5 = nI p) (hi : i < 60) (hp1 : p < tx.length) (hc : tx.getD p 0 = 119) (hq0 : (pOrd (fun i => tx.getD i 0) tx.length p).2.1 ≠ 0 → ∀ D2, SbR D2 169 tx → D2 160 5 = nI (pOrd (fun i => tx.getD i 0) tx.length p).1 → FrK i D D2 → Q (some (.int (nI 0))) D2) (hq1 : (pOrd (fun i => tx.getD i 0) tx.length p).2.1 = 0 → ∀ D2, SbR D2 169 tx → D2 160 5 = nI (pOrd (fun i => tx.getD i 0) tx.length p).1 → FrK i D D2 → ArgOK D2 i (tx.getD p 0, (pOrd (fun i => tx.getD i 0) tx.length p).2.2) → Q (some (.int (nI 1))) D2) : Ct (d + 8) 6 [.ref 160, .ref 169, .int (nI i)] D Q := by
  have hlt : tx.length ≤ 300 := Nat.le_trans h.2.2.1 h.2.2.2.1
  refine ent m6 rfl rfl (ls := [.ref 160, .ref 169, .int (nI i), .retAddr 0, .retAddr 0, .retAddr 0, .retAddr 0, .retAddr 0]) rfl ?_
  refine w_ald0 i6_0 ?_
  refine w_gfI i6_1 (by decide) s_160 rfl hp ?_
  refine w_ald1 i6_4 ?_
  refine w_vI1 i6_5 c193 (Or.inl rfl) ⟨by decide +kernel, by decide⟩ rfl ⟨rfl, Nat.le_of_ble_eq_true rfl⟩ (K_len_169 h) ?_
  refine w_cgeNF i6_8 (by omega) (by omega) (by omega) ?_
  refine w_ldc i6_11 (by decide) ?_
  refine w_ald1 i6_13 ?_
  refine w_ald0 i6_14 ?_
  refine w_gfI i6_15 (by decide) s_160 rfl hp ?_
  refine w_vI2 i6_18 c191 (Or.inl rfl) ⟨by decide +kernel, by decide⟩ rfl ⟨rfl, Nat.le_of_ble_eq_true rfl⟩ (K_chrc h hp1 hc) ?_
  refine w_vI2 i6_21 c206 (Or.inl rfl) (sK (by decide) (by decide)) rfl ⟨rfl, Nat.le_of_ble_eq_true rfl⟩ (K_ix (c := 119) (by decide)) ?_
  refine w_igeT i6_24 g6_24  (by decide +kernel) ?_
  refine w_ald1 i6_29 ?_
  refine w_ald0 i6_30 ?_
  refine w_gfI i6_31 (by decide) s_160 rfl hp ?_
  refine w_vI2 i6_34 c191 (Or.inl rfl) ⟨by decide +kernel, by decide⟩ rfl ⟨rfl, Nat.le_of_ble_eq_true rfl⟩ (K_chrc h hp1 hc) ?_
  refine w_ist3 i6_37 ?_
  refine w_ild3 i6_38 ?_
  refine w_sR1 i6_39 c7 rfl  rfl ⟨rfl, Nat.le_of_ble_eq_true rfl⟩ K_pt119 ?_
  refine w_ast4 i6_42 ?_
  refine w_ald0 i6_44 ?_
  refine w_gfR i6_45 (by decide) s_160 rfl ?_
  refine w_ild2 i6_48 ?_
  refine w_ild3 i6_49 ?_
  refine w_ias i6_50 s_161 (by decide) (by omega) ?_
  refine w_ald0 i6_51 ?_
  refine w_dup i6_52 rfl ?_
  refine w_gfI i6_53 (by decide) s_160 rfl ((mupC (by decide)).trans hp) ?_
  refine w_const i6_56 kc_1 ?_
  refine w_iadd i6_57 (nI_add _ _) ?_
  refine w_pf0 i6_58 (by decide) s_160 rfl ?_
  refine w_const i6_61 kc_0 ?_
  refine w_ist5 i6_62 ?_
  refine w_const i6_64 kc_0 ?_
  refine w_ist6 i6_65 ?_
  have hpo : pOrd (fun i => tx.getD i 0) tx.length p = ordS (fun i => tx.getD i 0) tx.length 119 (p + 1) := pOrd_k hp1 hc rfl
  rw [hpo, ordS_eq (show pt 119 = _ from rfl)] at hq0 hq1
  dsimp only at hq0 hq1
  obtain ⟨e1, e2, e3⟩ := pit5 (U := (fun i => tx.getD i 0)) (e := tx.length) (p := p + 1) (m := 1) (c2 := 33) (m2 := 2) (c3 := 42) (m3 := 2) (Or.inl rfl) ⟨by decide, by decide, by decide⟩ (Or.inr rfl) ⟨by decide, by decide, by decide⟩ (Or.inr rfl)
  have fB : ∀ q j, q ≠ 160 → ¬ (161 ≤ q ∧ q ≤ 164 ∧ j = i) → (mup (mup D 161 i (nI 119)) 160 5 (nI (p + 1))) q j = D q j := fun q j a b => (mupC a).trans (mupN (fun z => b ⟨by omega, by omega, z.2⟩))
  refine K_pat (D := mup (mup D 161 i (nI 119)) 160 5 (nI (p + 1))) (tx := tx) (i := i) (c := 119) (m := 1004) hi (by decide) (by decide) (by decide +kernel) [49, 33, 50, 42, 50] 0 (p + 1) [] _ _ rfl (by decide +kernel) (by decide +kernel) (by decide) (by decide) (h.frO (Or.inl rfl) (fun q hq => (mupF (by omega)).trans (mupF (by omega)))) mupE hp1 FrI.rf (fun k hk => absurd hk (Nat.not_lt_zero k)) (fun w D2 g1 g2 g3 => ?_) (fun w D2 g1 g2 g3 g4 => ?_)
  · have w2 := w
    rw [e2] at w2
    refine hq0 w2 D2 g1 (by rw [g2]; exact congrArg nI e1) ⟨fun j hj => (g3.1 j hj).trans ((mupJ hj).trans (mupC (by decide))), fun q j a b => (g3.2 q j a (fun z => b ⟨by omega, z.2⟩)).trans (fB q j a b)⟩
  · have w2 := w
    rw [e2] at w2
    rw [e3 w2] at g4
    have n0 := g4 0 (show 0 < 3 by decide)
    have n1 := g4 1 (show 1 < 3 by decide)
    have n2 := g4 2 (show 2 < 3 by decide)
    refine hq1 w2 D2 g1 (by rw [g2]; exact congrArg nI e1) ⟨fun j hj => (g3.1 j hj).trans ((mupJ hj).trans (mupC (by decide))), fun q j a b => (g3.2 q j a (fun z => b ⟨by omega, z.2⟩)).trans (fB q j a b)⟩ ⟨?_, ?_, fun n V => ?_⟩
    · dsimp only; rw [hc]; exact (g3.2 161 i (by decide) (fun z => by omega)).trans ((mupC (by decide)).trans mupE)
    · dsimp only; rw [hc]; rfl
    · dsimp only; rw [hc, oDo119, oDo119]
      rw [show D2 162 i = _ from n0]
      rw [show D2 163 i = _ from n1]
      rw [show D2 164 i = _ from n2]
      rfl
set_option maxHeartbeats 100000 in
theorem K_ord112 {d : Nat} {D : Mm} {Q : Option Value → Mm → Prop} {tx : List Nat} (h : SbR D 169 tx) {p i : Nat} (hp : D 160 5 = nI p) (hi : i < 60) (hp1 : p < tx.length) (hc : tx.getD p 0 = 112) (hq0 : (pOrd (fun i => tx.getD i 0) tx.length p).2.1 ≠ 0 → ∀ D2, SbR D2 169 tx → D2 160 5 = nI (pOrd (fun i => tx.getD i 0) tx.length p).1 → FrK i D D2 → Q (some (.int (nI 0))) D2) (hq1 : (pOrd (fun i => tx.getD i 0) tx.length p).2.1 = 0 → ∀ D2, SbR D2 169 tx → D2 160 5 = nI (pOrd (fun i => tx.getD i 0) tx.length p).1 → FrK i D D2 → ArgOK D2 i (tx.getD p 0, (pOrd (fun i => tx.getD i 0) tx.length p).2.2) → Q (some (.int (nI 1))) D2) : Ct (d + 8) 6 [.ref 160, .ref 169, .int (nI i)] D Q := by
  have hlt : tx.length ≤ 300 := Nat.le_trans h.2.2.1 h.2.2.2.1
  refine ent m6 rfl rfl (ls := [.ref 160, .ref 169, .int (nI i), .retAddr 0, .retAddr 0, .retAddr 0, .retAddr 0, .retAddr 0]) rfl ?_
  refine w_ald0 i6_0 ?_
  refine w_gfI i6_1 (by decide) s_160 rfl hp ?_
  refine w_ald1 i6_4 ?_
  refine w_vI1 i6_5 c193 (Or.inl rfl) ⟨by decide +kernel, by decide⟩ rfl ⟨rfl, Nat.le_of_ble_eq_true rfl⟩ (K_len_169 h) ?_
  refine w_cgeNF i6_8 (by omega) (by omega) (by omega) ?_
  refine w_ldc i6_11 (by decide) ?_
  refine w_ald1 i6_13 ?_
  refine w_ald0 i6_14 ?_
  refine w_gfI i6_15 (by decide) s_160 rfl hp ?_
  refine w_vI2 i6_18 c191 (Or.inl rfl) ⟨by decide +kernel, by decide⟩ rfl ⟨rfl, Nat.le_of_ble_eq_true rfl⟩ (K_chrc h hp1 hc) ?_
  refine w_vI2 i6_21 c206 (Or.inl rfl) (sK (by decide) (by decide)) rfl ⟨rfl, Nat.le_of_ble_eq_true rfl⟩ (K_ix (c := 112) (by decide)) ?_
  refine w_igeT i6_24 g6_24  (by decide +kernel) ?_
  refine w_ald1 i6_29 ?_
  refine w_ald0 i6_30 ?_
  refine w_gfI i6_31 (by decide) s_160 rfl hp ?_
  refine w_vI2 i6_34 c191 (Or.inl rfl) ⟨by decide +kernel, by decide⟩ rfl ⟨rfl, Nat.le_of_ble_eq_true rfl⟩ (K_chrc h hp1 hc) ?_
  refine w_ist3 i6_37 ?_
  refine w_ild3 i6_38 ?_
  refine w_sR1 i6_39 c7 rfl  rfl ⟨rfl, Nat.le_of_ble_eq_true rfl⟩ K_pt112 ?_
  refine w_ast4 i6_42 ?_
  refine w_ald0 i6_44 ?_
  refine w_gfR i6_45 (by decide) s_160 rfl ?_
  refine w_ild2 i6_48 ?_
  refine w_ild3 i6_49 ?_
  refine w_ias i6_50 s_161 (by decide) (by omega) ?_
  refine w_ald0 i6_51 ?_
  refine w_dup i6_52 rfl ?_
  refine w_gfI i6_53 (by decide) s_160 rfl ((mupC (by decide)).trans hp) ?_
  refine w_const i6_56 kc_1 ?_
  refine w_iadd i6_57 (nI_add _ _) ?_
  refine w_pf0 i6_58 (by decide) s_160 rfl ?_
  refine w_const i6_61 kc_0 ?_
  refine w_ist5 i6_62 ?_
  refine w_const i6_64 kc_0 ?_
  refine w_ist6 i6_65 ?_
  have hpo : pOrd (fun i => tx.getD i 0) tx.length p = ordS (fun i => tx.getD i 0) tx.length 112 (p + 1) := pOrd_k hp1 hc rfl
  rw [hpo, ordS_eq (show pt 112 = _ from rfl)] at hq0 hq1
  dsimp only at hq0 hq1
  obtain ⟨e1, e2, e3⟩ := pit3 (U := (fun i => tx.getD i 0)) (e := tx.length) (p := p + 1) (m := 2) (c2 := 43) (m2 := 2) (Or.inr rfl) ⟨by decide, by decide, by decide⟩ (Or.inr rfl)
  have fB : ∀ q j, q ≠ 160 → ¬ (161 ≤ q ∧ q ≤ 164 ∧ j = i) → (mup (mup D 161 i (nI 112)) 160 5 (nI (p + 1))) q j = D q j := fun q j a b => (mupC a).trans (mupN (fun z => b ⟨by omega, by omega, z.2⟩))
  refine K_pat (D := mup (mup D 161 i (nI 112)) 160 5 (nI (p + 1))) (tx := tx) (i := i) (c := 112) (m := 1005) hi (by decide) (by decide) (by decide +kernel) [50, 43, 50] 0 (p + 1) [] _ _ rfl (by decide +kernel) (by decide +kernel) (by decide) (by decide) (h.frO (Or.inl rfl) (fun q hq => (mupF (by omega)).trans (mupF (by omega)))) mupE hp1 FrI.rf (fun k hk => absurd hk (Nat.not_lt_zero k)) (fun w D2 g1 g2 g3 => ?_) (fun w D2 g1 g2 g3 g4 => ?_)
  · have w2 := w
    rw [e2] at w2
    refine hq0 w2 D2 g1 (by rw [g2]; exact congrArg nI e1) ⟨fun j hj => (g3.1 j hj).trans ((mupJ hj).trans (mupC (by decide))), fun q j a b => (g3.2 q j a (fun z => b ⟨by omega, z.2⟩)).trans (fB q j a b)⟩
  · have w2 := w
    rw [e2] at w2
    rw [e3 w2] at g4
    have n0 := g4 0 (show 0 < 2 by decide)
    have n1 := g4 1 (show 1 < 2 by decide)
    refine hq1 w2 D2 g1 (by rw [g2]; exact congrArg nI e1) ⟨fun j hj => (g3.1 j hj).trans ((mupJ hj).trans (mupC (by decide))), fun q j a b => (g3.2 q j a (fun z => b ⟨by omega, z.2⟩)).trans (fB q j a b)⟩ ⟨?_, ?_, fun n V => ?_⟩
    · dsimp only; rw [hc]; exact (g3.2 161 i (by decide) (fun z => by omega)).trans ((mupC (by decide)).trans mupE)
    · dsimp only; rw [hc]; rfl
    · dsimp only; rw [hc, oDo112, oDo112]
      rw [show D2 162 i = _ from n0]
      rw [show D2 163 i = _ from n1]
      rfl
set_option maxHeartbeats 100000 in
theorem K_ord109 {d : Nat} {D : Mm} {Q : Option Value → Mm → Prop} {tx : List Nat} (h : SbR D 169 tx) {p i : Nat} (hp : D 160 5 = nI p) (hi : i < 60) (hp1 : p < tx.length) (hc : tx.getD p 0 = 109) (hq0 : (pOrd (fun i => tx.getD i 0) tx.length p).2.1 ≠ 0 → ∀ D2, SbR D2 169 tx → D2 160 5 = nI (pOrd (fun i => tx.getD i 0) tx.length p).1 → FrK i D D2 → Q (some (.int (nI 0))) D2) (hq1 : (pOrd (fun i => tx.getD i 0) tx.length p).2.1 = 0 → ∀ D2, SbR D2 169 tx → D2 160 5 = nI (pOrd (fun i => tx.getD i 0) tx.length p).1 → FrK i D D2 → ArgOK D2 i (tx.getD p 0, (pOrd (fun i => tx.getD i 0) tx.length p).2.2) → Q (some (.int (nI 1))) D2) : Ct (d + 8) 6 [.ref 160, .ref 169, .int (nI i)] D Q := by
  have hlt : tx.length ≤ 300 := Nat.le_trans h.2.2.1 h.2.2.2.1
  refine ent m6 rfl rfl (ls := [.ref 160, .ref 169, .int (nI i), .retAddr 0, .retAddr 0, .retAddr 0, .retAddr 0, .retAddr 0]) rfl ?_
  refine w_ald0 i6_0 ?_
  refine w_gfI i6_1 (by decide) s_160 rfl hp ?_
  refine w_ald1 i6_4 ?_
  refine w_vI1 i6_5 c193 (Or.inl rfl) ⟨by decide +kernel, by decide⟩ rfl ⟨rfl, Nat.le_of_ble_eq_true rfl⟩ (K_len_169 h) ?_
  refine w_cgeNF i6_8 (by omega) (by omega) (by omega) ?_
  refine w_ldc i6_11 (by decide) ?_
  refine w_ald1 i6_13 ?_
  refine w_ald0 i6_14 ?_
  refine w_gfI i6_15 (by decide) s_160 rfl hp ?_
  refine w_vI2 i6_18 c191 (Or.inl rfl) ⟨by decide +kernel, by decide⟩ rfl ⟨rfl, Nat.le_of_ble_eq_true rfl⟩ (K_chrc h hp1 hc) ?_
  refine w_vI2 i6_21 c206 (Or.inl rfl) (sK (by decide) (by decide)) rfl ⟨rfl, Nat.le_of_ble_eq_true rfl⟩ (K_ix (c := 109) (by decide)) ?_
  refine w_igeT i6_24 g6_24  (by decide +kernel) ?_
  refine w_ald1 i6_29 ?_
  refine w_ald0 i6_30 ?_
  refine w_gfI i6_31 (by decide) s_160 rfl hp ?_
  refine w_vI2 i6_34 c191 (Or.inl rfl) ⟨by decide +kernel, by decide⟩ rfl ⟨rfl, Nat.le_of_ble_eq_true rfl⟩ (K_chrc h hp1 hc) ?_
  refine w_ist3 i6_37 ?_
  refine w_ild3 i6_38 ?_
  refine w_sR1 i6_39 c7 rfl  rfl ⟨rfl, Nat.le_of_ble_eq_true rfl⟩ K_pt109 ?_
  refine w_ast4 i6_42 ?_
  refine w_ald0 i6_44 ?_
  refine w_gfR i6_45 (by decide) s_160 rfl ?_
  refine w_ild2 i6_48 ?_
  refine w_ild3 i6_49 ?_
  refine w_ias i6_50 s_161 (by decide) (by omega) ?_
  refine w_ald0 i6_51 ?_
  refine w_dup i6_52 rfl ?_
  refine w_gfI i6_53 (by decide) s_160 rfl ((mupC (by decide)).trans hp) ?_
  refine w_const i6_56 kc_1 ?_
  refine w_iadd i6_57 (nI_add _ _) ?_
  refine w_pf0 i6_58 (by decide) s_160 rfl ?_
  refine w_const i6_61 kc_0 ?_
  refine w_ist5 i6_62 ?_
  refine w_const i6_64 kc_0 ?_
  refine w_ist6 i6_65 ?_
  have hpo : pOrd (fun i => tx.getD i 0) tx.length p = ordS (fun i => tx.getD i 0) tx.length 109 (p + 1) := pOrd_k hp1 hc rfl
  rw [hpo, ordS_eq (show pt 109 = _ from rfl)] at hq0 hq1
  dsimp only at hq0 hq1
  obtain ⟨e1, e2, e3⟩ := pit5 (U := (fun i => tx.getD i 0)) (e := tx.length) (p := p + 1) (m := 1) (c2 := 58) (m2 := 2) (c3 := 47) (m3 := 1) (Or.inl rfl) ⟨by decide, by decide, by decide⟩ (Or.inr rfl) ⟨by decide, by decide, by decide⟩ (Or.inl rfl)
  have fB : ∀ q j, q ≠ 160 → ¬ (161 ≤ q ∧ q ≤ 164 ∧ j = i) → (mup (mup D 161 i (nI 109)) 160 5 (nI (p + 1))) q j = D q j := fun q j a b => (mupC a).trans (mupN (fun z => b ⟨by omega, by omega, z.2⟩))
  refine K_pat (D := mup (mup D 161 i (nI 109)) 160 5 (nI (p + 1))) (tx := tx) (i := i) (c := 109) (m := 1001) hi (by decide) (by decide) (by decide +kernel) [49, 58, 50, 47, 49] 0 (p + 1) [] _ _ rfl (by decide +kernel) (by decide +kernel) (by decide) (by decide) (h.frO (Or.inl rfl) (fun q hq => (mupF (by omega)).trans (mupF (by omega)))) mupE hp1 FrI.rf (fun k hk => absurd hk (Nat.not_lt_zero k)) (fun w D2 g1 g2 g3 => ?_) (fun w D2 g1 g2 g3 g4 => ?_)
  · have w2 := w
    rw [e2] at w2
    refine hq0 w2 D2 g1 (by rw [g2]; exact congrArg nI e1) ⟨fun j hj => (g3.1 j hj).trans ((mupJ hj).trans (mupC (by decide))), fun q j a b => (g3.2 q j a (fun z => b ⟨by omega, z.2⟩)).trans (fB q j a b)⟩
  · have w2 := w
    rw [e2] at w2
    rw [e3 w2] at g4
    have n0 := g4 0 (show 0 < 3 by decide)
    have n1 := g4 1 (show 1 < 3 by decide)
    have n2 := g4 2 (show 2 < 3 by decide)
    refine hq1 w2 D2 g1 (by rw [g2]; exact congrArg nI e1) ⟨fun j hj => (g3.1 j hj).trans ((mupJ hj).trans (mupC (by decide))), fun q j a b => (g3.2 q j a (fun z => b ⟨by omega, z.2⟩)).trans (fB q j a b)⟩ ⟨?_, ?_, fun n V => ?_⟩
    · dsimp only; rw [hc]; exact (g3.2 161 i (by decide) (fun z => by omega)).trans ((mupC (by decide)).trans mupE)
    · dsimp only; rw [hc]; rfl
    · dsimp only; rw [hc, oDo109, oDo109]
      rw [show D2 162 i = _ from n0]
      rw [show D2 163 i = _ from n1]
      rw [show D2 164 i = _ from n2]
      rfl
set_option maxHeartbeats 100000 in
theorem K_ord104 {d : Nat} {D : Mm} {Q : Option Value → Mm → Prop} {tx : List Nat} (h : SbR D 169 tx) {p i : Nat} (hp : D 160 5 = nI p) (hi : i < 60) (hp1 : p < tx.length) (hc : tx.getD p 0 = 104) (hq0 : (pOrd (fun i => tx.getD i 0) tx.length p).2.1 ≠ 0 → ∀ D2, SbR D2 169 tx → D2 160 5 = nI (pOrd (fun i => tx.getD i 0) tx.length p).1 → FrK i D D2 → Q (some (.int (nI 0))) D2) (hq1 : (pOrd (fun i => tx.getD i 0) tx.length p).2.1 = 0 → ∀ D2, SbR D2 169 tx → D2 160 5 = nI (pOrd (fun i => tx.getD i 0) tx.length p).1 → FrK i D D2 → ArgOK D2 i (tx.getD p 0, (pOrd (fun i => tx.getD i 0) tx.length p).2.2) → Q (some (.int (nI 1))) D2) : Ct (d + 8) 6 [.ref 160, .ref 169, .int (nI i)] D Q := by
  have hlt : tx.length ≤ 300 := Nat.le_trans h.2.2.1 h.2.2.2.1
  refine ent m6 rfl rfl (ls := [.ref 160, .ref 169, .int (nI i), .retAddr 0, .retAddr 0, .retAddr 0, .retAddr 0, .retAddr 0]) rfl ?_
  refine w_ald0 i6_0 ?_
  refine w_gfI i6_1 (by decide) s_160 rfl hp ?_
  refine w_ald1 i6_4 ?_
  refine w_vI1 i6_5 c193 (Or.inl rfl) ⟨by decide +kernel, by decide⟩ rfl ⟨rfl, Nat.le_of_ble_eq_true rfl⟩ (K_len_169 h) ?_
  refine w_cgeNF i6_8 (by omega) (by omega) (by omega) ?_
  refine w_ldc i6_11 (by decide) ?_
  refine w_ald1 i6_13 ?_
  refine w_ald0 i6_14 ?_
  refine w_gfI i6_15 (by decide) s_160 rfl hp ?_
  refine w_vI2 i6_18 c191 (Or.inl rfl) ⟨by decide +kernel, by decide⟩ rfl ⟨rfl, Nat.le_of_ble_eq_true rfl⟩ (K_chrc h hp1 hc) ?_
  refine w_vI2 i6_21 c206 (Or.inl rfl) (sK (by decide) (by decide)) rfl ⟨rfl, Nat.le_of_ble_eq_true rfl⟩ (K_ix (c := 104) (by decide)) ?_
  refine w_igeT i6_24 g6_24  (by decide +kernel) ?_
  refine w_ald1 i6_29 ?_
  refine w_ald0 i6_30 ?_
  refine w_gfI i6_31 (by decide) s_160 rfl hp ?_
  refine w_vI2 i6_34 c191 (Or.inl rfl) ⟨by decide +kernel, by decide⟩ rfl ⟨rfl, Nat.le_of_ble_eq_true rfl⟩ (K_chrc h hp1 hc) ?_
  refine w_ist3 i6_37 ?_
  refine w_ild3 i6_38 ?_
  refine w_sR1 i6_39 c7 rfl  rfl ⟨rfl, Nat.le_of_ble_eq_true rfl⟩ K_pt104 ?_
  refine w_ast4 i6_42 ?_
  refine w_ald0 i6_44 ?_
  refine w_gfR i6_45 (by decide) s_160 rfl ?_
  refine w_ild2 i6_48 ?_
  refine w_ild3 i6_49 ?_
  refine w_ias i6_50 s_161 (by decide) (by omega) ?_
  refine w_ald0 i6_51 ?_
  refine w_dup i6_52 rfl ?_
  refine w_gfI i6_53 (by decide) s_160 rfl ((mupC (by decide)).trans hp) ?_
  refine w_const i6_56 kc_1 ?_
  refine w_iadd i6_57 (nI_add _ _) ?_
  refine w_pf0 i6_58 (by decide) s_160 rfl ?_
  refine w_const i6_61 kc_0 ?_
  refine w_ist5 i6_62 ?_
  refine w_const i6_64 kc_0 ?_
  refine w_ist6 i6_65 ?_
  have hpo : pOrd (fun i => tx.getD i 0) tx.length p = ordS (fun i => tx.getD i 0) tx.length 104 (p + 1) := pOrd_k hp1 hc rfl
  rw [hpo, ordS_eq (show pt 104 = _ from rfl)] at hq0 hq1
  dsimp only at hq0 hq1
  obtain ⟨e1, e2, e3⟩ := pit3 (U := (fun i => tx.getD i 0)) (e := tx.length) (p := p + 1) (m := 1) (c2 := 62) (m2 := 1) (Or.inl rfl) ⟨by decide, by decide, by decide⟩ (Or.inl rfl)
  have fB : ∀ q j, q ≠ 160 → ¬ (161 ≤ q ∧ q ≤ 164 ∧ j = i) → (mup (mup D 161 i (nI 104)) 160 5 (nI (p + 1))) q j = D q j := fun q j a b => (mupC a).trans (mupN (fun z => b ⟨by omega, by omega, z.2⟩))
  refine K_pat (D := mup (mup D 161 i (nI 104)) 160 5 (nI (p + 1))) (tx := tx) (i := i) (c := 104) (m := 1006) hi (by decide) (by decide) (by decide +kernel) [49, 62, 49] 0 (p + 1) [] _ _ rfl (by decide +kernel) (by decide +kernel) (by decide) (by decide) (h.frO (Or.inl rfl) (fun q hq => (mupF (by omega)).trans (mupF (by omega)))) mupE hp1 FrI.rf (fun k hk => absurd hk (Nat.not_lt_zero k)) (fun w D2 g1 g2 g3 => ?_) (fun w D2 g1 g2 g3 g4 => ?_)
  · have w2 := w
    rw [e2] at w2
    refine hq0 w2 D2 g1 (by rw [g2]; exact congrArg nI e1) ⟨fun j hj => (g3.1 j hj).trans ((mupJ hj).trans (mupC (by decide))), fun q j a b => (g3.2 q j a (fun z => b ⟨by omega, z.2⟩)).trans (fB q j a b)⟩
  · have w2 := w
    rw [e2] at w2
    rw [e3 w2] at g4
    have n0 := g4 0 (show 0 < 2 by decide)
    have n1 := g4 1 (show 1 < 2 by decide)
    refine hq1 w2 D2 g1 (by rw [g2]; exact congrArg nI e1) ⟨fun j hj => (g3.1 j hj).trans ((mupJ hj).trans (mupC (by decide))), fun q j a b => (g3.2 q j a (fun z => b ⟨by omega, z.2⟩)).trans (fB q j a b)⟩ ⟨?_, ?_, fun n V => ?_⟩
    · dsimp only; rw [hc]; exact (g3.2 161 i (by decide) (fun z => by omega)).trans ((mupC (by decide)).trans mupE)
    · dsimp only; rw [hc]; rfl
    · dsimp only; rw [hc, oDo104, oDo104]
      rw [show D2 162 i = _ from n0]
      rw [show D2 163 i = _ from n1]
      rfl
set_option maxHeartbeats 100000 in
theorem K_ord101 {d : Nat} {D : Mm} {Q : Option Value → Mm → Prop} {tx : List Nat} (h : SbR D 169 tx) {p i : Nat} (hp : D 160 5 = nI p) (hi : i < 60) (hp1 : p < tx.length) (hc : tx.getD p 0 = 101) (hq0 : (pOrd (fun i => tx.getD i 0) tx.length p).2.1 ≠ 0 → ∀ D2, SbR D2 169 tx → D2 160 5 = nI (pOrd (fun i => tx.getD i 0) tx.length p).1 → FrK i D D2 → Q (some (.int (nI 0))) D2) (hq1 : (pOrd (fun i => tx.getD i 0) tx.length p).2.1 = 0 → ∀ D2, SbR D2 169 tx → D2 160 5 = nI (pOrd (fun i => tx.getD i 0) tx.length p).1 → FrK i D D2 → ArgOK D2 i (tx.getD p 0, (pOrd (fun i => tx.getD i 0) tx.length p).2.2) → Q (some (.int (nI 1))) D2) : Ct (d + 8) 6 [.ref 160, .ref 169, .int (nI i)] D Q := by
  have hlt : tx.length ≤ 300 := Nat.le_trans h.2.2.1 h.2.2.2.1
  refine ent m6 rfl rfl (ls := [.ref 160, .ref 169, .int (nI i), .retAddr 0, .retAddr 0, .retAddr 0, .retAddr 0, .retAddr 0]) rfl ?_
  refine w_ald0 i6_0 ?_
  refine w_gfI i6_1 (by decide) s_160 rfl hp ?_
  refine w_ald1 i6_4 ?_
  refine w_vI1 i6_5 c193 (Or.inl rfl) ⟨by decide +kernel, by decide⟩ rfl ⟨rfl, Nat.le_of_ble_eq_true rfl⟩ (K_len_169 h) ?_
  refine w_cgeNF i6_8 (by omega) (by omega) (by omega) ?_
  refine w_ldc i6_11 (by decide) ?_
  refine w_ald1 i6_13 ?_
  refine w_ald0 i6_14 ?_
  refine w_gfI i6_15 (by decide) s_160 rfl hp ?_
  refine w_vI2 i6_18 c191 (Or.inl rfl) ⟨by decide +kernel, by decide⟩ rfl ⟨rfl, Nat.le_of_ble_eq_true rfl⟩ (K_chrc h hp1 hc) ?_
  refine w_vI2 i6_21 c206 (Or.inl rfl) (sK (by decide) (by decide)) rfl ⟨rfl, Nat.le_of_ble_eq_true rfl⟩ (K_ix (c := 101) (by decide)) ?_
  refine w_igeT i6_24 g6_24  (by decide +kernel) ?_
  refine w_ald1 i6_29 ?_
  refine w_ald0 i6_30 ?_
  refine w_gfI i6_31 (by decide) s_160 rfl hp ?_
  refine w_vI2 i6_34 c191 (Or.inl rfl) ⟨by decide +kernel, by decide⟩ rfl ⟨rfl, Nat.le_of_ble_eq_true rfl⟩ (K_chrc h hp1 hc) ?_
  refine w_ist3 i6_37 ?_
  refine w_ild3 i6_38 ?_
  refine w_sR1 i6_39 c7 rfl  rfl ⟨rfl, Nat.le_of_ble_eq_true rfl⟩ K_pt101 ?_
  refine w_ast4 i6_42 ?_
  refine w_ald0 i6_44 ?_
  refine w_gfR i6_45 (by decide) s_160 rfl ?_
  refine w_ild2 i6_48 ?_
  refine w_ild3 i6_49 ?_
  refine w_ias i6_50 s_161 (by decide) (by omega) ?_
  refine w_ald0 i6_51 ?_
  refine w_dup i6_52 rfl ?_
  refine w_gfI i6_53 (by decide) s_160 rfl ((mupC (by decide)).trans hp) ?_
  refine w_const i6_56 kc_1 ?_
  refine w_iadd i6_57 (nI_add _ _) ?_
  refine w_pf0 i6_58 (by decide) s_160 rfl ?_
  refine w_const i6_61 kc_0 ?_
  refine w_ist5 i6_62 ?_
  refine w_const i6_64 kc_0 ?_
  refine w_ist6 i6_65 ?_
  have hpo : pOrd (fun i => tx.getD i 0) tx.length p = ordS (fun i => tx.getD i 0) tx.length 101 (p + 1) := pOrd_k hp1 hc rfl
  rw [hpo, ordS_eq (show pt 101 = _ from rfl)] at hq0 hq1
  dsimp only at hq0 hq1
  obtain ⟨e1, e2, e3⟩ := pit1 (U := (fun i => tx.getD i 0)) (e := tx.length) (p := p + 1) (m := 1) (Or.inl rfl)
  have fB : ∀ q j, q ≠ 160 → ¬ (161 ≤ q ∧ q ≤ 164 ∧ j = i) → (mup (mup D 161 i (nI 101)) 160 5 (nI (p + 1))) q j = D q j := fun q j a b => (mupC a).trans (mupN (fun z => b ⟨by omega, by omega, z.2⟩))
  refine K_pat (D := mup (mup D 161 i (nI 101)) 160 5 (nI (p + 1))) (tx := tx) (i := i) (c := 101) (m := 1007) hi (by decide) (by decide) (by decide +kernel) [49] 0 (p + 1) [] _ _ rfl (by decide +kernel) (by decide +kernel) (by decide) (by decide) (h.frO (Or.inl rfl) (fun q hq => (mupF (by omega)).trans (mupF (by omega)))) mupE hp1 FrI.rf (fun k hk => absurd hk (Nat.not_lt_zero k)) (fun w D2 g1 g2 g3 => ?_) (fun w D2 g1 g2 g3 g4 => ?_)
  · have w2 := w
    rw [e2] at w2
    refine hq0 w2 D2 g1 (by rw [g2]; exact congrArg nI e1) ⟨fun j hj => (g3.1 j hj).trans ((mupJ hj).trans (mupC (by decide))), fun q j a b => (g3.2 q j a (fun z => b ⟨by omega, z.2⟩)).trans (fB q j a b)⟩
  · have w2 := w
    rw [e2] at w2
    rw [e3 w2] at g4
    have n0 := g4 0 (show 0 < 1 by decide)
    refine hq1 w2 D2 g1 (by rw [g2]; exact congrArg nI e1) ⟨fun j hj => (g3.1 j hj).trans ((mupJ hj).trans (mupC (by decide))), fun q j a b => (g3.2 q j a (fun z => b ⟨by omega, z.2⟩)).trans (fB q j a b)⟩ ⟨?_, ?_, fun n V => ?_⟩
    · dsimp only; rw [hc]; exact (g3.2 161 i (by decide) (fun z => by omega)).trans ((mupC (by decide)).trans mupE)
    · dsimp only; rw [hc]; rfl
    · dsimp only; rw [hc, oDo101, oDo101]
      rw [show D2 162 i = _ from n0]
      rfl
set_option maxHeartbeats 100000 in
theorem K_ord116 {d : Nat} {D : Mm} {Q : Option Value → Mm → Prop} {tx : List Nat} (h : SbR D 169 tx) {p i : Nat} (hp : D 160 5 = nI p) (hi : i < 60) (hp1 : p < tx.length) (hc : tx.getD p 0 = 116) (hq0 : (pOrd (fun i => tx.getD i 0) tx.length p).2.1 ≠ 0 → ∀ D2, SbR D2 169 tx → D2 160 5 = nI (pOrd (fun i => tx.getD i 0) tx.length p).1 → FrK i D D2 → Q (some (.int (nI 0))) D2) (hq1 : (pOrd (fun i => tx.getD i 0) tx.length p).2.1 = 0 → ∀ D2, SbR D2 169 tx → D2 160 5 = nI (pOrd (fun i => tx.getD i 0) tx.length p).1 → FrK i D D2 → ArgOK D2 i (tx.getD p 0, (pOrd (fun i => tx.getD i 0) tx.length p).2.2) → Q (some (.int (nI 1))) D2) : Ct (d + 8) 6 [.ref 160, .ref 169, .int (nI i)] D Q := by
  have hlt : tx.length ≤ 300 := Nat.le_trans h.2.2.1 h.2.2.2.1
  refine ent m6 rfl rfl (ls := [.ref 160, .ref 169, .int (nI i), .retAddr 0, .retAddr 0, .retAddr 0, .retAddr 0, .retAddr 0]) rfl ?_
  refine w_ald0 i6_0 ?_
  refine w_gfI i6_1 (by decide) s_160 rfl hp ?_
  refine w_ald1 i6_4 ?_
  refine w_vI1 i6_5 c193 (Or.inl rfl) ⟨by decide +kernel, by decide⟩ rfl ⟨rfl, Nat.le_of_ble_eq_true rfl⟩ (K_len_169 h) ?_
  refine w_cgeNF i6_8 (by omega) (by omega) (by omega) ?_
  refine w_ldc i6_11 (by decide) ?_
  refine w_ald1 i6_13 ?_
  refine w_ald0 i6_14 ?_
  refine w_gfI i6_15 (by decide) s_160 rfl hp ?_
  refine w_vI2 i6_18 c191 (Or.inl rfl) ⟨by decide +kernel, by decide⟩ rfl ⟨rfl, Nat.le_of_ble_eq_true rfl⟩ (K_chrc h hp1 hc) ?_
  refine w_vI2 i6_21 c206 (Or.inl rfl) (sK (by decide) (by decide)) rfl ⟨rfl, Nat.le_of_ble_eq_true rfl⟩ (K_ix (c := 116) (by decide)) ?_
  refine w_igeT i6_24 g6_24  (by decide +kernel) ?_
  refine w_ald1 i6_29 ?_
  refine w_ald0 i6_30 ?_
  refine w_gfI i6_31 (by decide) s_160 rfl hp ?_
  refine w_vI2 i6_34 c191 (Or.inl rfl) ⟨by decide +kernel, by decide⟩ rfl ⟨rfl, Nat.le_of_ble_eq_true rfl⟩ (K_chrc h hp1 hc) ?_
  refine w_ist3 i6_37 ?_
  refine w_ild3 i6_38 ?_
  refine w_sR1 i6_39 c7 rfl  rfl ⟨rfl, Nat.le_of_ble_eq_true rfl⟩ K_pt116 ?_
  refine w_ast4 i6_42 ?_
  refine w_ald0 i6_44 ?_
  refine w_gfR i6_45 (by decide) s_160 rfl ?_
  refine w_ild2 i6_48 ?_
  refine w_ild3 i6_49 ?_
  refine w_ias i6_50 s_161 (by decide) (by omega) ?_
  refine w_ald0 i6_51 ?_
  refine w_dup i6_52 rfl ?_
  refine w_gfI i6_53 (by decide) s_160 rfl ((mupC (by decide)).trans hp) ?_
  refine w_const i6_56 kc_1 ?_
  refine w_iadd i6_57 (nI_add _ _) ?_
  refine w_pf0 i6_58 (by decide) s_160 rfl ?_
  refine w_const i6_61 kc_0 ?_
  refine w_ist5 i6_62 ?_
  refine w_const i6_64 kc_0 ?_
  refine w_ist6 i6_65 ?_
  have hpo : pOrd (fun i => tx.getD i 0) tx.length p = ordS (fun i => tx.getD i 0) tx.length 116 (p + 1) := pOrd_k hp1 hc rfl
  rw [hpo, ordS_eq (show pt 116 = _ from rfl)] at hq0 hq1
  dsimp only at hq0 hq1
  obtain ⟨e1, e2, e3⟩ := pit1 (U := (fun i => tx.getD i 0)) (e := tx.length) (p := p + 1) (m := 2) (Or.inr rfl)
  have fB : ∀ q j, q ≠ 160 → ¬ (161 ≤ q ∧ q ≤ 164 ∧ j = i) → (mup (mup D 161 i (nI 116)) 160 5 (nI (p + 1))) q j = D q j := fun q j a b => (mupC a).trans (mupN (fun z => b ⟨by omega, by omega, z.2⟩))
  refine K_pat (D := mup (mup D 161 i (nI 116)) 160 5 (nI (p + 1))) (tx := tx) (i := i) (c := 116) (m := 1008) hi (by decide) (by decide) (by decide +kernel) [50] 0 (p + 1) [] _ _ rfl (by decide +kernel) (by decide +kernel) (by decide) (by decide) (h.frO (Or.inl rfl) (fun q hq => (mupF (by omega)).trans (mupF (by omega)))) mupE hp1 FrI.rf (fun k hk => absurd hk (Nat.not_lt_zero k)) (fun w D2 g1 g2 g3 => ?_) (fun w D2 g1 g2 g3 g4 => ?_)
  · have w2 := w
    rw [e2] at w2
    refine hq0 w2 D2 g1 (by rw [g2]; exact congrArg nI e1) ⟨fun j hj => (g3.1 j hj).trans ((mupJ hj).trans (mupC (by decide))), fun q j a b => (g3.2 q j a (fun z => b ⟨by omega, z.2⟩)).trans (fB q j a b)⟩
  · have w2 := w
    rw [e2] at w2
    rw [e3 w2] at g4
    have n0 := g4 0 (show 0 < 1 by decide)
    refine hq1 w2 D2 g1 (by rw [g2]; exact congrArg nI e1) ⟨fun j hj => (g3.1 j hj).trans ((mupJ hj).trans (mupC (by decide))), fun q j a b => (g3.2 q j a (fun z => b ⟨by omega, z.2⟩)).trans (fB q j a b)⟩ ⟨?_, ?_, fun n V => ?_⟩
    · dsimp only; rw [hc]; exact (g3.2 161 i (by decide) (fun z => by omega)).trans ((mupC (by decide)).trans mupE)
    · dsimp only; rw [hc]; rfl
    · dsimp only; rw [hc, oDo116, oDo116]
      rw [show D2 162 i = _ from n0]
      rfl
set_option maxHeartbeats 100000 in
theorem K_ord100 {d : Nat} {D : Mm} {Q : Option Value → Mm → Prop} {tx : List Nat} (h : SbR D 169 tx) {p i : Nat} (hp : D 160 5 = nI p) (hi : i < 60) (hp1 : p < tx.length) (hc : tx.getD p 0 = 100) (hq0 : (pOrd (fun i => tx.getD i 0) tx.length p).2.1 ≠ 0 → ∀ D2, SbR D2 169 tx → D2 160 5 = nI (pOrd (fun i => tx.getD i 0) tx.length p).1 → FrK i D D2 → Q (some (.int (nI 0))) D2) (hq1 : (pOrd (fun i => tx.getD i 0) tx.length p).2.1 = 0 → ∀ D2, SbR D2 169 tx → D2 160 5 = nI (pOrd (fun i => tx.getD i 0) tx.length p).1 → FrK i D D2 → ArgOK D2 i (tx.getD p 0, (pOrd (fun i => tx.getD i 0) tx.length p).2.2) → Q (some (.int (nI 1))) D2) : Ct (d + 8) 6 [.ref 160, .ref 169, .int (nI i)] D Q := by
  have hlt : tx.length ≤ 300 := Nat.le_trans h.2.2.1 h.2.2.2.1
  refine ent m6 rfl rfl (ls := [.ref 160, .ref 169, .int (nI i), .retAddr 0, .retAddr 0, .retAddr 0, .retAddr 0, .retAddr 0]) rfl ?_
  refine w_ald0 i6_0 ?_
  refine w_gfI i6_1 (by decide) s_160 rfl hp ?_
  refine w_ald1 i6_4 ?_
  refine w_vI1 i6_5 c193 (Or.inl rfl) ⟨by decide +kernel, by decide⟩ rfl ⟨rfl, Nat.le_of_ble_eq_true rfl⟩ (K_len_169 h) ?_
  refine w_cgeNF i6_8 (by omega) (by omega) (by omega) ?_
  refine w_ldc i6_11 (by decide) ?_
  refine w_ald1 i6_13 ?_
  refine w_ald0 i6_14 ?_
  refine w_gfI i6_15 (by decide) s_160 rfl hp ?_
  refine w_vI2 i6_18 c191 (Or.inl rfl) ⟨by decide +kernel, by decide⟩ rfl ⟨rfl, Nat.le_of_ble_eq_true rfl⟩ (K_chrc h hp1 hc) ?_
  refine w_vI2 i6_21 c206 (Or.inl rfl) (sK (by decide) (by decide)) rfl ⟨rfl, Nat.le_of_ble_eq_true rfl⟩ (K_ix (c := 100) (by decide)) ?_
  refine w_igeT i6_24 g6_24  (by decide +kernel) ?_
  refine w_ald1 i6_29 ?_
  refine w_ald0 i6_30 ?_
  refine w_gfI i6_31 (by decide) s_160 rfl hp ?_
  refine w_vI2 i6_34 c191 (Or.inl rfl) ⟨by decide +kernel, by decide⟩ rfl ⟨rfl, Nat.le_of_ble_eq_true rfl⟩ (K_chrc h hp1 hc) ?_
  refine w_ist3 i6_37 ?_
  refine w_ild3 i6_38 ?_
  refine w_sR1 i6_39 c7 rfl  rfl ⟨rfl, Nat.le_of_ble_eq_true rfl⟩ K_pt100 ?_
  refine w_ast4 i6_42 ?_
  refine w_ald0 i6_44 ?_
  refine w_gfR i6_45 (by decide) s_160 rfl ?_
  refine w_ild2 i6_48 ?_
  refine w_ild3 i6_49 ?_
  refine w_ias i6_50 s_161 (by decide) (by omega) ?_
  refine w_ald0 i6_51 ?_
  refine w_dup i6_52 rfl ?_
  refine w_gfI i6_53 (by decide) s_160 rfl ((mupC (by decide)).trans hp) ?_
  refine w_const i6_56 kc_1 ?_
  refine w_iadd i6_57 (nI_add _ _) ?_
  refine w_pf0 i6_58 (by decide) s_160 rfl ?_
  refine w_const i6_61 kc_0 ?_
  refine w_ist5 i6_62 ?_
  refine w_const i6_64 kc_0 ?_
  refine w_ist6 i6_65 ?_
  have hpo : pOrd (fun i => tx.getD i 0) tx.length p = ordS (fun i => tx.getD i 0) tx.length 100 (p + 1) := pOrd_k hp1 hc rfl
  rw [hpo, ordS_eq (show pt 100 = _ from rfl)] at hq0 hq1
  dsimp only at hq0 hq1
  have e1 : (pIt (fun i => tx.getD i 0) tx.length [] (p + 1) []).1 = p + 1 := rfl
  have e2 : (pIt (fun i => tx.getD i 0) tx.length [] (p + 1) []).2.1 = 0 := rfl
  have fB : ∀ q j, q ≠ 160 → ¬ (161 ≤ q ∧ q ≤ 164 ∧ j = i) → (mup (mup D 161 i (nI 100)) 160 5 (nI (p + 1))) q j = D q j := fun q j a b => (mupC a).trans (mupN (fun z => b ⟨by omega, by omega, z.2⟩))
  refine K_pat (D := mup (mup D 161 i (nI 100)) 160 5 (nI (p + 1))) (tx := tx) (i := i) (c := 100) (m := 1009) hi (by decide) (by decide) (by decide +kernel) [] 0 (p + 1) [] _ _ rfl (by decide +kernel) (by decide +kernel) (by decide) (by decide) (h.frO (Or.inl rfl) (fun q hq => (mupF (by omega)).trans (mupF (by omega)))) mupE hp1 FrI.rf (fun k hk => absurd hk (Nat.not_lt_zero k)) (fun w D2 g1 g2 g3 => ?_) (fun w D2 g1 g2 g3 g4 => ?_)
  · have w2 := w
    exact absurd e2 w2
  · refine hq1 rfl D2 g1 (by rw [g2]; exact congrArg nI e1) ⟨fun j hj => (g3.1 j hj).trans ((mupJ hj).trans (mupC (by decide))), fun q j a b => (g3.2 q j a (fun z => b ⟨by omega, z.2⟩)).trans (fB q j a b)⟩ ⟨?_, ?_, fun n V => ?_⟩
    · dsimp only; rw [hc]; exact (g3.2 161 i (by decide) (fun z => by omega)).trans ((mupC (by decide)).trans mupE)
    · dsimp only; rw [hc]; rfl
    · dsimp only; rw [hc, oDo100, oDo100]
  
