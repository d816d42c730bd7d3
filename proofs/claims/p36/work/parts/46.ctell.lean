/-! the class, texts and what it tells -/
set_option maxHeartbeats 100000 in
theorem K_acc12 {d : Nat} {D : Mm} {tx : List Nat} (h : SbR D 169 tx) : Ct (d + 7) 80 [.ref 0, .int (nI 12)] D (Ex (some (.int (nI tx.length))) D) := by
  refine ent m80 rfl rfl (ls := [.ref 0, .int (nI 12)]) rfl ?_
  refine w_ild1 i80_0 ?_
  refine w_ts (t := 180) i80_1 (by decide) ?_
  refine w_ald0 i80_180 ?_
  refine w_gfR i80_181 (by decide) s_0 rfl ?_
  refine w_vI1 i80_184 c193 (Or.inl rfl) ⟨by decide +kernel, by decide⟩ rfl ⟨rfl, Nat.le_of_ble_eq_true rfl⟩ (K_len_169 h) ?_
  refine w_ri i80_187 r80 ?_
  exact ⟨rfl, rfl⟩
set_option maxHeartbeats 100000 in
theorem K_char_bad {d : Nat} {D : Mm} {ln : List Nat} (h : SbR D 170 ln) {a : Int32} (hb : badR a (nI 0) (nI ln.length - nI 1)) : Ct (d + 9) 78 [.ref 0, .int a] D (Ex (some (.int (-1011))) D) := by
  refine ent m78 rfl rfl (ls := [.ref 0, .int a]) rfl ?_
  refine w_ild1 i78_0 ?_
  refine w_const i78_1 kc_0 ?_
  refine w_ald0 i78_2 ?_
  refine w_gfR i78_3 (by decide) s_0 rfl ?_
  refine w_vI1 i78_6 c193 (Or.inl rfl) ⟨by decide +kernel, by decide⟩ rfl ⟨rfl, Nat.le_of_ble_eq_true rfl⟩ (K_len_170 h) ?_
  refine w_const i78_9 kc_1 ?_
  refine w_isub i78_10 rfl ?_
  refine w_sI3 i78_11 c98 rfl  rfl ⟨rfl, Nat.le_of_ble_eq_true rfl⟩ (K_isFrom_f hb) ?_
  refine w_ieqNT i78_14 g78_14 (by omega) (by omega) ?_
  refine w_sip i78_28 ks_m1011 ?_
  refine w_ri i78_31 r78 ?_
  exact ⟨rfl, rfl⟩
set_option maxHeartbeats 100000 in
theorem K_char {d : Nat} {D : Mm} {ln : List Nat} (h : SbR D 170 ln) (hl : ln.length ≤ 140) {i : Nat} (hi : i < ln.length) : Ct (d + 9) 78 [.ref 0, .int (nI i)] D (Ex (some (.int (nI (ln.getD i 0)))) D) := by
  refine ent m78 rfl rfl (ls := [.ref 0, .int (nI i)]) rfl ?_
  refine w_ild1 i78_0 ?_
  refine w_const i78_1 kc_0 ?_
  refine w_ald0 i78_2 ?_
  refine w_gfR i78_3 (by decide) s_0 rfl ?_
  refine w_vI1 i78_6 c193 (Or.inl rfl) ⟨by decide +kernel, by decide⟩ rfl ⟨rfl, Nat.le_of_ble_eq_true rfl⟩ (K_len_170 h) ?_
  refine w_const i78_9 kc_1 ?_
  refine w_isub i78_10 (nI_sub (by omega)) ?_
  refine w_sI3 i78_11 c98 rfl  rfl ⟨rfl, Nat.le_of_ble_eq_true rfl⟩ (K_isFrom_t (nI_inR (by omega) (by omega) (by omega))) ?_
  refine w_ieqNF i78_14 (by omega) (by omega) ?_
  refine w_ald0 i78_17 ?_
  refine w_gfR i78_18 (by decide) s_0 rfl ?_
  refine w_ild1 i78_21 ?_
  refine w_vI2 i78_22 c191 (Or.inl rfl) ⟨by decide +kernel, by decide⟩ rfl ⟨rfl, Nat.le_of_ble_eq_true rfl⟩ (K_chr_170 h hi) ?_
  refine w_goto i78_25 g78_25 ?_
  refine w_ri i78_31 r78 ?_
  exact ⟨rfl, rfl⟩
set_option maxHeartbeats 100000 in
theorem K_tell_bad {d : Nat} {D : Mm} {n : Nat} {V : Nat → Int32} (R : Rel D n V) (h12 : n ≤ 12) {a : Int32} (hb : badS n a) : Ct (d + 9) 76 [.ref 0, .int a] D (Ex (some (.int (-1011))) D) := by
  refine ent m76 rfl rfl (ls := [.ref 0, .int a, .retAddr 0]) rfl ?_
  refine w_ald0 i76_0 ?_
  refine w_ild1 i76_1 ?_
  refine w_vI2 i76_2 c100 (Or.inl rfl) ⟨by decide +kernel, by decide⟩ rfl ⟨rfl, Nat.le_of_ble_eq_true rfl⟩ (K_isStub_f R h12 hb) ?_
  refine w_ineNF i76_5 (by omega) (by omega) ?_
  refine w_sip i76_8 ks_m1011 ?_
  refine w_ri i76_11 r76 ?_
  exact ⟨rfl, rfl⟩
theorem Rel.frB {D D2 : Mm} {n : Nat} {V : Nat → Int32} (R : Rel D n V) (f : FrB 170 D D2) : Rel D2 n V := R.fr (fun q a b => f q (by omega) (by omega))
theorem sbm_n {t : Nat} (ht : t < 100000) (h : nI t - nI 1 = -1) : t = 0 := by
  have e := sbm h
  exact (nI_inj (by omega) (by omega) e).symm
theorem sbm_nn {t : Nat} (h : ¬ nI t - nI 1 = -1) : ¬ t = 0 := fun e => h (by rw [e]; decide)
set_option maxHeartbeats 100000 in
theorem K_tell {d : Nat} {D : Mm} {Q : Option Value → Mm → Prop} {n : Nat} {V : Nat → Int32} (R : Rel D n V) (h12 : n ≤ 12) {s o w k t u b z : Nat} (hs : s < n) (ho : V (30 + 8 * s + 0) = nI o) (hw : V (30 + 8 * s + 1) = nI w) (hk : V (30 + 8 * s + 2) = nI k) (ht : V (30 + 8 * s + 3) = nI t) (hu : V (30 + 8 * s + 4) = nI u) (hz : V (30 + 8 * s + 5) = nI z) (hb : V (30 + 8 * s + 6) = nI b) (bo : o < 100000) (bw : w < 100000) (bk : k < 100000) (bt : t < 100000) (bu : u < 100000) (bz : z < 100000) (bb : b < 100000) {ln : List Nat} (hL : SbR D 170 ln) (hq : ∀ D2, SbR D2 170 (tlS s o w k t u b z) → FrB 170 D D2 → Q (some (.int (nI (tlS s o w k t u b z).length))) D2) : Ct (d + 9) 76 [.ref 0, .int (nI s)] D Q := by
  have hsb : s < 12 := by omega
  refine ent m76 rfl rfl (ls := [.ref 0, .int (nI s), .retAddr 0]) rfl ?_
  refine w_ald0 i76_0 ?_
  refine w_ild1 i76_1 ?_
  refine w_vI2 i76_2 c100 (Or.inl rfl) ⟨by decide +kernel, by decide⟩ rfl ⟨rfl, Nat.le_of_ble_eq_true rfl⟩ (K_isStub_t R h12 hs) ?_
  refine w_ineNT i76_5 g76_5 (by omega) (by omega) ?_
  refine w_ald0 i76_12 ?_
  refine w_gfR i76_13 (by decide) s_0 rfl ?_
  refine w_gfR i76_16 (by decide) s_1 rfl ?_
  refine w_ast2 i76_19 ?_
  refine w_ald0 i76_20 ?_
  refine w_gfR i76_21 (by decide) s_0 rfl ?_
  refine w_const i76_24 kc_0 ?_
  refine w_vG2 i76_25 c192 (Or.inl rfl) ⟨by decide +kernel, by decide⟩ rfl ⟨rfl, Nat.le_of_ble_eq_true rfl⟩ ?_
  refine K_set_170 hL (fun D25 l25 e25 => ?_)
  refine w_ald0 i76_28 ?_
  refine w_gfR i76_29 (by decide) s_0 rfl ?_
  refine w_ild1 i76_32 ?_
  refine w_vG2 i76_33 c190 (Or.inl rfl) ⟨by decide +kernel, by decide⟩ rfl ⟨rfl, Nat.le_of_ble_eq_true rfl⟩ ?_
  refine K_appI_170 (by first | exact l25) (by (try simp only [List.length_append, List.length_cons, List.length_nil]); have := @dgl_len s; have := @dgl_len o; have := @dgl_len w; have := @dgl_len k; have := @dgl_len (t - 1); have := @dgl_len u; omega) (by omega) (fun D33 l33 q33 => ?_)
  have e33 : FrB 170 D D33 := FrB.tr (by first | exact e25) q33
  refine w_bip i76_36 kb_64 ?_
  refine w_vG2 i76_38 c189 (Or.inl rfl) ⟨by decide +kernel, by decide⟩ rfl ⟨rfl, Nat.le_of_ble_eq_true rfl⟩ ?_
  refine K_appC_170 (by first | exact l33) (by (try simp only [List.length_append, List.length_cons, List.length_nil]); have := @dgl_len s; have := @dgl_len o; have := @dgl_len w; have := @dgl_len k; have := @dgl_len (t - 1); have := @dgl_len u; omega) (by decide) (fun D38 l38 q38 => ?_)
  have e38 : FrB 170 D D38 := FrB.tr (by first | exact e33) q38
  refine w_ald2 i76_41 ?_
  refine w_gfR i76_42 (by decide) s_2 rfl ?_
  refine w_ild1 i76_45 ?_
  refine w_ial i76_46 s_3 (by decide) (by omega) ((((R.frB (by first | exact e38)).c3 hs).trans ho)) ?_
  refine w_vG2 i76_47 c190 (Or.inl rfl) ⟨by decide +kernel, by decide⟩ rfl ⟨rfl, Nat.le_of_ble_eq_true rfl⟩ ?_
  refine K_appI_170 (by first | exact l38) (by (try simp only [List.length_append, List.length_cons, List.length_nil]); have := @dgl_len s; have := @dgl_len o; have := @dgl_len w; have := @dgl_len k; have := @dgl_len (t - 1); have := @dgl_len u; omega) (by omega) (fun D47 l47 q47 => ?_)
  have e47 : FrB 170 D D47 := FrB.tr (by first | exact e38) q47
  refine w_pop i76_50 rfl ?_
  refine w_ald0 i76_51 ?_
  refine w_gfR i76_52 (by decide) s_0 rfl ?_
  refine w_bip i76_55 kb_58 ?_
  refine w_vG2 i76_57 c189 (Or.inl rfl) ⟨by decide +kernel, by decide⟩ rfl ⟨rfl, Nat.le_of_ble_eq_true rfl⟩ ?_
  refine K_appC_170 (by first | exact l47) (by (try simp only [List.length_append, List.length_cons, List.length_nil]); have := @dgl_len s; have := @dgl_len o; have := @dgl_len w; have := @dgl_len k; have := @dgl_len (t - 1); have := @dgl_len u; omega) (by decide) (fun D57 l57 q57 => ?_)
  have e57 : FrB 170 D D57 := FrB.tr (by first | exact e47) q57
  refine w_ald2 i76_60 ?_
  refine w_gfR i76_61 (by decide) s_2 rfl ?_
  refine w_ild1 i76_64 ?_
  refine w_ial i76_65 s_4 (by decide) (by omega) ((((R.frB (by first | exact e57)).c4 hs).trans hw)) ?_
  refine w_vG2 i76_66 c190 (Or.inl rfl) ⟨by decide +kernel, by decide⟩ rfl ⟨rfl, Nat.le_of_ble_eq_true rfl⟩ ?_
  refine K_appI_170 (by first | exact l57) (by (try simp only [List.length_append, List.length_cons, List.length_nil]); have := @dgl_len s; have := @dgl_len o; have := @dgl_len w; have := @dgl_len k; have := @dgl_len (t - 1); have := @dgl_len u; omega) (by omega) (fun D66 l66 q66 => ?_)
  have e66 : FrB 170 D D66 := FrB.tr (by first | exact e57) q66
  refine w_pop i76_69 rfl ?_
  refine w_ald0 i76_70 ?_
  refine w_gfR i76_71 (by decide) s_0 rfl ?_
  refine w_bip i76_74 kb_47 ?_
  refine w_vG2 i76_76 c189 (Or.inl rfl) ⟨by decide +kernel, by decide⟩ rfl ⟨rfl, Nat.le_of_ble_eq_true rfl⟩ ?_
  refine K_appC_170 (by first | exact l66) (by (try simp only [List.length_append, List.length_cons, List.length_nil]); have := @dgl_len s; have := @dgl_len o; have := @dgl_len w; have := @dgl_len k; have := @dgl_len (t - 1); have := @dgl_len u; omega) (by decide) (fun D76 l76 q76 => ?_)
  have e76 : FrB 170 D D76 := FrB.tr (by first | exact e66) q76
  refine w_ald2 i76_79 ?_
  refine w_gfR i76_80 (by decide) s_2 rfl ?_
  refine w_ild1 i76_83 ?_
  refine w_ial i76_84 s_5 (by decide) (by omega) ((((R.frB (by first | exact e76)).c5 hs).trans hk)) ?_
  refine w_vG2 i76_85 c190 (Or.inl rfl) ⟨by decide +kernel, by decide⟩ rfl ⟨rfl, Nat.le_of_ble_eq_true rfl⟩ ?_
  refine K_appI_170 (by first | exact l76) (by (try simp only [List.length_append, List.length_cons, List.length_nil]); have := @dgl_len s; have := @dgl_len o; have := @dgl_len w; have := @dgl_len k; have := @dgl_len (t - 1); have := @dgl_len u; omega) (by omega) (fun D85 l85 q85 => ?_)
  have e85 : FrB 170 D D85 := FrB.tr (by first | exact e76) q85
  refine w_pop i76_88 rfl ?_
  refine w_ald2 i76_89 ?_
  refine w_gfR i76_90 (by decide) s_2 rfl ?_
  refine w_ild1 i76_93 ?_
  refine w_ial i76_94 s_6 (by decide) (by omega) ((((R.frB (by first | exact e85)).c6 hs).trans (congrArg (· - nI 1) ht))) ?_
  refine w_const i76_95 kc_m1 ?_
  refine w_ceq i76_96 g76_96  (fun h96 => ?_) (fun h96 => ?_)
  · skip
    refine w_ald2 i76_137 ?_
    refine w_gfR i76_138 (by decide) s_2 rfl ?_
    refine w_ild1 i76_141 ?_
    refine w_ial i76_142 s_8 (by decide) (by omega) ((((R.frB (by first | exact e133 | exact e85)).c8 hs).trans (congrArg (· - nI 1) hb))) ?_
    refine w_const i76_143 kc_m1 ?_
    refine w_ceq i76_144 g76_144  (fun h144 => ?_) (fun h144 => ?_)
    · skip
      refine w_ald0 i76_166 ?_
      refine w_gfR i76_167 (by decide) s_0 rfl ?_
      refine w_vI1 i76_170 c193 (Or.inl rfl) ⟨by decide +kernel, by decide⟩ rfl ⟨rfl, Nat.le_of_ble_eq_true rfl⟩ (K_len_170 (by first | exact l162 | exact l133 | exact l85)) ?_
      refine w_ri i76_173 r76 ?_
      unfold tlS tlD tlC at hq
      unfold tlB at hq
      first
        | (rw [if_pos (sbm_n bb h144), if_pos (sbm_n bt h96)] at hq; exact hq _ l85 e85)
        | (rw [if_pos (sbm_n bb h144), if_neg (sbm_nn h96)] at hq; exact hq _ l133 e133)
        | (rw [if_neg (sbm_nn h144), if_pos (sbm_n bt h96)] at hq; exact hq _ l162 e162)
        | (rw [if_neg (sbm_nn h144), if_neg (sbm_nn h96)] at hq; exact hq _ l162 e162)
    · skip
      refine w_ald0 i76_147 ?_
      refine w_gfR i76_148 (by decide) s_0 rfl ?_
      refine w_bip i76_151 kb_33 ?_
      refine w_vG2 i76_153 c189 (Or.inl rfl) ⟨by decide +kernel, by decide⟩ rfl ⟨rfl, Nat.le_of_ble_eq_true rfl⟩ ?_
      refine K_appC_170 (by first | exact l133 | exact l85) (by (try simp only [List.length_append, List.length_cons, List.length_nil]); have := @dgl_len s; have := @dgl_len o; have := @dgl_len w; have := @dgl_len k; have := @dgl_len (t - 1); have := @dgl_len u; omega) (by decide) (fun D153 l153 q153 => ?_)
      have e153 : FrB 170 D D153 := FrB.tr (by first | exact e133 | exact e85) q153
      refine w_ald2 i76_156 ?_
      refine w_gfR i76_157 (by decide) s_2 rfl ?_
      refine w_ild1 i76_160 ?_
      refine w_ial i76_161 s_9 (by decide) (by omega) ((((R.frB (by first | exact e153)).c9 hs).trans hz)) ?_
      refine w_vG2 i76_162 c190 (Or.inl rfl) ⟨by decide +kernel, by decide⟩ rfl ⟨rfl, Nat.le_of_ble_eq_true rfl⟩ ?_
      refine K_appI_170 (by first | exact l153) (by (try simp only [List.length_append, List.length_cons, List.length_nil]); have := @dgl_len s; have := @dgl_len o; have := @dgl_len w; have := @dgl_len k; have := @dgl_len (t - 1); have := @dgl_len u; omega) (by omega) (fun D162 l162 q162 => ?_)
      have e162 : FrB 170 D D162 := FrB.tr (by first | exact e153) q162
      refine w_pop i76_165 rfl ?_
      refine w_ald0 i76_166 ?_
      refine w_gfR i76_167 (by decide) s_0 rfl ?_
      refine w_vI1 i76_170 c193 (Or.inl rfl) ⟨by decide +kernel, by decide⟩ rfl ⟨rfl, Nat.le_of_ble_eq_true rfl⟩ (K_len_170 (by first | exact l162 | exact l133 | exact l85)) ?_
      refine w_ri i76_173 r76 ?_
      unfold tlS tlD tlC at hq
      unfold tlB at hq
      first
        | (rw [if_pos (sbm_n bb h144), if_pos (sbm_n bt h96)] at hq; exact hq _ l85 e85)
        | (rw [if_pos (sbm_n bb h144), if_neg (sbm_nn h96)] at hq; exact hq _ l133 e133)
        | (rw [if_neg (sbm_nn h144), if_pos (sbm_n bt h96)] at hq; exact hq _ l162 e162)
        | (rw [if_neg (sbm_nn h144), if_neg (sbm_nn h96)] at hq; exact hq _ l162 e162)
  · skip
    refine w_ald0 i76_99 ?_
    refine w_gfR i76_100 (by decide) s_0 rfl ?_
    refine w_bip i76_103 kb_62 ?_
    refine w_vG2 i76_105 c189 (Or.inl rfl) ⟨by decide +kernel, by decide⟩ rfl ⟨rfl, Nat.le_of_ble_eq_true rfl⟩ ?_
    refine K_appC_170 (by first | exact l85) (by (try simp only [List.length_append, List.length_cons, List.length_nil]); have := @dgl_len s; have := @dgl_len o; have := @dgl_len w; have := @dgl_len k; have := @dgl_len (t - 1); have := @dgl_len u; omega) (by decide) (fun D105 l105 q105 => ?_)
    have e105 : FrB 170 D D105 := FrB.tr (by first | exact e85) q105
    refine w_ald2 i76_108 ?_
    refine w_gfR i76_109 (by decide) s_2 rfl ?_
    refine w_ild1 i76_112 ?_
    refine w_ial i76_113 s_6 (by decide) (by omega) ((((R.frB (by first | exact e105)).c6 hs).trans ((congrArg (· - nI 1) ht).trans (nI_sub (by have := sbm_nn h96; omega))))) ?_
    refine w_vG2 i76_114 c190 (Or.inl rfl) ⟨by decide +kernel, by decide⟩ rfl ⟨rfl, Nat.le_of_ble_eq_true rfl⟩ ?_
    refine K_appI_170 (by first | exact l105) (by (try simp only [List.length_append, List.length_cons, List.length_nil]); have := @dgl_len s; have := @dgl_len o; have := @dgl_len w; have := @dgl_len k; have := @dgl_len (t - 1); have := @dgl_len u; omega) (by omega) (fun D114 l114 q114 => ?_)
    have e114 : FrB 170 D D114 := FrB.tr (by first | exact e105) q114
    refine w_pop i76_117 rfl ?_
    refine w_ald0 i76_118 ?_
    refine w_gfR i76_119 (by decide) s_0 rfl ?_
    refine w_bip i76_122 kb_61 ?_
    refine w_vG2 i76_124 c189 (Or.inl rfl) ⟨by decide +kernel, by decide⟩ rfl ⟨rfl, Nat.le_of_ble_eq_true rfl⟩ ?_
    refine K_appC_170 (by first | exact l114) (by (try simp only [List.length_append, List.length_cons, List.length_nil]); have := @dgl_len s; have := @dgl_len o; have := @dgl_len w; have := @dgl_len k; have := @dgl_len (t - 1); have := @dgl_len u; omega) (by decide) (fun D124 l124 q124 => ?_)
    have e124 : FrB 170 D D124 := FrB.tr (by first | exact e114) q124
    refine w_ald2 i76_127 ?_
    refine w_gfR i76_128 (by decide) s_2 rfl ?_
    refine w_ild1 i76_131 ?_
    refine w_ial i76_132 s_7 (by decide) (by omega) ((((R.frB (by first | exact e124)).c7 hs).trans hu)) ?_
    refine w_vG2 i76_133 c190 (Or.inl rfl) ⟨by decide +kernel, by decide⟩ rfl ⟨rfl, Nat.le_of_ble_eq_true rfl⟩ ?_
    refine K_appI_170 (by first | exact l124) (by (try simp only [List.length_append, List.length_cons, List.length_nil]); have := @dgl_len s; have := @dgl_len o; have := @dgl_len w; have := @dgl_len k; have := @dgl_len (t - 1); have := @dgl_len u; omega) (by omega) (fun D133 l133 q133 => ?_)
    have e133 : FrB 170 D D133 := FrB.tr (by first | exact e124) q133
    refine w_pop i76_136 rfl ?_
    refine w_ald2 i76_137 ?_
    refine w_gfR i76_138 (by decide) s_2 rfl ?_
    refine w_ild1 i76_141 ?_
    refine w_ial i76_142 s_8 (by decide) (by omega) ((((R.frB (by first | exact e133 | exact e85)).c8 hs).trans (congrArg (· - nI 1) hb))) ?_
    refine w_const i76_143 kc_m1 ?_
    refine w_ceq i76_144 g76_144  (fun h144 => ?_) (fun h144 => ?_)
    · skip
      refine w_ald0 i76_166 ?_
      refine w_gfR i76_167 (by decide) s_0 rfl ?_
      refine w_vI1 i76_170 c193 (Or.inl rfl) ⟨by decide +kernel, by decide⟩ rfl ⟨rfl, Nat.le_of_ble_eq_true rfl⟩ (K_len_170 (by first | exact l162 | exact l133 | exact l85)) ?_
      refine w_ri i76_173 r76 ?_
      unfold tlS tlD tlC at hq
      unfold tlB at hq
      first
        | (rw [if_pos (sbm_n bb h144), if_pos (sbm_n bt h96)] at hq; exact hq _ l85 e85)
        | (rw [if_pos (sbm_n bb h144), if_neg (sbm_nn h96)] at hq; exact hq _ l133 e133)
        | (rw [if_neg (sbm_nn h144), if_pos (sbm_n bt h96)] at hq; exact hq _ l162 e162)
        | (rw [if_neg (sbm_nn h144), if_neg (sbm_nn h96)] at hq; exact hq _ l162 e162)
    · skip
      refine w_ald0 i76_147 ?_
      refine w_gfR i76_148 (by decide) s_0 rfl ?_
      refine w_bip i76_151 kb_33 ?_
      refine w_vG2 i76_153 c189 (Or.inl rfl) ⟨by decide +kernel, by decide⟩ rfl ⟨rfl, Nat.le_of_ble_eq_true rfl⟩ ?_
      refine K_appC_170 (by first | exact l133 | exact l85) (by (try simp only [List.length_append, List.length_cons, List.length_nil]); have := @dgl_len s; have := @dgl_len o; have := @dgl_len w; have := @dgl_len k; have := @dgl_len (t - 1); have := @dgl_len u; omega) (by decide) (fun D153 l153 q153 => ?_)
      have e153 : FrB 170 D D153 := FrB.tr (by first | exact e133 | exact e85) q153
      refine w_ald2 i76_156 ?_
      refine w_gfR i76_157 (by decide) s_2 rfl ?_
      refine w_ild1 i76_160 ?_
      refine w_ial i76_161 s_9 (by decide) (by omega) ((((R.frB (by first | exact e153)).c9 hs).trans hz)) ?_
      refine w_vG2 i76_162 c190 (Or.inl rfl) ⟨by decide +kernel, by decide⟩ rfl ⟨rfl, Nat.le_of_ble_eq_true rfl⟩ ?_
      refine K_appI_170 (by first | exact l153) (by (try simp only [List.length_append, List.length_cons, List.length_nil]); have := @dgl_len s; have := @dgl_len o; have := @dgl_len w; have := @dgl_len k; have := @dgl_len (t - 1); have := @dgl_len u; omega) (by omega) (fun D162 l162 q162 => ?_)
      have e162 : FrB 170 D D162 := FrB.tr (by first | exact e153) q162
      refine w_pop i76_165 rfl ?_
      refine w_ald0 i76_166 ?_
      refine w_gfR i76_167 (by decide) s_0 rfl ?_
      refine w_vI1 i76_170 c193 (Or.inl rfl) ⟨by decide +kernel, by decide⟩ rfl ⟨rfl, Nat.le_of_ble_eq_true rfl⟩ (K_len_170 (by first | exact l162 | exact l133 | exact l85)) ?_
      refine w_ri i76_173 r76 ?_
      unfold tlS tlD tlC at hq
      unfold tlB at hq
      first
        | (rw [if_pos (sbm_n bb h144), if_pos (sbm_n bt h96)] at hq; exact hq _ l85 e85)
        | (rw [if_pos (sbm_n bb h144), if_neg (sbm_nn h96)] at hq; exact hq _ l133 e133)
        | (rw [if_neg (sbm_nn h144), if_pos (sbm_n bt h96)] at hq; exact hq _ l162 e162)
        | (rw [if_neg (sbm_nn h144), if_neg (sbm_nn h96)] at hq; exact hq _ l162 e162)
set_option maxHeartbeats 100000 in
theorem K_wH {d : Nat} {D : Mm} {Q : Option Value → Mm → Prop} {n : Nat} {V : Nat → Int32} (R : Rel D n V) (h12 : n ≤ 12) (ho : opV V) {h O S P : Nat} (hh : h < 6) (hO : V (6 + 4 * h + 0) = nI O) (bO : O < 2) (hS : V (6 + 4 * h + 2) = nI S) (bS : S < 100000) (hP : V (6 + 4 * h + 3) = nI P) (bP : P < 100000) {ln : List Nat} (l0 : SbR D 170 ln) (hl : ln.length + 11 ≤ 140) (hq : ∀ D2, SbR D2 170 (ln ++ thS O S P) → FrB 170 D D2 → Q none D2) : Ct (d + 8) 104 [.ref 0, .int (nI h)] D Q := by
  have e0 : FrB 170 D D := FrB.rf
  refine ent m104 rfl rfl (ls := [.ref 0, .int (nI h)]) rfl ?_
  refine w_ald0 i104_0 ?_
  refine w_gfR i104_1 (by decide) s_0 rfl ?_
  refine w_gfR i104_4 (by decide) s_1 rfl ?_
  refine w_ild1 i104_7 ?_
  refine w_zal i104_8 s_11 (by decide) (by omega) ((R.c11 hh).trans hO) ?_
  refine w_ineN i104_9 g104_9 (by omega) (fun h9 => ?_) (fun h9 => ?_)
  · skip
    refine w_ald0 i104_23 ?_
    refine w_gfR i104_24 (by decide) s_0 rfl ?_
    refine w_ald0 i104_27 ?_
    refine w_gfR i104_28 (by decide) s_0 rfl ?_
    refine w_gfR i104_31 (by decide) s_1 rfl ?_
    refine w_ild1 i104_34 ?_
    refine w_ial i104_35 s_13 (by decide) (by omega) ((R.c13 hh).trans hS) ?_
    refine w_vG2 i104_36 c190 (Or.inl rfl) ⟨by decide +kernel, by decide⟩ rfl ⟨rfl, Nat.le_of_ble_eq_true rfl⟩ ?_
    refine K_appI_170 (by first | exact l0) (by (try simp only [List.length_append, List.length_cons, List.length_nil]); have := @dgl_len S; have := @dgl_len P; omega) (by omega) (fun D36 l36 q36 => ?_)
    have e36 : FrB 170 D D36 := FrB.tr (by first | exact e0) q36
    refine w_pop i104_39 rfl ?_
    refine w_ald0 i104_40 ?_
    refine w_gfR i104_41 (by decide) s_0 rfl ?_
    refine w_gfR i104_44 (by decide) s_1 rfl ?_
    refine w_ild1 i104_47 ?_
    refine w_ial i104_48 s_14 (by decide) (by omega) (((R.frB e36).c14 hh).trans hP) ?_
    refine w_ileN i104_49 g104_49 (by omega) (fun h49 => ?_) (fun h49 => ?_)
    · skip
      refine w_rv i104_74 r104 ?_
      first
        | (refine hq _ ?_ e36
           unfold thS; rw [if_neg (show ¬ O ≠ 1 by omega), if_pos (show P = 0 by omega), List.append_nil]; exact l36)
        | (refine hq _ ?_ e70
           unfold thS; rw [if_neg (show ¬ O ≠ 1 by omega), if_neg (show ¬ P = 0 by omega)]
           simpa only [List.append_assoc] using l70)
    · skip
      refine w_ald0 i104_52 ?_
      refine w_gfR i104_53 (by decide) s_0 rfl ?_
      refine w_bip i104_56 kb_43 ?_
      refine w_vG2 i104_58 c189 (Or.inl rfl) ⟨by decide +kernel, by decide⟩ rfl ⟨rfl, Nat.le_of_ble_eq_true rfl⟩ ?_
      refine K_appC_170 (by first | exact l36) (by (try simp only [List.length_append, List.length_cons, List.length_nil]); have := @dgl_len S; have := @dgl_len P; omega) (by decide) (fun D58 l58 q58 => ?_)
      have e58 : FrB 170 D D58 := FrB.tr (by first | exact e36) q58
      refine w_ald0 i104_61 ?_
      refine w_gfR i104_62 (by decide) s_0 rfl ?_
      refine w_gfR i104_65 (by decide) s_1 rfl ?_
      refine w_ild1 i104_68 ?_
      refine w_ial i104_69 s_14 (by decide) (by omega) (((R.frB e58).c14 hh).trans hP) ?_
      refine w_vG2 i104_70 c190 (Or.inl rfl) ⟨by decide +kernel, by decide⟩ rfl ⟨rfl, Nat.le_of_ble_eq_true rfl⟩ ?_
      refine K_appI_170 (by first | exact l58) (by (try simp only [List.length_append, List.length_cons, List.length_nil]); have := @dgl_len S; have := @dgl_len P; omega) (by omega) (fun D70 l70 q70 => ?_)
      have e70 : FrB 170 D D70 := FrB.tr (by first | exact e58) q70
      refine w_pop i104_73 rfl ?_
      refine w_rv i104_74 r104 ?_
      first
        | (refine hq _ ?_ e36
           unfold thS; rw [if_neg (show ¬ O ≠ 1 by omega), if_pos (show P = 0 by omega), List.append_nil]; exact l36)
        | (refine hq _ ?_ e70
           unfold thS; rw [if_neg (show ¬ O ≠ 1 by omega), if_neg (show ¬ P = 0 by omega)]
           simpa only [List.append_assoc] using l70)
  · skip
    refine w_ald0 i104_12 ?_
    refine w_gfR i104_13 (by decide) s_0 rfl ?_
    refine w_bip i104_16 kb_120 ?_
    refine w_vG2 i104_18 c189 (Or.inl rfl) ⟨by decide +kernel, by decide⟩ rfl ⟨rfl, Nat.le_of_ble_eq_true rfl⟩ ?_
    refine K_appC_170 (by first | exact l0) (by (try simp only [List.length_append, List.length_cons, List.length_nil]); have := @dgl_len S; have := @dgl_len P; omega) (by decide) (fun D18 l18 q18 => ?_)
    have e18 : FrB 170 D D18 := FrB.tr (by first | exact e0) q18
    refine w_pop i104_21 rfl ?_
    refine w_rv i104_22 r104 ?_
    refine hq _ ?_ e18
    unfold thS; rw [if_pos (show O ≠ 1 by omega)]; exact l18
set_option maxHeartbeats 100000 in
theorem K_tellH {d : Nat} {D : Mm} {Q : Option Value → Mm → Prop} {n : Nat} {V : Nat → Int32} (R : Rel D n V) (h12 : n ≤ 12) (ho : opV V) {O S P : Nat → Nat} (hO : ∀ h, h < 6 → V (6 + 4 * h + 0) = nI (O h) ∧ O h < 2) (hS : ∀ h, h < 6 → V (6 + 4 * h + 2) = nI (S h) ∧ S h < 100000) (hP : ∀ h, h < 6 → V (6 + 4 * h + 3) = nI (P h) ∧ P h < 100000) {ln : List Nat} (hL : SbR D 170 ln) (hq : ∀ D2, SbR D2 170 (thL O S P 6) → FrB 170 D D2 → Q (some (.int (nI (thL O S P 6).length))) D2) : Ct (d + 9) 77 [.ref 0] D Q := by
  refine ent m77 rfl rfl (ls := [.ref 0, .retAddr 0]) rfl ?_
  refine w_ald0 i77_0 ?_
  refine w_gfR i77_1 (by decide) s_0 rfl ?_
  refine w_const i77_4 kc_0 ?_
  refine w_vG2 i77_5 c192 (Or.inl rfl) ⟨by decide +kernel, by decide⟩ rfl ⟨rfl, Nat.le_of_ble_eq_true rfl⟩ ?_
  refine K_set_170 hL (fun D25 l25 e25 => ?_)
  refine w_const i77_8 kc_0 ?_
  refine w_ist1 i77_9 ?_
  have L10 : ∀ k i D1, i + k = 6 → SbR D1 170 (thL O S P i) → FrB 170 D D1 → Wp (d + 8) 77 Q 10 [.ref 0, .int (nI i)] [] D1 := by
    intro k
    induction k with
    | zero =>
      intro i D0 hk l0 e0
      have i6 : i = 6 := by omega
      subst i6
      refine w_ild1 i77_10 ?_
      refine w_bip i77_11 kb_6 ?_
      refine w_cgeNT i77_13 g77_13 (by omega) (by omega) (by omega) ?_
      refine w_ald0 i77_41 ?_
      refine w_gfR i77_42 (by decide) s_0 rfl ?_
      refine w_vI1 i77_45 c193 (Or.inl rfl) ⟨by decide +kernel, by decide⟩ rfl ⟨rfl, Nat.le_of_ble_eq_true rfl⟩ (K_len_170 l0) ?_
      refine w_ri i77_48 r77 ?_
      exact hq _ l0 e0
    | succ k ih =>
      intro i D0 hk l0 e0
      have hi : i < 6 := by omega
      replace ih := fun D1 => ih (i + 1) D1 (by omega)
      refine w_ild1 i77_10 ?_
      refine w_bip i77_11 kb_6 ?_
      refine w_cgeNF i77_13 (by omega) (by omega) (by omega) ?_
      refine w_ild1 i77_16 ?_
      refine w_ileN i77_17 g77_17 (by omega) (fun h17 => ?_) (fun h17 => ?_)
      · skip
        refine w_ald0 i77_30 ?_
        refine w_ild1 i77_31 ?_
        refine w_vG2 i77_32 c104 (Or.inl rfl) ⟨by decide +kernel, by decide⟩ rfl ⟨rfl, Nat.le_of_ble_eq_true rfl⟩ ?_
        refine K_wH (R.frB (by first | exact e26 | exact e0)) h12 ho hi (hO i hi).1 (hO i hi).2 (hS i hi).1 (hS i hi).2 (hP i hi).1 (hP i hi).2 (by first | exact l26 | exact l0) (by (try simp only [List.length_append, List.length_cons, List.length_nil]); have := @thL_len O S P i; omega) (fun D32 l32 q32 => ?_)
        have e32 : FrB 170 D D32 := FrB.tr (by first | exact e26 | exact e0) q32
        refine w_inc1 i77_35 (inc1 _) ?_
        refine w_goto i77_38 g77_38 ?_
        first
          | (refine ih D32 ?_ e32; rw [thL, if_pos (show i = 0 by omega), List.append_nil]; exact l32)
          | (refine ih D32 ?_ e32; rw [thL, if_neg (show ¬ i = 0 by omega)]; exact l32)
      · skip
        refine w_ald0 i77_20 ?_
        refine w_gfR i77_21 (by decide) s_0 rfl ?_
        refine w_bip i77_24 kb_32 ?_
        refine w_vG2 i77_26 c189 (Or.inl rfl) ⟨by decide +kernel, by decide⟩ rfl ⟨rfl, Nat.le_of_ble_eq_true rfl⟩ ?_
        refine K_appC_170 (by first | exact l0) (by (try simp only [List.length_append, List.length_cons, List.length_nil]); have := @thL_len O S P i; omega) (by decide) (fun D26 l26 q26 => ?_)
        have e26 : FrB 170 D D26 := FrB.tr (by first | exact e0) q26
        refine w_pop i77_29 rfl ?_
        refine w_ald0 i77_30 ?_
        refine w_ild1 i77_31 ?_
        refine w_vG2 i77_32 c104 (Or.inl rfl) ⟨by decide +kernel, by decide⟩ rfl ⟨rfl, Nat.le_of_ble_eq_true rfl⟩ ?_
        refine K_wH (R.frB (by first | exact e26 | exact e0)) h12 ho hi (hO i hi).1 (hO i hi).2 (hS i hi).1 (hS i hi).2 (hP i hi).1 (hP i hi).2 (by first | exact l26 | exact l0) (by (try simp only [List.length_append, List.length_cons, List.length_nil]); have := @thL_len O S P i; omega) (fun D32 l32 q32 => ?_)
        have e32 : FrB 170 D D32 := FrB.tr (by first | exact e26 | exact e0) q32
        refine w_inc1 i77_35 (inc1 _) ?_
        refine w_goto i77_38 g77_38 ?_
        first
          | (refine ih D32 ?_ e32; rw [thL, if_pos (show i = 0 by omega), List.append_nil]; exact l32)
          | (refine ih D32 ?_ e32; rw [thL, if_neg (show ¬ i = 0 by omega)]; exact l32)
  exact L10 6 0 _ rfl l25 e25
