/-! the reference, what it tells -/
def tlB (s o w k : Nat) : List Nat := [] ++ dgl s ++ [64] ++ dgl o ++ [58] ++ dgl w ++ [47] ++ dgl k
def tlC (t u : Nat) (ln : List Nat) : List Nat := if t = 0 then ln else ln ++ [62] ++ dgl (t - 1) ++ [61] ++ dgl u
def tlD (b z : Nat) (ln : List Nat) : List Nat := if b = 0 then ln else ln ++ [33] ++ dgl z
def tlS (s o w k t u b z : Nat) : List Nat := tlD b z (tlC t u (tlB s o w k))
theorem LSt0 {D : Mm} : LSt (mup D 171 22 (nI 0)) [] := ⟨mupE, fun i hi => absurd hi (Nat.not_lt_zero i)⟩
theorem FrL0 {D : Mm} {x : Int32} : FrL D (mup D 171 22 x) := ⟨fun j h => mupJ h, fun q a b => mupF a⟩
theorem FrL.v {D D2 : Mm} (h : FrL D D2) {j : Nat} : D2 172 j = D 172 j := congrFun (h.2 172 (by decide) (by decide)) j
set_option maxHeartbeats 100000 in
theorem P_tell_bad {d : Nat} {D : Mm} {n : Nat} (hn : D 172 0 = nI n) (h12 : n ≤ 12) {a : Int32} (hb : badS n a) : Ct (d + 6) 178 [.ref 171, .int a] D (Ex (some (.int (-1011))) D) := by
  refine ent m178 rfl rfl (ls := [.ref 171, .int a]) rfl ?_
  refine w_ald0 i178_0 ?_
  refine w_ild1 i178_1 ?_
  refine w_vI2 i178_2 c117 (Or.inl rfl) ⟨by decide +kernel, by decide⟩ rfl ⟨rfl, Nat.le_of_ble_eq_true rfl⟩ (T_isStub_f hn h12 hb) ?_
  refine w_ineNF i178_5 (by omega) (by omega) ?_
  refine w_sip i178_8 ks_m1011 ?_
  refine w_ri i178_11 r178 ?_
  exact ⟨rfl, rfl⟩
theorem LSt_1 {D : Mm} {ln : List Nat} (h : LSt D ln) : D 171 22 = nI ln.length := h.1
set_option maxHeartbeats 100000 in
theorem P_tell {d : Nat} {D : Mm} {Q : Option Value → Mm → Prop} {s n o w k t u b z : Nat} (hn : D 172 0 = nI n) (h12 : n ≤ 12) (hs : s < n) (ho : D 172 (30 + 8 * s + 0) = nI o) (hw : D 172 (30 + 8 * s + 1) = nI w) (hk : D 172 (30 + 8 * s + 2) = nI k) (ht : D 172 (30 + 8 * s + 3) = nI t) (hu : D 172 (30 + 8 * s + 4) = nI u) (hz : D 172 (30 + 8 * s + 5) = nI z) (hb : D 172 (30 + 8 * s + 6) = nI b) (bo : o < 100000) (bw : w < 100000) (bk : k < 100000) (bt : t < 100000) (bu : u < 100000) (bz : z < 100000) (bb : b < 100000) (hq : ∀ D2, LSt D2 (tlS s o w k t u b z) → FrL D D2 → Q (some (.int (nI (tlS s o w k t u b z).length))) D2) : Ct (d + 6) 178 [.ref 171, .int (nI s)] D Q := by
  refine ent m178 rfl rfl (ls := [.ref 171, .int (nI s)]) rfl ?_
  refine w_ald0 i178_0 ?_
  refine w_ild1 i178_1 ?_
  refine w_vI2 i178_2 c117 (Or.inl rfl) ⟨by decide +kernel, by decide⟩ rfl ⟨rfl, Nat.le_of_ble_eq_true rfl⟩ (T_isStub_t hn h12 hs) ?_
  refine w_ineNT i178_5 g178_5 (by omega) (by omega) ?_
  refine w_ald0 i178_12 ?_
  refine w_const i178_13 kc_0 ?_
  refine w_pf0 i178_14 (by decide) s_171 rfl ?_
  refine w_ald0 i178_17 ?_
  refine w_ild1 i178_18 ?_
  refine w_vG2 i178_19 c166 (Or.inl rfl) ⟨by decide +kernel, by decide⟩ rfl ⟨rfl, Nat.le_of_ble_eq_true rfl⟩ ?_
  refine T_wn LSt0 (by omega) (by simp only [List.length_append, List.length_cons, List.length_nil]; have := @dgl_len s; have := @dgl_len o; have := @dgl_len w; have := @dgl_len k; have := @dgl_len (t - 1); have := @dgl_len u; omega) (fun D19 l19 q19 => ?_)
  have e19 : FrL D D19 := FrL.tr FrL0 q19
  refine w_ald0 i178_22 ?_
  refine w_bip i178_23 kb_64 ?_
  refine w_vG2 i178_25 c165 (Or.inl rfl) ⟨by decide +kernel, by decide⟩ rfl ⟨rfl, Nat.le_of_ble_eq_true rfl⟩ ?_
  refine T_writes (by first | exact l19) (by simp only [List.length_append, List.length_cons, List.length_nil]; have := @dgl_len s; have := @dgl_len o; have := @dgl_len w; have := @dgl_len k; have := @dgl_len (t - 1); have := @dgl_len u; omega) (fun D25 l25 q25 => ?_)
  have e25 : FrL D D25 := FrL.tr (by first | exact e19) q25
  refine w_ald0 i178_28 ?_
  refine w_ald0 i178_29 ?_
  refine w_gfR i178_30 (by decide) s_171 rfl ?_
  refine w_ild1 i178_33 ?_
  refine w_const i178_34 kc_0 ?_
  refine w_sI2 i178_35 c115 rfl  rfl ⟨rfl, Nat.le_of_ble_eq_true rfl⟩ T_in ?_
  refine w_ial i178_38 s_172 (by decide) (by omega) ((FrL.v (by first | exact e25)).trans ho) ?_
  refine w_vG2 i178_39 c166 (Or.inl rfl) ⟨by decide +kernel, by decide⟩ rfl ⟨rfl, Nat.le_of_ble_eq_true rfl⟩ ?_
  refine T_wn (by first | exact l25) (by omega) (by simp only [List.length_append, List.length_cons, List.length_nil]; have := @dgl_len s; have := @dgl_len o; have := @dgl_len w; have := @dgl_len k; have := @dgl_len (t - 1); have := @dgl_len u; omega) (fun D39 l39 q39 => ?_)
  have e39 : FrL D D39 := FrL.tr (by first | exact e25) q39
  refine w_ald0 i178_42 ?_
  refine w_bip i178_43 kb_58 ?_
  refine w_vG2 i178_45 c165 (Or.inl rfl) ⟨by decide +kernel, by decide⟩ rfl ⟨rfl, Nat.le_of_ble_eq_true rfl⟩ ?_
  refine T_writes (by first | exact l39) (by simp only [List.length_append, List.length_cons, List.length_nil]; have := @dgl_len s; have := @dgl_len o; have := @dgl_len w; have := @dgl_len k; have := @dgl_len (t - 1); have := @dgl_len u; omega) (fun D45 l45 q45 => ?_)
  have e45 : FrL D D45 := FrL.tr (by first | exact e39) q45
  refine w_ald0 i178_48 ?_
  refine w_ald0 i178_49 ?_
  refine w_gfR i178_50 (by decide) s_171 rfl ?_
  refine w_ild1 i178_53 ?_
  refine w_const i178_54 kc_1 ?_
  refine w_sI2 i178_55 c115 rfl  rfl ⟨rfl, Nat.le_of_ble_eq_true rfl⟩ T_in ?_
  refine w_ial i178_58 s_172 (by decide) (by omega) ((FrL.v (by first | exact e45)).trans hw) ?_
  refine w_vG2 i178_59 c166 (Or.inl rfl) ⟨by decide +kernel, by decide⟩ rfl ⟨rfl, Nat.le_of_ble_eq_true rfl⟩ ?_
  refine T_wn (by first | exact l45) (by omega) (by simp only [List.length_append, List.length_cons, List.length_nil]; have := @dgl_len s; have := @dgl_len o; have := @dgl_len w; have := @dgl_len k; have := @dgl_len (t - 1); have := @dgl_len u; omega) (fun D59 l59 q59 => ?_)
  have e59 : FrL D D59 := FrL.tr (by first | exact e45) q59
  refine w_ald0 i178_62 ?_
  refine w_bip i178_63 kb_47 ?_
  refine w_vG2 i178_65 c165 (Or.inl rfl) ⟨by decide +kernel, by decide⟩ rfl ⟨rfl, Nat.le_of_ble_eq_true rfl⟩ ?_
  refine T_writes (by first | exact l59) (by simp only [List.length_append, List.length_cons, List.length_nil]; have := @dgl_len s; have := @dgl_len o; have := @dgl_len w; have := @dgl_len k; have := @dgl_len (t - 1); have := @dgl_len u; omega) (fun D65 l65 q65 => ?_)
  have e65 : FrL D D65 := FrL.tr (by first | exact e59) q65
  refine w_ald0 i178_68 ?_
  refine w_ald0 i178_69 ?_
  refine w_gfR i178_70 (by decide) s_171 rfl ?_
  refine w_ild1 i178_73 ?_
  refine w_const i178_74 kc_2 ?_
  refine w_sI2 i178_75 c115 rfl  rfl ⟨rfl, Nat.le_of_ble_eq_true rfl⟩ T_in ?_
  refine w_ial i178_78 s_172 (by decide) (by omega) ((FrL.v (by first | exact e65)).trans hk) ?_
  refine w_vG2 i178_79 c166 (Or.inl rfl) ⟨by decide +kernel, by decide⟩ rfl ⟨rfl, Nat.le_of_ble_eq_true rfl⟩ ?_
  refine T_wn (by first | exact l65) (by omega) (by simp only [List.length_append, List.length_cons, List.length_nil]; have := @dgl_len s; have := @dgl_len o; have := @dgl_len w; have := @dgl_len k; have := @dgl_len (t - 1); have := @dgl_len u; omega) (fun D79 l79 q79 => ?_)
  have e79 : FrL D D79 := FrL.tr (by first | exact e65) q79
  refine w_ald0 i178_82 ?_
  refine w_gfR i178_83 (by decide) s_171 rfl ?_
  refine w_ild1 i178_86 ?_
  refine w_const i178_87 kc_3 ?_
  refine w_sI2 i178_88 c115 rfl  rfl ⟨rfl, Nat.le_of_ble_eq_true rfl⟩ T_in ?_
  refine w_ial i178_91 s_172 (by decide) (by omega) ((FrL.v (by first | exact e79)).trans ht) ?_
  refine w_ileN i178_92 g178_92 (by omega) (fun h92 => ?_) (fun h92 => ?_)
  · skip
    refine w_ald0 i178_137 ?_
    refine w_gfR i178_138 (by decide) s_171 rfl ?_
    refine w_ild1 i178_141 ?_
    refine w_bip i178_142 kb_6 ?_
    refine w_sI2 i178_144 c115 rfl  rfl ⟨rfl, Nat.le_of_ble_eq_true rfl⟩ T_in ?_
    refine w_ial i178_147 s_172 (by decide) (by omega) ((FrL.v (by first | exact e134 | exact e79)).trans hb) ?_
    refine w_ileN i178_148 g178_148 (by omega) (fun h148 => ?_) (fun h148 => ?_)
    · skip
      refine w_ald0 i178_171 ?_
      refine w_gfI i178_172 (by decide) s_171 rfl (LSt_1 (by first | exact l168 | exact l134 | exact l79)) ?_
      refine w_ri i178_175 r178 ?_
      unfold tlS tlD tlC at hq
      unfold tlB at hq
      first
        | (rw [if_pos (show b = 0 by omega), if_pos (show t = 0 by omega)] at hq; exact hq _ l79 e79)
        | (rw [if_pos (show b = 0 by omega), if_neg (show ¬ t = 0 by omega)] at hq; exact hq _ l134 e134)
        | (rw [if_neg (show ¬ b = 0 by omega), if_pos (show t = 0 by omega)] at hq; exact hq _ l168 e168)
        | (rw [if_neg (show ¬ b = 0 by omega), if_neg (show ¬ t = 0 by omega)] at hq; exact hq _ l168 e168)
    · skip
      refine w_ald0 i178_151 ?_
      refine w_bip i178_152 kb_33 ?_
      refine w_vG2 i178_154 c165 (Or.inl rfl) ⟨by decide +kernel, by decide⟩ rfl ⟨rfl, Nat.le_of_ble_eq_true rfl⟩ ?_
      refine T_writes (by first | exact l134 | exact l79) (by simp only [List.length_append, List.length_cons, List.length_nil]; have := @dgl_len s; have := @dgl_len o; have := @dgl_len w; have := @dgl_len k; have := @dgl_len (t - 1); have := @dgl_len u; omega) (fun D154 l154 q154 => ?_)
      have e154 : FrL D D154 := FrL.tr (by first | exact e134 | exact e79) q154
      refine w_ald0 i178_157 ?_
      refine w_ald0 i178_158 ?_
      refine w_gfR i178_159 (by decide) s_171 rfl ?_
      refine w_ild1 i178_162 ?_
      refine w_const i178_163 kc_5 ?_
      refine w_sI2 i178_164 c115 rfl  rfl ⟨rfl, Nat.le_of_ble_eq_true rfl⟩ T_in ?_
      refine w_ial i178_167 s_172 (by decide) (by omega) ((FrL.v (by first | exact e154)).trans hz) ?_
      refine w_vG2 i178_168 c166 (Or.inl rfl) ⟨by decide +kernel, by decide⟩ rfl ⟨rfl, Nat.le_of_ble_eq_true rfl⟩ ?_
      refine T_wn (by first | exact l154) (by omega) (by simp only [List.length_append, List.length_cons, List.length_nil]; have := @dgl_len s; have := @dgl_len o; have := @dgl_len w; have := @dgl_len k; have := @dgl_len (t - 1); have := @dgl_len u; omega) (fun D168 l168 q168 => ?_)
      have e168 : FrL D D168 := FrL.tr (by first | exact e154) q168
      refine w_ald0 i178_171 ?_
      refine w_gfI i178_172 (by decide) s_171 rfl (LSt_1 (by first | exact l168 | exact l134 | exact l79)) ?_
      refine w_ri i178_175 r178 ?_
      unfold tlS tlD tlC at hq
      unfold tlB at hq
      first
        | (rw [if_pos (show b = 0 by omega), if_pos (show t = 0 by omega)] at hq; exact hq _ l79 e79)
        | (rw [if_pos (show b = 0 by omega), if_neg (show ¬ t = 0 by omega)] at hq; exact hq _ l134 e134)
        | (rw [if_neg (show ¬ b = 0 by omega), if_pos (show t = 0 by omega)] at hq; exact hq _ l168 e168)
        | (rw [if_neg (show ¬ b = 0 by omega), if_neg (show ¬ t = 0 by omega)] at hq; exact hq _ l168 e168)
  · skip
    refine w_ald0 i178_95 ?_
    refine w_bip i178_96 kb_62 ?_
    refine w_vG2 i178_98 c165 (Or.inl rfl) ⟨by decide +kernel, by decide⟩ rfl ⟨rfl, Nat.le_of_ble_eq_true rfl⟩ ?_
    refine T_writes (by first | exact l79) (by simp only [List.length_append, List.length_cons, List.length_nil]; have := @dgl_len s; have := @dgl_len o; have := @dgl_len w; have := @dgl_len k; have := @dgl_len (t - 1); have := @dgl_len u; omega) (fun D98 l98 q98 => ?_)
    have e98 : FrL D D98 := FrL.tr (by first | exact e79) q98
    refine w_ald0 i178_101 ?_
    refine w_ald0 i178_102 ?_
    refine w_gfR i178_103 (by decide) s_171 rfl ?_
    refine w_ild1 i178_106 ?_
    refine w_const i178_107 kc_3 ?_
    refine w_sI2 i178_108 c115 rfl  rfl ⟨rfl, Nat.le_of_ble_eq_true rfl⟩ T_in ?_
    refine w_ial i178_111 s_172 (by decide) (by omega) ((FrL.v (by first | exact e98)).trans ht) ?_
    refine w_const i178_112 kc_1 ?_
    refine w_isub i178_113 (nI_sub (by omega)) ?_
    refine w_vG2 i178_114 c166 (Or.inl rfl) ⟨by decide +kernel, by decide⟩ rfl ⟨rfl, Nat.le_of_ble_eq_true rfl⟩ ?_
    refine T_wn (by first | exact l98) (by omega) (by simp only [List.length_append, List.length_cons, List.length_nil]; have := @dgl_len s; have := @dgl_len o; have := @dgl_len w; have := @dgl_len k; have := @dgl_len (t - 1); have := @dgl_len u; omega) (fun D114 l114 q114 => ?_)
    have e114 : FrL D D114 := FrL.tr (by first | exact e98) q114
    refine w_ald0 i178_117 ?_
    refine w_bip i178_118 kb_61 ?_
    refine w_vG2 i178_120 c165 (Or.inl rfl) ⟨by decide +kernel, by decide⟩ rfl ⟨rfl, Nat.le_of_ble_eq_true rfl⟩ ?_
    refine T_writes (by first | exact l114) (by simp only [List.length_append, List.length_cons, List.length_nil]; have := @dgl_len s; have := @dgl_len o; have := @dgl_len w; have := @dgl_len k; have := @dgl_len (t - 1); have := @dgl_len u; omega) (fun D120 l120 q120 => ?_)
    have e120 : FrL D D120 := FrL.tr (by first | exact e114) q120
    refine w_ald0 i178_123 ?_
    refine w_ald0 i178_124 ?_
    refine w_gfR i178_125 (by decide) s_171 rfl ?_
    refine w_ild1 i178_128 ?_
    refine w_const i178_129 kc_4 ?_
    refine w_sI2 i178_130 c115 rfl  rfl ⟨rfl, Nat.le_of_ble_eq_true rfl⟩ T_in ?_
    refine w_ial i178_133 s_172 (by decide) (by omega) ((FrL.v (by first | exact e120)).trans hu) ?_
    refine w_vG2 i178_134 c166 (Or.inl rfl) ⟨by decide +kernel, by decide⟩ rfl ⟨rfl, Nat.le_of_ble_eq_true rfl⟩ ?_
    refine T_wn (by first | exact l120) (by omega) (by simp only [List.length_append, List.length_cons, List.length_nil]; have := @dgl_len s; have := @dgl_len o; have := @dgl_len w; have := @dgl_len k; have := @dgl_len (t - 1); have := @dgl_len u; omega) (fun D134 l134 q134 => ?_)
    have e134 : FrL D D134 := FrL.tr (by first | exact e120) q134
    refine w_ald0 i178_137 ?_
    refine w_gfR i178_138 (by decide) s_171 rfl ?_
    refine w_ild1 i178_141 ?_
    refine w_bip i178_142 kb_6 ?_
    refine w_sI2 i178_144 c115 rfl  rfl ⟨rfl, Nat.le_of_ble_eq_true rfl⟩ T_in ?_
    refine w_ial i178_147 s_172 (by decide) (by omega) ((FrL.v (by first | exact e134 | exact e79)).trans hb) ?_
    refine w_ileN i178_148 g178_148 (by omega) (fun h148 => ?_) (fun h148 => ?_)
    · skip
      refine w_ald0 i178_171 ?_
      refine w_gfI i178_172 (by decide) s_171 rfl (LSt_1 (by first | exact l168 | exact l134 | exact l79)) ?_
      refine w_ri i178_175 r178 ?_
      unfold tlS tlD tlC at hq
      unfold tlB at hq
      first
        | (rw [if_pos (show b = 0 by omega), if_pos (show t = 0 by omega)] at hq; exact hq _ l79 e79)
        | (rw [if_pos (show b = 0 by omega), if_neg (show ¬ t = 0 by omega)] at hq; exact hq _ l134 e134)
        | (rw [if_neg (show ¬ b = 0 by omega), if_pos (show t = 0 by omega)] at hq; exact hq _ l168 e168)
        | (rw [if_neg (show ¬ b = 0 by omega), if_neg (show ¬ t = 0 by omega)] at hq; exact hq _ l168 e168)
    · skip
      refine w_ald0 i178_151 ?_
      refine w_bip i178_152 kb_33 ?_
      refine w_vG2 i178_154 c165 (Or.inl rfl) ⟨by decide +kernel, by decide⟩ rfl ⟨rfl, Nat.le_of_ble_eq_true rfl⟩ ?_
      refine T_writes (by first | exact l134 | exact l79) (by simp only [List.length_append, List.length_cons, List.length_nil]; have := @dgl_len s; have := @dgl_len o; have := @dgl_len w; have := @dgl_len k; have := @dgl_len (t - 1); have := @dgl_len u; omega) (fun D154 l154 q154 => ?_)
      have e154 : FrL D D154 := FrL.tr (by first | exact e134 | exact e79) q154
      refine w_ald0 i178_157 ?_
      refine w_ald0 i178_158 ?_
      refine w_gfR i178_159 (by decide) s_171 rfl ?_
      refine w_ild1 i178_162 ?_
      refine w_const i178_163 kc_5 ?_
      refine w_sI2 i178_164 c115 rfl  rfl ⟨rfl, Nat.le_of_ble_eq_true rfl⟩ T_in ?_
      refine w_ial i178_167 s_172 (by decide) (by omega) ((FrL.v (by first | exact e154)).trans hz) ?_
      refine w_vG2 i178_168 c166 (Or.inl rfl) ⟨by decide +kernel, by decide⟩ rfl ⟨rfl, Nat.le_of_ble_eq_true rfl⟩ ?_
      refine T_wn (by first | exact l154) (by omega) (by simp only [List.length_append, List.length_cons, List.length_nil]; have := @dgl_len s; have := @dgl_len o; have := @dgl_len w; have := @dgl_len k; have := @dgl_len (t - 1); have := @dgl_len u; omega) (fun D168 l168 q168 => ?_)
      have e168 : FrL D D168 := FrL.tr (by first | exact e154) q168
      refine w_ald0 i178_171 ?_
      refine w_gfI i178_172 (by decide) s_171 rfl (LSt_1 (by first | exact l168 | exact l134 | exact l79)) ?_
      refine w_ri i178_175 r178 ?_
      unfold tlS tlD tlC at hq
      unfold tlB at hq
      first
        | (rw [if_pos (show b = 0 by omega), if_pos (show t = 0 by omega)] at hq; exact hq _ l79 e79)
        | (rw [if_pos (show b = 0 by omega), if_neg (show ¬ t = 0 by omega)] at hq; exact hq _ l134 e134)
        | (rw [if_neg (show ¬ b = 0 by omega), if_pos (show t = 0 by omega)] at hq; exact hq _ l168 e168)
        | (rw [if_neg (show ¬ b = 0 by omega), if_neg (show ¬ t = 0 by omega)] at hq; exact hq _ l168 e168)
def thS (o s p : Nat) : List Nat := if o ≠ 1 then [120] else dgl s ++ (if p = 0 then [] else [43] ++ dgl p)
def thL (O S P : Nat → Nat) : Nat → List Nat
  | 0 => []
  | h + 1 => thL O S P h ++ (if h = 0 then [] else [32]) ++ thS (O h) (S h) (P h)
theorem thS_len {o s p : Nat} : (thS o s p).length ≤ 11 := by
  unfold thS
  split
  · exact (by decide : 1 ≤ 11)
  · rw [List.length_append]
    have h1 := @dgl_len s
    have h2 := @dgl_len p
    split
    · simp only [List.length_nil]; omega
    · simp only [List.length_append, List.length_cons, List.length_nil]; omega
theorem thL_len {O S P : Nat → Nat} : ∀ h, (thL O S P h).length ≤ 12 * h := by
  intro h
  induction h with
  | zero => exact Nat.le_refl _
  | succ h ih =>
    rw [thL, List.length_append, List.length_append]
    have h1 := @thS_len (O h) (S h) (P h)
    split
    · simp only [List.length_nil]; omega
    · simp only [List.length_cons, List.length_nil]; omega
theorem hOx {D D2 : Mm} {i o : Nat} (e : FrL D D2) (z : vOpen (D2 172) i) (h : D 172 (6 + 4 * i + 0) = nI o ∧ o < 2) : o = 1 := by
  unfold vOpen at z
  rw [FrL.v e, h.1] at z
  exact (nI_inj (by omega) (by omega) z).symm
theorem hOy {D D2 : Mm} {i o : Nat} (e : FrL D D2) (z : ¬ o ≠ 1) (h : D 172 (6 + 4 * i + 0) = nI o ∧ o < 2) : vOpen (D2 172) i := by
  unfold vOpen
  rw [FrL.v e, h.1, show o = 1 by omega]
set_option maxHeartbeats 100000 in
theorem P_tellH {d : Nat} {D : Mm} {Q : Option Value → Mm → Prop} {O S P : Nat → Nat} (hO : ∀ h, h < 6 → D 172 (6 + 4 * h + 0) = nI (O h) ∧ O h < 2) (hS : ∀ h, h < 6 → D 172 (6 + 4 * h + 2) = nI (S h) ∧ S h < 100000) (hP : ∀ h, h < 6 → D 172 (6 + 4 * h + 3) = nI (P h) ∧ P h < 100000) (hq : ∀ D2, LSt D2 (thL O S P 6) → FrL D D2 → Q (some (.int (nI (thL O S P 6).length))) D2) : Ct (d + 6) 179 [.ref 171] D Q := by
  refine ent m179 rfl rfl (ls := [.ref 171, .retAddr 0]) rfl ?_
  refine w_ald0 i179_0 ?_
  refine w_const i179_1 kc_0 ?_
  refine w_pf0 i179_2 (by decide) s_171 rfl ?_
  refine w_const i179_5 kc_0 ?_
  refine w_ist1 i179_6 ?_
  have L7 : ∀ k i D1, i + k = 6 → LSt D1 (thL O S P i) → FrL D D1 → Wp (d + 5) 179 Q 7 [.ref 171, .int (nI i)] [] D1 := by
    intro k
    induction k with
    | zero =>
      intro i D0 hk l0 e0
      have i6 : i = 6 := by omega
      subst i6
      skip
      refine w_ild1 i179_7 ?_
      refine w_bip i179_8 kb_6 ?_
      refine w_cgeNT i179_10 g179_10 (by omega) (by omega) (by omega) ?_
      refine w_ald0 i179_96 ?_
      refine w_gfI i179_97 (by decide) s_171 rfl (LSt_1 l0) ?_
      refine w_ri i179_100 r179 ?_
      exact hq _ l0 e0
    | succ k ih =>
      intro i D0 hk l0 e0
      have hi : i < 6 := by omega
      replace ih := fun D1 => ih (i + 1) D1 (by omega)
      skip
      refine w_ild1 i179_7 ?_
      refine w_bip i179_8 kb_6 ?_
      refine w_cgeNF i179_10 (by omega) (by omega) (by omega) ?_
      refine w_ild1 i179_13 ?_
      refine w_ileN i179_14 g179_14 (by omega) (fun h14 => ?_) (fun h14 => ?_)
      · skip
        refine w_ald0 i179_23 ?_
        refine w_ild1 i179_24 ?_
        have hI := hO i hi
        have hSS := hS i hi
        have hPP := hP i hi
        by_cases hO1 : O i ≠ 1
        · skip
          refine w_vI2 i179_25 c118 (Or.inl rfl) ⟨by decide +kernel, by decide⟩ rfl ⟨rfl, Nat.le_of_ble_eq_true rfl⟩ (T_isOpen_f hi (fun z => hO1 (hOx (by first | exact e20 | exact e0) z hI))) ?_
          refine w_ineNF i179_28 (by omega) (by omega) ?_
          refine w_ald0 i179_31 ?_
          refine w_bip i179_32 kb_120 ?_
          refine w_vG2 i179_34 c165 (Or.inl rfl) ⟨by decide +kernel, by decide⟩ rfl ⟨rfl, Nat.le_of_ble_eq_true rfl⟩ ?_
          refine T_writes (by first | exact l20 | exact l0) (by (try simp only [List.length_append, List.length_cons, List.length_nil]); have := @thL_len O S P i; have := @dgl_len (S i); have := @dgl_len (P i); omega) (fun D34 l34 q34 => ?_)
          have e34 : FrL D D34 := FrL.tr (by first | exact e20 | exact e0) q34
          refine w_goto i179_37 g179_37 ?_
          refine w_inc1 i179_90 (inc1 _) ?_
          refine w_goto i179_93 g179_93 ?_
          first
            | (refine ih D34 ?_ e34; rw [thL]; unfold thS; rw [if_pos (show i = 0 by omega), if_pos hO1]; first | exact l34 | (rw [List.append_nil]; exact l34) | (rw [List.nil_append]; exact l34) | (simpa only [List.append_assoc, List.append_nil, List.nil_append] using l34))
            | (refine ih D51 ?_ e51; rw [thL]; unfold thS; rw [if_pos (show i = 0 by omega), if_neg hO1, if_pos (show P i = 0 by omega)]; simpa only [List.append_assoc, List.append_nil, List.nil_append] using l51)
            | (refine ih D87 ?_ e87; rw [thL]; unfold thS; rw [if_pos (show i = 0 by omega), if_neg hO1, if_neg (show ¬ P i = 0 by omega)]; simpa only [List.append_assoc, List.append_nil, List.nil_append] using l87)
            | (refine ih D34 ?_ e34; rw [thL]; unfold thS; rw [if_neg (show ¬ i = 0 by omega), if_pos hO1]; first | exact l34 | (rw [List.append_nil]; exact l34) | (rw [List.nil_append]; exact l34) | (simpa only [List.append_assoc, List.append_nil, List.nil_append] using l34))
            | (refine ih D51 ?_ e51; rw [thL]; unfold thS; rw [if_neg (show ¬ i = 0 by omega), if_neg hO1, if_pos (show P i = 0 by omega)]; simpa only [List.append_assoc, List.append_nil, List.nil_append] using l51)
            | (refine ih D87 ?_ e87; rw [thL]; unfold thS; rw [if_neg (show ¬ i = 0 by omega), if_neg hO1, if_neg (show ¬ P i = 0 by omega)]; simpa only [List.append_assoc, List.append_nil, List.nil_append] using l87)
        · skip
          refine w_vI2 i179_25 c118 (Or.inl rfl) ⟨by decide +kernel, by decide⟩ rfl ⟨rfl, Nat.le_of_ble_eq_true rfl⟩ (T_isOpen_t hi (hOy (by first | exact e20 | exact e0) hO1 hI)) ?_
          refine w_ineNT i179_28 g179_28 (by omega) (by omega) ?_
          refine w_ald0 i179_40 ?_
          refine w_ald0 i179_41 ?_
          refine w_gfR i179_42 (by decide) s_171 rfl ?_
          refine w_ild1 i179_45 ?_
          refine w_const i179_46 kc_2 ?_
          refine w_sI2 i179_47 c114 rfl  rfl ⟨rfl, Nat.le_of_ble_eq_true rfl⟩ T_at ?_
          refine w_ial i179_50 s_172 (by decide) (by omega) ((FrL.v (by first | exact e20 | exact e0)).trans (hS i hi).1) ?_
          refine w_vG2 i179_51 c166 (Or.inl rfl) ⟨by decide +kernel, by decide⟩ rfl ⟨rfl, Nat.le_of_ble_eq_true rfl⟩ ?_
          refine T_wn (by first | exact l20 | exact l0) (by omega) (by (try simp only [List.length_append, List.length_cons, List.length_nil]); have := @thL_len O S P i; have := @dgl_len (S i); have := @dgl_len (P i); omega) (fun D51 l51 q51 => ?_)
          have e51 : FrL D D51 := FrL.tr (by first | exact e20 | exact e0) q51
          refine w_ald0 i179_54 ?_
          refine w_gfR i179_55 (by decide) s_171 rfl ?_
          refine w_ild1 i179_58 ?_
          refine w_const i179_59 kc_3 ?_
          refine w_sI2 i179_60 c114 rfl  rfl ⟨rfl, Nat.le_of_ble_eq_true rfl⟩ T_at ?_
          refine w_ial i179_63 s_172 (by decide) (by omega) ((FrL.v e51).trans (hP i hi).1) ?_
          refine w_ineN i179_64 g179_64 (by omega) (fun h64 => ?_) (fun h64 => ?_)
          · skip
            refine w_ald0 i179_70 ?_
            refine w_bip i179_71 kb_43 ?_
            refine w_vG2 i179_73 c165 (Or.inl rfl) ⟨by decide +kernel, by decide⟩ rfl ⟨rfl, Nat.le_of_ble_eq_true rfl⟩ ?_
            refine T_writes (by first | exact l51) (by (try simp only [List.length_append, List.length_cons, List.length_nil]); have := @thL_len O S P i; have := @dgl_len (S i); have := @dgl_len (P i); omega) (fun D73 l73 q73 => ?_)
            have e73 : FrL D D73 := FrL.tr (by first | exact e51) q73
            refine w_ald0 i179_76 ?_
            refine w_ald0 i179_77 ?_
            refine w_gfR i179_78 (by decide) s_171 rfl ?_
            refine w_ild1 i179_81 ?_
            refine w_const i179_82 kc_3 ?_
            refine w_sI2 i179_83 c114 rfl  rfl ⟨rfl, Nat.le_of_ble_eq_true rfl⟩ T_at ?_
            refine w_ial i179_86 s_172 (by decide) (by omega) ((FrL.v e73).trans (hP i hi).1) ?_
            refine w_vG2 i179_87 c166 (Or.inl rfl) ⟨by decide +kernel, by decide⟩ rfl ⟨rfl, Nat.le_of_ble_eq_true rfl⟩ ?_
            refine T_wn (by first | exact l73) (by omega) (by (try simp only [List.length_append, List.length_cons, List.length_nil]); have := @thL_len O S P i; have := @dgl_len (S i); have := @dgl_len (P i); omega) (fun D87 l87 q87 => ?_)
            have e87 : FrL D D87 := FrL.tr (by first | exact e73) q87
            refine w_inc1 i179_90 (inc1 _) ?_
            refine w_goto i179_93 g179_93 ?_
            first
              | (refine ih D34 ?_ e34; rw [thL]; unfold thS; rw [if_pos (show i = 0 by omega), if_pos hO1]; first | exact l34 | (rw [List.append_nil]; exact l34) | (rw [List.nil_append]; exact l34) | (simpa only [List.append_assoc, List.append_nil, List.nil_append] using l34))
              | (refine ih D51 ?_ e51; rw [thL]; unfold thS; rw [if_pos (show i = 0 by omega), if_neg hO1, if_pos (show P i = 0 by omega)]; simpa only [List.append_assoc, List.append_nil, List.nil_append] using l51)
              | (refine ih D87 ?_ e87; rw [thL]; unfold thS; rw [if_pos (show i = 0 by omega), if_neg hO1, if_neg (show ¬ P i = 0 by omega)]; simpa only [List.append_assoc, List.append_nil, List.nil_append] using l87)
              | (refine ih D34 ?_ e34; rw [thL]; unfold thS; rw [if_neg (show ¬ i = 0 by omega), if_pos hO1]; first | exact l34 | (rw [List.append_nil]; exact l34) | (rw [List.nil_append]; exact l34) | (simpa only [List.append_assoc, List.append_nil, List.nil_append] using l34))
              | (refine ih D51 ?_ e51; rw [thL]; unfold thS; rw [if_neg (show ¬ i = 0 by omega), if_neg hO1, if_pos (show P i = 0 by omega)]; simpa only [List.append_assoc, List.append_nil, List.nil_append] using l51)
              | (refine ih D87 ?_ e87; rw [thL]; unfold thS; rw [if_neg (show ¬ i = 0 by omega), if_neg hO1, if_neg (show ¬ P i = 0 by omega)]; simpa only [List.append_assoc, List.append_nil, List.nil_append] using l87)
          · skip
            refine w_goto i179_67 g179_67 ?_
            refine w_inc1 i179_90 (inc1 _) ?_
            refine w_goto i179_93 g179_93 ?_
            first
              | (refine ih D34 ?_ e34; rw [thL]; unfold thS; rw [if_pos (show i = 0 by omega), if_pos hO1]; first | exact l34 | (rw [List.append_nil]; exact l34) | (rw [List.nil_append]; exact l34) | (simpa only [List.append_assoc, List.append_nil, List.nil_append] using l34))
              | (refine ih D51 ?_ e51; rw [thL]; unfold thS; rw [if_pos (show i = 0 by omega), if_neg hO1, if_pos (show P i = 0 by omega)]; simpa only [List.append_assoc, List.append_nil, List.nil_append] using l51)
              | (refine ih D87 ?_ e87; rw [thL]; unfold thS; rw [if_pos (show i = 0 by omega), if_neg hO1, if_neg (show ¬ P i = 0 by omega)]; simpa only [List.append_assoc, List.append_nil, List.nil_append] using l87)
              | (refine ih D34 ?_ e34; rw [thL]; unfold thS; rw [if_neg (show ¬ i = 0 by omega), if_pos hO1]; first | exact l34 | (rw [List.append_nil]; exact l34) | (rw [List.nil_append]; exact l34) | (simpa only [List.append_assoc, List.append_nil, List.nil_append] using l34))
              | (refine ih D51 ?_ e51; rw [thL]; unfold thS; rw [if_neg (show ¬ i = 0 by omega), if_neg hO1, if_pos (show P i = 0 by omega)]; simpa only [List.append_assoc, List.append_nil, List.nil_append] using l51)
              | (refine ih D87 ?_ e87; rw [thL]; unfold thS; rw [if_neg (show ¬ i = 0 by omega), if_neg hO1, if_neg (show ¬ P i = 0 by omega)]; simpa only [List.append_assoc, List.append_nil, List.nil_append] using l87)
      · skip
        refine w_ald0 i179_17 ?_
        refine w_bip i179_18 kb_32 ?_
        refine w_vG2 i179_20 c165 (Or.inl rfl) ⟨by decide +kernel, by decide⟩ rfl ⟨rfl, Nat.le_of_ble_eq_true rfl⟩ ?_
        refine T_writes (by first | exact l0) (by (try simp only [List.length_append, List.length_cons, List.length_nil]); have := @thL_len O S P i; have := @dgl_len (S i); have := @dgl_len (P i); omega) (fun D20 l20 q20 => ?_)
        have e20 : FrL D D20 := FrL.tr (by first | exact e0) q20
        refine w_ald0 i179_23 ?_
        refine w_ild1 i179_24 ?_
        have hI := hO i hi
        have hSS := hS i hi
        have hPP := hP i hi
        by_cases hO1 : O i ≠ 1
        · skip
          refine w_vI2 i179_25 c118 (Or.inl rfl) ⟨by decide +kernel, by decide⟩ rfl ⟨rfl, Nat.le_of_ble_eq_true rfl⟩ (T_isOpen_f hi (fun z => hO1 (hOx (by first | exact e20 | exact e0) z hI))) ?_
          refine w_ineNF i179_28 (by omega) (by omega) ?_
          refine w_ald0 i179_31 ?_
          refine w_bip i179_32 kb_120 ?_
          refine w_vG2 i179_34 c165 (Or.inl rfl) ⟨by decide +kernel, by decide⟩ rfl ⟨rfl, Nat.le_of_ble_eq_true rfl⟩ ?_
          refine T_writes (by first | exact l20 | exact l0) (by (try simp only [List.length_append, List.length_cons, List.length_nil]); have := @thL_len O S P i; have := @dgl_len (S i); have := @dgl_len (P i); omega) (fun D34 l34 q34 => ?_)
          have e34 : FrL D D34 := FrL.tr (by first | exact e20 | exact e0) q34
          refine w_goto i179_37 g179_37 ?_
          refine w_inc1 i179_90 (inc1 _) ?_
          refine w_goto i179_93 g179_93 ?_
          first
            | (refine ih D34 ?_ e34; rw [thL]; unfold thS; rw [if_pos (show i = 0 by omega), if_pos hO1]; first | exact l34 | (rw [List.append_nil]; exact l34) | (rw [List.nil_append]; exact l34) | (simpa only [List.append_assoc, List.append_nil, List.nil_append] using l34))
            | (refine ih D51 ?_ e51; rw [thL]; unfold thS; rw [if_pos (show i = 0 by omega), if_neg hO1, if_pos (show P i = 0 by omega)]; simpa only [List.append_assoc, List.append_nil, List.nil_append] using l51)
            | (refine ih D87 ?_ e87; rw [thL]; unfold thS; rw [if_pos (show i = 0 by omega), if_neg hO1, if_neg (show ¬ P i = 0 by omega)]; simpa only [List.append_assoc, List.append_nil, List.nil_append] using l87)
            | (refine ih D34 ?_ e34; rw [thL]; unfold thS; rw [if_neg (show ¬ i = 0 by omega), if_pos hO1]; first | exact l34 | (rw [List.append_nil]; exact l34) | (rw [List.nil_append]; exact l34) | (simpa only [List.append_assoc, List.append_nil, List.nil_append] using l34))
            | (refine ih D51 ?_ e51; rw [thL]; unfold thS; rw [if_neg (show ¬ i = 0 by omega), if_neg hO1, if_pos (show P i = 0 by omega)]; simpa only [List.append_assoc, List.append_nil, List.nil_append] using l51)
            | (refine ih D87 ?_ e87; rw [thL]; unfold thS; rw [if_neg (show ¬ i = 0 by omega), if_neg hO1, if_neg (show ¬ P i = 0 by omega)]; simpa only [List.append_assoc, List.append_nil, List.nil_append] using l87)
        · skip
          refine w_vI2 i179_25 c118 (Or.inl rfl) ⟨by decide +kernel, by decide⟩ rfl ⟨rfl, Nat.le_of_ble_eq_true rfl⟩ (T_isOpen_t hi (hOy (by first | exact e20 | exact e0) hO1 hI)) ?_
          refine w_ineNT i179_28 g179_28 (by omega) (by omega) ?_
          refine w_ald0 i179_40 ?_
          refine w_ald0 i179_41 ?_
          refine w_gfR i179_42 (by decide) s_171 rfl ?_
          refine w_ild1 i179_45 ?_
          refine w_const i179_46 kc_2 ?_
          refine w_sI2 i179_47 c114 rfl  rfl ⟨rfl, Nat.le_of_ble_eq_true rfl⟩ T_at ?_
          refine w_ial i179_50 s_172 (by decide) (by omega) ((FrL.v (by first | exact e20 | exact e0)).trans (hS i hi).1) ?_
          refine w_vG2 i179_51 c166 (Or.inl rfl) ⟨by decide +kernel, by decide⟩ rfl ⟨rfl, Nat.le_of_ble_eq_true rfl⟩ ?_
          refine T_wn (by first | exact l20 | exact l0) (by omega) (by (try simp only [List.length_append, List.length_cons, List.length_nil]); have := @thL_len O S P i; have := @dgl_len (S i); have := @dgl_len (P i); omega) (fun D51 l51 q51 => ?_)
          have e51 : FrL D D51 := FrL.tr (by first | exact e20 | exact e0) q51
          refine w_ald0 i179_54 ?_
          refine w_gfR i179_55 (by decide) s_171 rfl ?_
          refine w_ild1 i179_58 ?_
          refine w_const i179_59 kc_3 ?_
          refine w_sI2 i179_60 c114 rfl  rfl ⟨rfl, Nat.le_of_ble_eq_true rfl⟩ T_at ?_
          refine w_ial i179_63 s_172 (by decide) (by omega) ((FrL.v e51).trans (hP i hi).1) ?_
          refine w_ineN i179_64 g179_64 (by omega) (fun h64 => ?_) (fun h64 => ?_)
          · skip
            refine w_ald0 i179_70 ?_
            refine w_bip i179_71 kb_43 ?_
            refine w_vG2 i179_73 c165 (Or.inl rfl) ⟨by decide +kernel, by decide⟩ rfl ⟨rfl, Nat.le_of_ble_eq_true rfl⟩ ?_
            refine T_writes (by first | exact l51) (by (try simp only [List.length_append, List.length_cons, List.length_nil]); have := @thL_len O S P i; have := @dgl_len (S i); have := @dgl_len (P i); omega) (fun D73 l73 q73 => ?_)
            have e73 : FrL D D73 := FrL.tr (by first | exact e51) q73
            refine w_ald0 i179_76 ?_
            refine w_ald0 i179_77 ?_
            refine w_gfR i179_78 (by decide) s_171 rfl ?_
            refine w_ild1 i179_81 ?_
            refine w_const i179_82 kc_3 ?_
            refine w_sI2 i179_83 c114 rfl  rfl ⟨rfl, Nat.le_of_ble_eq_true rfl⟩ T_at ?_
            refine w_ial i179_86 s_172 (by decide) (by omega) ((FrL.v e73).trans (hP i hi).1) ?_
            refine w_vG2 i179_87 c166 (Or.inl rfl) ⟨by decide +kernel, by decide⟩ rfl ⟨rfl, Nat.le_of_ble_eq_true rfl⟩ ?_
            refine T_wn (by first | exact l73) (by omega) (by (try simp only [List.length_append, List.length_cons, List.length_nil]); have := @thL_len O S P i; have := @dgl_len (S i); have := @dgl_len (P i); omega) (fun D87 l87 q87 => ?_)
            have e87 : FrL D D87 := FrL.tr (by first | exact e73) q87
            refine w_inc1 i179_90 (inc1 _) ?_
            refine w_goto i179_93 g179_93 ?_
            first
              | (refine ih D34 ?_ e34; rw [thL]; unfold thS; rw [if_pos (show i = 0 by omega), if_pos hO1]; first | exact l34 | (rw [List.append_nil]; exact l34) | (rw [List.nil_append]; exact l34) | (simpa only [List.append_assoc, List.append_nil, List.nil_append] using l34))
              | (refine ih D51 ?_ e51; rw [thL]; unfold thS; rw [if_pos (show i = 0 by omega), if_neg hO1, if_pos (show P i = 0 by omega)]; simpa only [List.append_assoc, List.append_nil, List.nil_append] using l51)
              | (refine ih D87 ?_ e87; rw [thL]; unfold thS; rw [if_pos (show i = 0 by omega), if_neg hO1, if_neg (show ¬ P i = 0 by omega)]; simpa only [List.append_assoc, List.append_nil, List.nil_append] using l87)
              | (refine ih D34 ?_ e34; rw [thL]; unfold thS; rw [if_neg (show ¬ i = 0 by omega), if_pos hO1]; first | exact l34 | (rw [List.append_nil]; exact l34) | (rw [List.nil_append]; exact l34) | (simpa only [List.append_assoc, List.append_nil, List.nil_append] using l34))
              | (refine ih D51 ?_ e51; rw [thL]; unfold thS; rw [if_neg (show ¬ i = 0 by omega), if_neg hO1, if_pos (show P i = 0 by omega)]; simpa only [List.append_assoc, List.append_nil, List.nil_append] using l51)
              | (refine ih D87 ?_ e87; rw [thL]; unfold thS; rw [if_neg (show ¬ i = 0 by omega), if_neg hO1, if_neg (show ¬ P i = 0 by omega)]; simpa only [List.append_assoc, List.append_nil, List.nil_append] using l87)
          · skip
            refine w_goto i179_67 g179_67 ?_
            refine w_inc1 i179_90 (inc1 _) ?_
            refine w_goto i179_93 g179_93 ?_
            first
              | (refine ih D34 ?_ e34; rw [thL]; unfold thS; rw [if_pos (show i = 0 by omega), if_pos hO1]; first | exact l34 | (rw [List.append_nil]; exact l34) | (rw [List.nil_append]; exact l34) | (simpa only [List.append_assoc, List.append_nil, List.nil_append] using l34))
              | (refine ih D51 ?_ e51; rw [thL]; unfold thS; rw [if_pos (show i = 0 by omega), if_neg hO1, if_pos (show P i = 0 by omega)]; simpa only [List.append_assoc, List.append_nil, List.nil_append] using l51)
              | (refine ih D87 ?_ e87; rw [thL]; unfold thS; rw [if_pos (show i = 0 by omega), if_neg hO1, if_neg (show ¬ P i = 0 by omega)]; simpa only [List.append_assoc, List.append_nil, List.nil_append] using l87)
              | (refine ih D34 ?_ e34; rw [thL]; unfold thS; rw [if_neg (show ¬ i = 0 by omega), if_pos hO1]; first | exact l34 | (rw [List.append_nil]; exact l34) | (rw [List.nil_append]; exact l34) | (simpa only [List.append_assoc, List.append_nil, List.nil_append] using l34))
              | (refine ih D51 ?_ e51; rw [thL]; unfold thS; rw [if_neg (show ¬ i = 0 by omega), if_neg hO1, if_pos (show P i = 0 by omega)]; simpa only [List.append_assoc, List.append_nil, List.nil_append] using l51)
              | (refine ih D87 ?_ e87; rw [thL]; unfold thS; rw [if_neg (show ¬ i = 0 by omega), if_neg hO1, if_neg (show ¬ P i = 0 by omega)]; simpa only [List.append_assoc, List.append_nil, List.nil_append] using l87)
  exact L7 6 0 _ rfl LSt0 FrL0
