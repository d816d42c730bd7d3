/-! the reference, accounts, undo and the snapshot -/
theorem cpy_r0 {D : Mm} {a b L : Nat} {h : 0 < L} : cpy D a b (L) a 0 = D b 0 := by unfold cpy; rw [if_pos rfl, if_pos h]
set_option maxHeartbeats 100000 in
theorem P_char_bad {d : Nat} {D : Mm} {a : Int32} {L : Nat} (hL : D 171 22 = nI L) (hb : badR a (nI 0) (nI L - nI 1)) : Ct (d + 6) 180 [.ref 171, .int a] D (Ex (some (.int (-1011))) D) := by
  refine ent m180 rfl rfl (ls := [.ref 171, .int a]) rfl ?_
  refine w_ild1 i180_0 ?_
  refine w_const i180_1 kc_0 ?_
  refine w_ald0 i180_2 ?_
  refine w_gfI i180_3 (by decide) s_171 rfl hL ?_
  refine w_const i180_6 kc_1 ?_
  refine w_isub i180_7 rfl ?_
  refine w_sI3 i180_8 c110 rfl  rfl ⟨rfl, Nat.le_of_ble_eq_true rfl⟩ (T_isIn_f hb) ?_
  refine w_ieqNT i180_11 g180_11 (by omega) (by omega) ?_
  refine w_sip i180_23 ks_m1011 ?_
  refine w_ri i180_26 r180 ?_
  exact ⟨rfl, rfl⟩
set_option maxHeartbeats 100000 in
theorem P_char {d : Nat} {D : Mm} {i L : Nat} (hL : D 171 22 = nI L) (h140 : L ≤ 140) (hi : i < L) : Ct (d + 6) 180 [.ref 171, .int (nI i)] D (Ex (some (.int (D 180 i))) D) := by
  refine ent m180 rfl rfl (ls := [.ref 171, .int (nI i)]) rfl ?_
  refine w_ild1 i180_0 ?_
  refine w_const i180_1 kc_0 ?_
  refine w_ald0 i180_2 ?_
  refine w_gfI i180_3 (by decide) s_171 rfl hL ?_
  refine w_const i180_6 kc_1 ?_
  refine w_isub i180_7 (nI_sub (by omega)) ?_
  refine w_sI3 i180_8 c110 rfl  rfl ⟨rfl, Nat.le_of_ble_eq_true rfl⟩ (T_isIn_t (nI_inR (by omega) (by omega) (by omega))) ?_
  refine w_ieqNF i180_11 (by omega) (by omega) ?_
  refine w_ald0 i180_14 ?_
  refine w_gfR i180_15 (by decide) s_171 rfl ?_
  refine w_ild1 i180_18 ?_
  refine w_ial i180_19 s_180 (by decide) (by omega) rfl ?_
  refine w_goto i180_20 g180_20 ?_
  refine w_ri i180_26 r180 ?_
  exact ⟨rfl, rfl⟩
set_option maxHeartbeats 100000 in
theorem P_reason_bad {d : Nat} {D : Mm} {a z : Int32} (hb : badR a (nI 0) (nI 2)) : Ct (d + 6) 181 [.ref 171, .int a, .int z] D (Ex (some (.int (-1012))) D) := by
  refine ent m181 rfl rfl (ls := [.ref 171, .int a, .int z, .retAddr 0]) rfl ?_
  refine w_ild1 i181_0 ?_
  refine w_const i181_1 kc_0 ?_
  refine w_const i181_2 kc_2 ?_
  refine w_sI3 i181_3 c110 rfl  rfl ⟨rfl, Nat.le_of_ble_eq_true rfl⟩ (T_isIn_f hb) ?_
  refine w_ineNF i181_6 (by omega) (by omega) ?_
  refine w_sip i181_9 ks_m1012 ?_
  refine w_ri i181_12 r181 ?_
  exact ⟨rfl, rfl⟩
set_option maxHeartbeats 100000 in
theorem P_reason0 {d : Nat} {D : Mm} {z : Int32} : Ct (d + 6) 181 [.ref 171, .int (nI 0), .int z] D (Ex (some (.int (ifp (D 171 2 = 0) (-1015) (ifp (z = 0) (D 171 2) (D 171 3))))) D) := by
  refine ent m181 rfl rfl (ls := [.ref 171, .int (nI 0), .int z, .retAddr 0]) rfl ?_
  refine w_ild1 i181_0 ?_
  refine w_const i181_1 kc_0 ?_
  refine w_const i181_2 kc_2 ?_
  refine w_sI3 i181_3 c110 rfl  rfl ⟨rfl, Nat.le_of_ble_eq_true rfl⟩ (T_isIn_t (nI_inR (by omega) (by omega) (by omega))) ?_
  refine w_ineNT i181_6 g181_6 (by omega) (by omega) ?_
  refine w_ild1 i181_13 ?_
  refine w_ineNF i181_14 (by omega) (by omega) ?_
  refine w_ald0 i181_17 ?_
  refine w_gfI i181_18 (by decide) s_171 rfl rfl ?_
  refine w_goto i181_21 g181_21 ?_
  refine w_ist3 i181_40 ?_
  refine w_ild3 i181_41 ?_
  refine w_ine i181_42 g181_42  (fun h42 => ?_) (fun h42 => ?_)
  · skip
    refine w_ild2 i181_49 ?_
    refine w_ine i181_50 g181_50  (fun h50 => ?_) (fun h50 => ?_)
    · skip
      refine w_ild1 i181_57 ?_
      refine w_ineNF i181_58 (by omega) (by omega) ?_
      refine w_ald0 i181_61 ?_
      refine w_gfI i181_62 (by decide) s_171 rfl rfl ?_
      refine w_goto i181_65 g181_65 ?_
      refine w_ri i181_84 r181 ?_
      first | (rw [ifp_t h42]; exact ⟨rfl, rfl⟩) | (rw [ifp_f h42, ifp_t h50]; exact ⟨rfl, rfl⟩) | (rw [ifp_f h42, ifp_f h50]; exact ⟨rfl, rfl⟩)
    · skip
      refine w_ild3 i181_53 ?_
      refine w_goto i181_54 g181_54 ?_
      refine w_ri i181_84 r181 ?_
      first | (rw [ifp_t h42]; exact ⟨rfl, rfl⟩) | (rw [ifp_f h42, ifp_t h50]; exact ⟨rfl, rfl⟩) | (rw [ifp_f h42, ifp_f h50]; exact ⟨rfl, rfl⟩)
  · skip
    refine w_sip i181_45 ks_m1015 ?_
    refine w_ri i181_48 r181 ?_
    first | (rw [ifp_t h42]; exact ⟨rfl, rfl⟩) | (rw [ifp_f h42, ifp_t h50]; exact ⟨rfl, rfl⟩) | (rw [ifp_f h42, ifp_f h50]; exact ⟨rfl, rfl⟩)
set_option maxHeartbeats 100000 in
theorem P_reason1 {d : Nat} {D : Mm} {z : Int32} : Ct (d + 6) 181 [.ref 171, .int (nI 1), .int z] D (Ex (some (.int (ifp (D 171 4 = 0) (-1015) (ifp (z = 0) (D 171 4) (D 171 5))))) D) := by
  refine ent m181 rfl rfl (ls := [.ref 171, .int (nI 1), .int z, .retAddr 0]) rfl ?_
  refine w_ild1 i181_0 ?_
  refine w_const i181_1 kc_0 ?_
  refine w_const i181_2 kc_2 ?_
  refine w_sI3 i181_3 c110 rfl  rfl ⟨rfl, Nat.le_of_ble_eq_true rfl⟩ (T_isIn_t (nI_inR (by omega) (by omega) (by omega))) ?_
  refine w_ineNT i181_6 g181_6 (by omega) (by omega) ?_
  refine w_ild1 i181_13 ?_
  refine w_ineNT i181_14 g181_14 (by omega) (by omega) ?_
  refine w_ild1 i181_24 ?_
  refine w_const i181_25 kc_1 ?_
  refine w_cneNF i181_26 (by omega) (by omega) (by omega) ?_
  refine w_ald0 i181_29 ?_
  refine w_gfI i181_30 (by decide) s_171 rfl rfl ?_
  refine w_goto i181_33 g181_33 ?_
  refine w_ist3 i181_40 ?_
  refine w_ild3 i181_41 ?_
  refine w_ine i181_42 g181_42  (fun h42 => ?_) (fun h42 => ?_)
  · skip
    refine w_ild2 i181_49 ?_
    refine w_ine i181_50 g181_50  (fun h50 => ?_) (fun h50 => ?_)
    · skip
      refine w_ild1 i181_57 ?_
      refine w_ineNT i181_58 g181_58 (by omega) (by omega) ?_
      refine w_ild1 i181_68 ?_
      refine w_const i181_69 kc_1 ?_
      refine w_cneNF i181_70 (by omega) (by omega) (by omega) ?_
      refine w_ald0 i181_73 ?_
      refine w_gfI i181_74 (by decide) s_171 rfl rfl ?_
      refine w_goto i181_77 g181_77 ?_
      refine w_ri i181_84 r181 ?_
      first | (rw [ifp_t h42]; exact ⟨rfl, rfl⟩) | (rw [ifp_f h42, ifp_t h50]; exact ⟨rfl, rfl⟩) | (rw [ifp_f h42, ifp_f h50]; exact ⟨rfl, rfl⟩)
    · skip
      refine w_ild3 i181_53 ?_
      refine w_goto i181_54 g181_54 ?_
      refine w_ri i181_84 r181 ?_
      first | (rw [ifp_t h42]; exact ⟨rfl, rfl⟩) | (rw [ifp_f h42, ifp_t h50]; exact ⟨rfl, rfl⟩) | (rw [ifp_f h42, ifp_f h50]; exact ⟨rfl, rfl⟩)
  · skip
    refine w_sip i181_45 ks_m1015 ?_
    refine w_ri i181_48 r181 ?_
    first | (rw [ifp_t h42]; exact ⟨rfl, rfl⟩) | (rw [ifp_f h42, ifp_t h50]; exact ⟨rfl, rfl⟩) | (rw [ifp_f h42, ifp_f h50]; exact ⟨rfl, rfl⟩)
set_option maxHeartbeats 100000 in
theorem P_reason2 {d : Nat} {D : Mm} {z : Int32} : Ct (d + 6) 181 [.ref 171, .int (nI 2), .int z] D (Ex (some (.int (ifp (D 171 6 = 0) (-1015) (ifp (z = 0) (D 171 6) (D 171 7))))) D) := by
  refine ent m181 rfl rfl (ls := [.ref 171, .int (nI 2), .int z, .retAddr 0]) rfl ?_
  refine w_ild1 i181_0 ?_
  refine w_const i181_1 kc_0 ?_
  refine w_const i181_2 kc_2 ?_
  refine w_sI3 i181_3 c110 rfl  rfl ⟨rfl, Nat.le_of_ble_eq_true rfl⟩ (T_isIn_t (nI_inR (by omega) (by omega) (by omega))) ?_
  refine w_ineNT i181_6 g181_6 (by omega) (by omega) ?_
  refine w_ild1 i181_13 ?_
  refine w_ineNT i181_14 g181_14 (by omega) (by omega) ?_
  refine w_ild1 i181_24 ?_
  refine w_const i181_25 kc_1 ?_
  refine w_cneNT i181_26 g181_26 (by omega) (by omega) (by omega) ?_
  refine w_ald0 i181_36 ?_
  refine w_gfI i181_37 (by decide) s_171 rfl rfl ?_
  refine w_ist3 i181_40 ?_
  refine w_ild3 i181_41 ?_
  refine w_ine i181_42 g181_42  (fun h42 => ?_) (fun h42 => ?_)
  · skip
    refine w_ild2 i181_49 ?_
    refine w_ine i181_50 g181_50  (fun h50 => ?_) (fun h50 => ?_)
    · skip
      refine w_ild1 i181_57 ?_
      refine w_ineNT i181_58 g181_58 (by omega) (by omega) ?_
      refine w_ild1 i181_68 ?_
      refine w_const i181_69 kc_1 ?_
      refine w_cneNT i181_70 g181_70 (by omega) (by omega) (by omega) ?_
      refine w_ald0 i181_80 ?_
      refine w_gfI i181_81 (by decide) s_171 rfl rfl ?_
      refine w_ri i181_84 r181 ?_
      first | (rw [ifp_t h42]; exact ⟨rfl, rfl⟩) | (rw [ifp_f h42, ifp_t h50]; exact ⟨rfl, rfl⟩) | (rw [ifp_f h42, ifp_f h50]; exact ⟨rfl, rfl⟩)
    · skip
      refine w_ild3 i181_53 ?_
      refine w_goto i181_54 g181_54 ?_
      refine w_ri i181_84 r181 ?_
      first | (rw [ifp_t h42]; exact ⟨rfl, rfl⟩) | (rw [ifp_f h42, ifp_t h50]; exact ⟨rfl, rfl⟩) | (rw [ifp_f h42, ifp_f h50]; exact ⟨rfl, rfl⟩)
  · skip
    refine w_sip i181_45 ks_m1015 ?_
    refine w_ri i181_48 r181 ?_
    first | (rw [ifp_t h42]; exact ⟨rfl, rfl⟩) | (rw [ifp_f h42, ifp_t h50]; exact ⟨rfl, rfl⟩) | (rw [ifp_f h42, ifp_f h50]; exact ⟨rfl, rfl⟩)
set_option maxHeartbeats 100000 in
theorem P_acc_bad {d : Nat} {D : Mm} {w : Int32} (hb : badR w (nI 0) (nI 13)) : Ct (d + 6) 184 [.ref 171, .int w] D (Ex (some (.int (-1012))) D) := by
  refine ent m184 rfl rfl (ls := [.ref 171, .int w]) rfl ?_
  refine w_ild1 i184_0 ?_
  refine w_ts (t := 138) i184_1 (ts_out (badR_i hb) (by decide)) ?_
  refine w_sip i184_138 ks_m1012 ?_
  refine w_ri i184_141 r184 ?_
  exact ⟨rfl, rfl⟩
set_option maxHeartbeats 100000 in
theorem P_acc0 {d : Nat} {D : Mm} {n : Nat} (hn : D 172 0 = nI n) (h12 : n ≤ 12) : Ct (d + 6) 184 [.ref 171, .int (nI 0)] D (Ex (some (.int (D 172 0))) D) := by
  refine ent m184 rfl rfl (ls := [.ref 171, .int (nI 0)]) rfl ?_
  refine w_ild1 i184_0 ?_
  refine w_ts (t := 72) i184_1 (by decide) ?_
  refine w_ald0 i184_72 ?_
  refine w_gfR i184_73 (by decide) s_171 rfl ?_
  refine w_const i184_76 kc_0 ?_
  refine w_ial i184_77 s_172 (by decide) (by omega) rfl ?_
  refine w_ri i184_78 r184 ?_
  exact ⟨rfl, rfl⟩
set_option maxHeartbeats 100000 in
theorem P_acc1 {d : Nat} {D : Mm} {n : Nat} (hn : D 172 0 = nI n) (h12 : n ≤ 12) : Ct (d + 6) 184 [.ref 171, .int (nI 1)] D (Ex (some (.int (mOpens (D 172)))) D) := by
  refine ent m184 rfl rfl (ls := [.ref 171, .int (nI 1)]) rfl ?_
  refine w_ild1 i184_0 ?_
  refine w_ts (t := 79) i184_1 (by decide) ?_
  refine w_ald0 i184_79 ?_
  refine w_vI1 i184_80 c119 (Or.inl rfl) ⟨by decide +kernel, by decide⟩ rfl ⟨rfl, Nat.le_of_ble_eq_true rfl⟩ T_opens ?_
  refine w_ri i184_83 r184 ?_
  exact ⟨rfl, rfl⟩
set_option maxHeartbeats 100000 in
theorem P_acc2 {d : Nat} {D : Mm} {n : Nat} (hn : D 172 0 = nI n) (h12 : n ≤ 12) : Ct (d + 6) 184 [.ref 171, .int (nI 2)] D (Ex (some (.int (mWrits n (D 172)))) D) := by
  refine ent m184 rfl rfl (ls := [.ref 171, .int (nI 2)]) rfl ?_
  refine w_ild1 i184_0 ?_
  refine w_ts (t := 84) i184_1 (by decide) ?_
  refine w_ald0 i184_84 ?_
  refine w_const i184_85 kc_m1 ?_
  refine w_vI2 i184_86 c123 (Or.inl rfl) ⟨by decide +kernel, by decide⟩ rfl ⟨rfl, Nat.le_of_ble_eq_true rfl⟩ (T_writs hn h12) ?_
  refine w_ri i184_89 r184 ?_
  exact ⟨rfl, rfl⟩
set_option maxHeartbeats 100000 in
theorem P_acc3 {d : Nat} {D : Mm} {n : Nat} (hn : D 172 0 = nI n) (h12 : n ≤ 12) : Ct (d + 6) 184 [.ref 171, .int (nI 3)] D (Ex (some (.int (mOfAll n (D 172) 1))) D) := by
  refine ent m184 rfl rfl (ls := [.ref 171, .int (nI 3)]) rfl ?_
  refine w_ild1 i184_0 ?_
  refine w_ts (t := 90) i184_1 (by decide) ?_
  refine w_ald0 i184_90 ?_
  refine w_const i184_91 kc_1 ?_
  refine w_vI2 i184_92 c182 (Or.inl rfl) ⟨by decide +kernel, by decide⟩ rfl ⟨rfl, Nat.le_of_ble_eq_true rfl⟩ (T_ofAll hn h12 (by omega)) ?_
  refine w_ri i184_95 r184 ?_
  exact ⟨rfl, rfl⟩
set_option maxHeartbeats 100000 in
theorem P_acc4 {d : Nat} {D : Mm} {n : Nat} (hn : D 172 0 = nI n) (h12 : n ≤ 12) : Ct (d + 6) 184 [.ref 171, .int (nI 4)] D (Ex (some (.int (mStores (D 172)))) D) := by
  refine ent m184 rfl rfl (ls := [.ref 171, .int (nI 4)]) rfl ?_
  refine w_ild1 i184_0 ?_
  refine w_ts (t := 96) i184_1 (by decide) ?_
  refine w_ald0 i184_96 ?_
  refine w_vI1 i184_97 c183 (Or.inl rfl) ⟨by decide +kernel, by decide⟩ rfl ⟨rfl, Nat.le_of_ble_eq_true rfl⟩ T_stores ?_
  refine w_ri i184_100 r184 ?_
  exact ⟨rfl, rfl⟩
set_option maxHeartbeats 100000 in
theorem P_acc5 {d : Nat} {D : Mm} {n : Nat} (hn : D 172 0 = nI n) (h12 : n ≤ 12) : Ct (d + 6) 184 [.ref 171, .int (nI 5)] D (Ex (some (.int (mPooled (D 172)))) D) := by
  refine ent m184 rfl rfl (ls := [.ref 171, .int (nI 5)]) rfl ?_
  refine w_ild1 i184_0 ?_
  refine w_ts (t := 101) i184_1 (by decide) ?_
  refine w_ald0 i184_101 ?_
  refine w_vI1 i184_102 c136 (Or.inl rfl) ⟨by decide +kernel, by decide⟩ rfl ⟨rfl, Nat.le_of_ble_eq_true rfl⟩ T_pooled ?_
  refine w_ri i184_105 r184 ?_
  exact ⟨rfl, rfl⟩
set_option maxHeartbeats 100000 in
theorem P_acc6 {d : Nat} {D : Mm} {n : Nat} (hn : D 172 0 = nI n) (h12 : n ≤ 12) : Ct (d + 6) 184 [.ref 171, .int (nI 6)] D (Ex (some (.int (D 172 1))) D) := by
  refine ent m184 rfl rfl (ls := [.ref 171, .int (nI 6)]) rfl ?_
  refine w_ild1 i184_0 ?_
  refine w_ts (t := 106) i184_1 (by decide) ?_
  refine w_ald0 i184_106 ?_
  refine w_gfR i184_107 (by decide) s_171 rfl ?_
  refine w_ild1 i184_110 ?_
  refine w_const i184_111 kc_5 ?_
  refine w_isub i184_112 (nI_sub (by omega)) ?_
  refine w_ial i184_113 s_172 (by decide) (by omega) rfl ?_
  refine w_ri i184_114 r184 ?_
  exact ⟨rfl, rfl⟩
set_option maxHeartbeats 100000 in
theorem P_acc7 {d : Nat} {D : Mm} {n : Nat} (hn : D 172 0 = nI n) (h12 : n ≤ 12) : Ct (d + 6) 184 [.ref 171, .int (nI 7)] D (Ex (some (.int (D 172 2))) D) := by
  refine ent m184 rfl rfl (ls := [.ref 171, .int (nI 7)]) rfl ?_
  refine w_ild1 i184_0 ?_
  refine w_ts (t := 106) i184_1 (by decide) ?_
  refine w_ald0 i184_106 ?_
  refine w_gfR i184_107 (by decide) s_171 rfl ?_
  refine w_ild1 i184_110 ?_
  refine w_const i184_111 kc_5 ?_
  refine w_isub i184_112 (nI_sub (by omega)) ?_
  refine w_ial i184_113 s_172 (by decide) (by omega) rfl ?_
  refine w_ri i184_114 r184 ?_
  exact ⟨rfl, rfl⟩
set_option maxHeartbeats 100000 in
theorem P_acc8 {d : Nat} {D : Mm} {n : Nat} (hn : D 172 0 = nI n) (h12 : n ≤ 12) : Ct (d + 6) 184 [.ref 171, .int (nI 8)] D (Ex (some (.int (D 172 3))) D) := by
  refine ent m184 rfl rfl (ls := [.ref 171, .int (nI 8)]) rfl ?_
  refine w_ild1 i184_0 ?_
  refine w_ts (t := 106) i184_1 (by decide) ?_
  refine w_ald0 i184_106 ?_
  refine w_gfR i184_107 (by decide) s_171 rfl ?_
  refine w_ild1 i184_110 ?_
  refine w_const i184_111 kc_5 ?_
  refine w_isub i184_112 (nI_sub (by omega)) ?_
  refine w_ial i184_113 s_172 (by decide) (by omega) rfl ?_
  refine w_ri i184_114 r184 ?_
  exact ⟨rfl, rfl⟩
set_option maxHeartbeats 100000 in
theorem P_acc9 {d : Nat} {D : Mm} {n : Nat} (hn : D 172 0 = nI n) (h12 : n ≤ 12) : Ct (d + 6) 184 [.ref 171, .int (nI 9)] D (Ex (some (.int (D 172 4))) D) := by
  refine ent m184 rfl rfl (ls := [.ref 171, .int (nI 9)]) rfl ?_
  refine w_ild1 i184_0 ?_
  refine w_ts (t := 106) i184_1 (by decide) ?_
  refine w_ald0 i184_106 ?_
  refine w_gfR i184_107 (by decide) s_171 rfl ?_
  refine w_ild1 i184_110 ?_
  refine w_const i184_111 kc_5 ?_
  refine w_isub i184_112 (nI_sub (by omega)) ?_
  refine w_ial i184_113 s_172 (by decide) (by omega) rfl ?_
  refine w_ri i184_114 r184 ?_
  exact ⟨rfl, rfl⟩
set_option maxHeartbeats 100000 in
theorem P_acc10 {d : Nat} {D : Mm} {n : Nat} (hn : D 172 0 = nI n) (h12 : n ≤ 12) : Ct (d + 6) 184 [.ref 171, .int (nI 10)] D (Ex (some (.int (mOfAll n (D 172) 4))) D) := by
  refine ent m184 rfl rfl (ls := [.ref 171, .int (nI 10)]) rfl ?_
  refine w_ild1 i184_0 ?_
  refine w_ts (t := 115) i184_1 (by decide) ?_
  refine w_ald0 i184_115 ?_
  refine w_const i184_116 kc_4 ?_
  refine w_vI2 i184_117 c182 (Or.inl rfl) ⟨by decide +kernel, by decide⟩ rfl ⟨rfl, Nat.le_of_ble_eq_true rfl⟩ (T_ofAll hn h12 (by omega)) ?_
  refine w_ri i184_120 r184 ?_
  exact ⟨rfl, rfl⟩
set_option maxHeartbeats 100000 in
theorem P_acc11 {d : Nat} {D : Mm} {n : Nat} (hn : D 172 0 = nI n) (h12 : n ≤ 12) : Ct (d + 6) 184 [.ref 171, .int (nI 11)] D (Ex (some (.int (D 172 5))) D) := by
  refine ent m184 rfl rfl (ls := [.ref 171, .int (nI 11)]) rfl ?_
  refine w_ild1 i184_0 ?_
  refine w_ts (t := 121) i184_1 (by decide) ?_
  refine w_ald0 i184_121 ?_
  refine w_gfR i184_122 (by decide) s_171 rfl ?_
  refine w_const i184_125 kc_5 ?_
  refine w_ial i184_126 s_172 (by decide) (by omega) rfl ?_
  refine w_ri i184_127 r184 ?_
  exact ⟨rfl, rfl⟩
set_option maxHeartbeats 100000 in
theorem P_acc12 {d : Nat} {D : Mm} {n : Nat} (hn : D 172 0 = nI n) (h12 : n ≤ 12) : Ct (d + 6) 184 [.ref 171, .int (nI 12)] D (Ex (some (.int (D 171 19))) D) := by
  refine ent m184 rfl rfl (ls := [.ref 171, .int (nI 12)]) rfl ?_
  refine w_ild1 i184_0 ?_
  refine w_ts (t := 128) i184_1 (by decide) ?_
  refine w_ald0 i184_128 ?_
  refine w_gfI i184_129 (by decide) s_171 rfl rfl ?_
  refine w_ri i184_132 r184 ?_
  exact ⟨rfl, rfl⟩
set_option maxHeartbeats 100000 in
theorem P_acc13 {d : Nat} {D : Mm} {n : Nat} (hn : D 172 0 = nI n) (h12 : n ≤ 12) : Ct (d + 6) 184 [.ref 171, .int (nI 13)] D (Ex (some (.int (D 171 1))) D) := by
  refine ent m184 rfl rfl (ls := [.ref 171, .int (nI 13)]) rfl ?_
  refine w_ild1 i184_0 ?_
  refine w_ts (t := 133) i184_1 (by decide) ?_
  refine w_ald0 i184_133 ?_
  refine w_gfI i184_134 (by decide) s_171 rfl rfl ?_
  refine w_ri i184_137 r184 ?_
  exact ⟨rfl, rfl⟩
set_option maxHeartbeats 100000 in
theorem P_isBal {d : Nat} {D : Mm} {n : Nat} (hn : D 172 0 = nI n) (h12 : n ≤ 12) : Ct (d + 6) 185 [.ref 171] D (Ex (some (.int (ifp (D 172 1 = mOfAll n (D 172) 1 + mStores (D 172) + mPooled (D 172) + D 172 2) (nI 1) (nI 0)))) D) := by
  refine ent m185 rfl rfl (ls := [.ref 171]) rfl ?_
  refine w_ald0 i185_0 ?_
  refine w_gfR i185_1 (by decide) s_171 rfl ?_
  refine w_const i185_4 kc_1 ?_
  refine w_ial i185_5 s_172 (by decide) (by omega) rfl ?_
  refine w_ald0 i185_6 ?_
  refine w_const i185_7 kc_1 ?_
  refine w_vI2 i185_8 c182 (Or.inl rfl) ⟨by decide +kernel, by decide⟩ rfl ⟨rfl, Nat.le_of_ble_eq_true rfl⟩ (T_ofAll hn h12 (by omega)) ?_
  refine w_ald0 i185_11 ?_
  refine w_vI1 i185_12 c183 (Or.inl rfl) ⟨by decide +kernel, by decide⟩ rfl ⟨rfl, Nat.le_of_ble_eq_true rfl⟩ T_stores ?_
  refine w_iadd i185_15 rfl ?_
  refine w_ald0 i185_16 ?_
  refine w_vI1 i185_17 c136 (Or.inl rfl) ⟨by decide +kernel, by decide⟩ rfl ⟨rfl, Nat.le_of_ble_eq_true rfl⟩ T_pooled ?_
  refine w_iadd i185_20 rfl ?_
  refine w_ald0 i185_21 ?_
  refine w_gfR i185_22 (by decide) s_171 rfl ?_
  refine w_const i185_25 kc_2 ?_
  refine w_ial i185_26 s_172 (by decide) (by omega) rfl ?_
  refine w_iadd i185_27 rfl ?_
  refine w_cne i185_28 g185_28  (fun h28 => ?_) (fun h28 => ?_)
  · skip
    refine w_const i185_35 kc_0 ?_
    refine w_ri i185_36 r185 ?_
    first | (rw [ifp_t h28]; exact ⟨rfl, rfl⟩) | (rw [ifp_f h28]; exact ⟨rfl, rfl⟩)
  · skip
    refine w_const i185_31 kc_1 ?_
    refine w_goto i185_32 g185_32 ?_
    refine w_ri i185_36 r185 ?_
    first | (rw [ifp_t h28]; exact ⟨rfl, rfl⟩) | (rw [ifp_f h28]; exact ⟨rfl, rfl⟩)
set_option maxHeartbeats 100000 in
theorem P_undo_no {d : Nat} {D : Mm} (hc : D 171 1 = nI 0) : Ct (d + 6) 186 [.ref 171] D (Ex (some (.int (-1015))) D) := by
  refine ent m186 rfl rfl (ls := [.ref 171, .retAddr 0]) rfl ?_
  refine w_ald0 i186_0 ?_
  refine w_gfI i186_1 (by decide) s_171 rfl hc ?_
  refine w_ineNF i186_4 (by omega) (by omega) ?_
  refine w_sip i186_7 ks_m1015 ?_
  refine w_ri i186_10 r186 ?_
  exact ⟨rfl, rfl⟩
def row (W V : Nat → Int32) (c i : Nat) : Nat → Int32 := fun j => if j < i then W (c * 126 + j) else V j
theorem row0 {W V : Nat → Int32} {c : Nat} : row W V c 0 = V := by funext j; unfold row; rw [if_neg (by omega)]
theorem rowS {W V : Nat → Int32} {c i : Nat} : vup (row W V c i) i (W (c * 126 + i)) = row W V c (i + 1) := by
  funext j
  unfold vup row
  by_cases h : j = i
  · subst h; rw [if_pos rfl, if_pos (by omega)]
  · rw [if_neg h]
    by_cases g : j < i
    · rw [if_pos g, if_pos (by omega)]
    · rw [if_neg g, if_neg (by omega)]
set_option maxHeartbeats 100000 in
theorem P_undo {d : Nat} {D : Mm} {Q : Option Value → Mm → Prop} {c : Nat} (hc : D 171 1 = nI (c + 1)) (h8 : c < 8) (hq : Q (some (.int (nI c))) (setc (mup D 171 1 (nI c)) 172 (row (D 176) (D 172) c 126))) : Ct (d + 6) 186 [.ref 171] D Q := by
  refine ent m186 rfl rfl (ls := [.ref 171, .retAddr 0]) rfl ?_
  refine w_ald0 i186_0 ?_
  refine w_gfI i186_1 (by decide) s_171 rfl hc ?_
  refine w_ineNT i186_4 g186_4 (by omega) (by omega) ?_
  refine w_ald0 i186_11 ?_
  refine w_dup i186_12 rfl ?_
  refine w_gfI i186_13 (by decide) s_171 rfl hc ?_
  refine w_const i186_16 kc_1 ?_
  refine w_isub i186_17 ((nI_sub (by omega)).trans (congrArg nI (Nat.add_sub_cancel c 1))) ?_
  refine w_pf0 i186_18 (by decide) s_171 rfl ?_
  refine w_const i186_21 kc_0 ?_
  refine w_ist1 i186_22 ?_
  refine wpD (D2 := setc (mup D 171 1 (nI c)) 172 (row (D 176) (D 172) c 0)) (by rw [row0]; funext q; by_cases hq : q = 172; (rw [hq, mupF (by decide), setcE]); (rw [setcF hq])) ?_
  refine down0 (n := 126) (P := fun i => Wp _ _ _ 23 [.ref 171, .int (nI i)] [] (setc (mup D 171 1 (nI c)) 172 (row (D 176) (D 172) c i))) ?_ ?_
  · skip
    refine w_ild1 i186_23 ?_
    refine w_bip i186_24 kb_126 ?_
    refine w_cgeNT i186_26 g186_26 (by omega) (by omega) (by omega) ?_
    refine w_ald0 i186_55 ?_
    refine w_gfI i186_56 (by decide) s_171 rfl ((setcG (show 171 ≠ 172 by decide)).trans mupE) ?_
    refine w_ri i186_59 r186 ?_
    exact hq
  · intro i hi ih
    refine w_ild1 i186_23 ?_
    refine w_bip i186_24 kb_126 ?_
    refine w_cgeNF i186_26 (by omega) (by omega) (by omega) ?_
    refine w_ald0 i186_29 ?_
    refine w_gfR i186_30 (by decide) s_171 rfl ?_
    refine w_ild1 i186_33 ?_
    refine w_ald0 i186_34 ?_
    refine w_gfR i186_35 (by decide) s_171 rfl ?_
    refine w_ald0 i186_38 ?_
    refine w_gfI i186_39 (by decide) s_171 rfl ((setcG (show 171 ≠ 172 by decide)).trans mupE) ?_
    refine w_bip i186_42 kb_126 ?_
    refine w_imul i186_44 (nI_mul _ _) ?_
    refine w_ild1 i186_45 ?_
    refine w_iadd i186_46 (nI_add _ _) ?_
    refine w_ial i186_47 s_176 (by decide) (by omega) ((setcG (show 176 ≠ 172 by decide)).trans (mupC (show 176 ≠ 171 by decide))) ?_
    refine w_iasS i186_48 s_172 (by decide) (by omega) ?_
    refine w_inc1 i186_49 (inc1 _) ?_
    refine w_goto i186_52 g186_52 ?_
    rw [rowS]; exact ih
set_option maxHeartbeats 100000 in
theorem P_save {d : Nat} {D : Mm} {Q : Option Value → Mm → Prop} {n : Nat} (hn : D 172 0 = nI n) (hq : Q (some (.int (nI n))) (mup (cpy D 174 172 126) 171 8 (nI 1))) : Ct (d + 6) 187 [.ref 171] D Q := by
  refine ent m187 rfl rfl (ls := [.ref 171]) rfl ?_
  refine w_ald0 i187_0 ?_
  refine w_gfR i187_1 (by decide) s_171 rfl ?_
  refine w_ald0 i187_4 ?_
  refine w_gfR i187_5 (by decide) s_171 rfl ?_
  refine w_sV2 i187_8 c111 rfl  rfl ⟨rfl, Nat.le_of_ble_eq_true rfl⟩ (T_lays s_174 s_172 (by decide) rfl rfl) ?_
  refine w_ald0 i187_11 ?_
  refine w_const i187_12 kc_1 ?_
  refine w_pf1 i187_13 (by decide) s_171 rfl (Or.inr rfl) ?_
  refine w_ald0 i187_16 ?_
  refine w_gfR i187_17 (by decide) s_171 rfl ?_
  refine w_const i187_20 kc_0 ?_
  refine w_ial i187_21 s_172 (by decide) (by omega) ((mupC (show 172 ≠ 171 by decide)).trans ((congrFun (cpyF (by decide)) 0).trans hn)) ?_
  refine w_ri i187_22 r187 ?_
  exact hq
set_option maxHeartbeats 100000 in
theorem P_restore_no {d : Nat} {D : Mm} (hs : D 171 8 = nI 0) : Ct (d + 6) 188 [.ref 171] D (Ex (some (.int (-1015))) D) := by
  refine ent m188 rfl rfl (ls := [.ref 171]) rfl ?_
  refine w_ald0 i188_0 ?_
  refine w_gfI i188_1 (by decide) s_171 rfl hs ?_
  refine w_ineNF i188_4 (by omega) (by omega) ?_
  refine w_sip i188_7 ks_m1015 ?_
  refine w_ri i188_10 r188 ?_
  exact ⟨rfl, rfl⟩
set_option maxHeartbeats 100000 in
theorem P_restore {d : Nat} {D : Mm} {Q : Option Value → Mm → Prop} (hs : D 171 8 = nI 1) (hq : Q (some (.int (D 174 0))) (mup (cpy D 172 174 126) 171 1 (nI 0))) : Ct (d + 6) 188 [.ref 171] D Q := by
  refine ent m188 rfl rfl (ls := [.ref 171]) rfl ?_
  refine w_ald0 i188_0 ?_
  refine w_gfI i188_1 (by decide) s_171 rfl hs ?_
  refine w_ineNT i188_4 g188_4 (by omega) (by omega) ?_
  refine w_ald0 i188_11 ?_
  refine w_gfR i188_12 (by decide) s_171 rfl ?_
  refine w_ald0 i188_15 ?_
  refine w_gfR i188_16 (by decide) s_171 rfl ?_
  refine w_sV2 i188_19 c111 rfl  rfl ⟨rfl, Nat.le_of_ble_eq_true rfl⟩ (T_lays s_172 s_174 (by decide) rfl rfl) ?_
  refine w_ald0 i188_22 ?_
  refine w_const i188_23 kc_0 ?_
  refine w_pf0 i188_24 (by decide) s_171 rfl ?_
  refine w_ald0 i188_27 ?_
  refine w_gfR i188_28 (by decide) s_171 rfl ?_
  refine w_const i188_31 kc_0 ?_
  refine w_ial i188_32 s_172 (by decide) (by omega) ((mupC (show 172 ≠ 171 by decide)).trans (cpy_r0 (h := by decide))) ?_
  refine w_ri i188_33 r188 ?_
  exact hq
