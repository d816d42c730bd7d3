/-! the reference, its questions -/
theorem cpyF {D : Mm} {a b L q : Nat} (h : q ≠ a) : cpy D a b L q = D q := by funext j; unfold cpy; rw [if_neg h]
theorem badR_i {w : Int32} {a b : Nat} (h : badR w (nI a) (nI b)) (ha : a < 2147483648 := by decide) (hb : b < 2147483648 := by decide) : w.toInt < (a : Int) ∨ (b : Int) < w.toInt := by
  rcases h with h | h
  · left; have := Int32.lt_iff_toInt_lt.mp h; rw [nI_toInt ha] at this; exact this
  · right; have := Int32.lt_iff_toInt_lt.mp h; rw [nI_toInt hb] at this; exact this
set_option maxHeartbeats 100000 in
theorem P_stubOf_bad {d : Nat} {D : Mm} {n : Nat} (hn : D 172 0 = nI n) (h12 : n ≤ 12) {a w : Int32} (hb : badS n a) : Ct (d + 6) 135 [.ref 171, .int a, .int w] D (Ex (some (.int (-1011))) D) := by
  refine ent m135 rfl rfl (ls := [.ref 171, .int a, .int w, .retAddr 0]) rfl ?_
  refine w_ald0 i135_0 ?_
  refine w_ild1 i135_1 ?_
  refine w_vI2 i135_2 c117 (Or.inl rfl) ⟨by decide +kernel, by decide⟩ rfl ⟨rfl, Nat.le_of_ble_eq_true rfl⟩ (T_isStub_f hn h12 hb) ?_
  refine w_ineNF i135_5 (by omega) (by omega) ?_
  refine w_sip i135_8 ks_m1011 ?_
  refine w_ri i135_11 r135 ?_
  exact ⟨rfl, rfl⟩
set_option maxHeartbeats 100000 in
theorem P_stubOf_badw {d : Nat} {D : Mm} {n : Nat} (hn : D 172 0 = nI n) (h12 : n ≤ 12) {s : Nat} (hs : s < n) {w : Int32} (hb : badR w (nI 0) (nI 7)) : Ct (d + 6) 135 [.ref 171, .int (nI s), .int w] D (Ex (some (.int (-1012))) D) := by
  refine ent m135 rfl rfl (ls := [.ref 171, .int (nI s), .int w, .retAddr 0]) rfl ?_
  refine w_ald0 i135_0 ?_
  refine w_ild1 i135_1 ?_
  refine w_vI2 i135_2 c117 (Or.inl rfl) ⟨by decide +kernel, by decide⟩ rfl ⟨rfl, Nat.le_of_ble_eq_true rfl⟩ (T_isStub_t hn h12 hs) ?_
  refine w_ineNT i135_5 g135_5 (by omega) (by omega) ?_
  refine w_ild2 i135_12 ?_
  refine w_const i135_13 kc_0 ?_
  refine w_bip i135_14 kb_7 ?_
  refine w_sI3 i135_16 c110 rfl  rfl ⟨rfl, Nat.le_of_ble_eq_true rfl⟩ (T_isIn_f hb) ?_
  refine w_ineNF i135_19 (by omega) (by omega) ?_
  refine w_sip i135_22 ks_m1012 ?_
  refine w_ri i135_25 r135 ?_
  exact ⟨rfl, rfl⟩
noncomputable def vStubOf (V : Nat → Int32) (s w : Nat) : Int32 := ifp (w = 3) (ifp (V (30 + 8 * s + w) = 0) (-1015) (V (30 + 8 * s + w) - nI 1)) (ifp (w = 6) (ifp (V (30 + 8 * s + w) = 0) (-1015) (V (30 + 8 * s + w) - nI 1)) (V (30 + 8 * s + w)))
set_option maxHeartbeats 100000 in
theorem P_stubOf {d : Nat} {D : Mm} {V : Nat → Int32} {n : Nat} (hV : D 172 = V) (hn : V 0 = nI n) (h12 : n ≤ 12) {s : Nat} (hs : s < n) {w : Nat} (hw : w < 8) : Ct (d + 6) 135 [.ref 171, .int (nI s), .int (nI w)] D (Ex (some (.int (vStubOf V s w))) D) := by
  subst hV
  refine ent m135 rfl rfl (ls := [.ref 171, .int (nI s), .int (nI w), .retAddr 0]) rfl ?_
  refine w_ald0 i135_0 ?_
  refine w_ild1 i135_1 ?_
  refine w_vI2 i135_2 c117 (Or.inl rfl) ⟨by decide +kernel, by decide⟩ rfl ⟨rfl, Nat.le_of_ble_eq_true rfl⟩ (T_isStub_t hn h12 hs) ?_
  refine w_ineNT i135_5 g135_5 (by omega) (by omega) ?_
  refine w_ild2 i135_12 ?_
  refine w_const i135_13 kc_0 ?_
  refine w_bip i135_14 kb_7 ?_
  refine w_sI3 i135_16 c110 rfl  rfl ⟨rfl, Nat.le_of_ble_eq_true rfl⟩ (T_isIn_t (nI_inR (by omega) (by omega) (by omega))) ?_
  refine w_ineNT i135_19 g135_19 (by omega) (by omega) ?_
  refine w_ald0 i135_26 ?_
  refine w_gfR i135_27 (by decide) s_171 rfl ?_
  refine w_ild1 i135_30 ?_
  refine w_ild2 i135_31 ?_
  refine w_sI2 i135_32 c115 rfl  rfl ⟨rfl, Nat.le_of_ble_eq_true rfl⟩ T_in ?_
  refine w_ial i135_35 s_172 (by decide) (by omega) rfl ?_
  refine w_ist3 i135_36 ?_
  refine w_ild2 i135_37 ?_
  refine w_const i135_38 kc_3 ?_
  refine w_ceqN i135_39 g135_39 (by omega) (by omega) (fun h39 => ?_) (fun h39 => ?_)
  · skip
    refine w_ild3 i135_52 ?_
    refine w_ine i135_53 g135_53  (fun h53 => ?_) (fun h53 => ?_)
    · skip
      refine w_ild3 i135_62 ?_
      refine w_const i135_63 kc_1 ?_
      refine w_isub i135_64 rfl ?_
      refine w_ri i135_65 r135 ?_
      refine ⟨?_, rfl⟩
      unfold vStubOf
      first
        | rw [ifp_t h39, ifp_t h53]
        | rw [ifp_t h39, ifp_f h53]
        | rw [ifp_f h39, ifp_t h45, ifp_t h53]
        | rw [ifp_f h39, ifp_t h45, ifp_f h53]
        | rw [ifp_f h39, ifp_f h45]
    · skip
      refine w_sip i135_56 ks_m1015 ?_
      refine w_goto i135_59 g135_59 ?_
      refine w_ri i135_65 r135 ?_
      refine ⟨?_, rfl⟩
      unfold vStubOf
      first
        | rw [ifp_t h39, ifp_t h53]
        | rw [ifp_t h39, ifp_f h53]
        | rw [ifp_f h39, ifp_t h45, ifp_t h53]
        | rw [ifp_f h39, ifp_t h45, ifp_f h53]
        | rw [ifp_f h39, ifp_f h45]
  · skip
    refine w_ild2 i135_42 ?_
    refine w_bip i135_43 kb_6 ?_
    refine w_ceqN i135_45 g135_45 (by omega) (by omega) (fun h45 => ?_) (fun h45 => ?_)
    · skip
      refine w_ild3 i135_52 ?_
      refine w_ine i135_53 g135_53  (fun h53 => ?_) (fun h53 => ?_)
      · skip
        refine w_ild3 i135_62 ?_
        refine w_const i135_63 kc_1 ?_
        refine w_isub i135_64 rfl ?_
        refine w_ri i135_65 r135 ?_
        refine ⟨?_, rfl⟩
        unfold vStubOf
        first
          | rw [ifp_t h39, ifp_t h53]
          | rw [ifp_t h39, ifp_f h53]
          | rw [ifp_f h39, ifp_t h45, ifp_t h53]
          | rw [ifp_f h39, ifp_t h45, ifp_f h53]
          | rw [ifp_f h39, ifp_f h45]
      · skip
        refine w_sip i135_56 ks_m1015 ?_
        refine w_goto i135_59 g135_59 ?_
        refine w_ri i135_65 r135 ?_
        refine ⟨?_, rfl⟩
        unfold vStubOf
        first
          | rw [ifp_t h39, ifp_t h53]
          | rw [ifp_t h39, ifp_f h53]
          | rw [ifp_f h39, ifp_t h45, ifp_t h53]
          | rw [ifp_f h39, ifp_t h45, ifp_f h53]
          | rw [ifp_f h39, ifp_f h45]
    · skip
      refine w_ild3 i135_48 ?_
      refine w_goto i135_49 g135_49 ?_
      refine w_ri i135_65 r135 ?_
      refine ⟨?_, rfl⟩
      unfold vStubOf
      first
        | rw [ifp_t h39, ifp_t h53]
        | rw [ifp_t h39, ifp_f h53]
        | rw [ifp_f h39, ifp_t h45, ifp_t h53]
        | rw [ifp_f h39, ifp_t h45, ifp_f h53]
        | rw [ifp_f h39, ifp_f h45]
set_option maxHeartbeats 100000 in
theorem P_part_bad {d : Nat} {D : Mm} {a : Int32} (hb : badH a) : Ct (d + 6) 144 [.ref 171, .int a] D (Ex (some (.int (-1011))) D) := by
  refine ent m144 rfl rfl (ls := [.ref 171, .int a]) rfl ?_
  refine w_ild1 i144_0 ?_
  refine w_sI1 i144_1 c116 rfl  rfl ⟨rfl, Nat.le_of_ble_eq_true rfl⟩ (T_isHouse_f hb) ?_
  refine w_ineNF i144_4 (by omega) (by omega) ?_
  refine w_sip i144_7 ks_m1011 ?_
  refine w_ri i144_10 r144 ?_
  exact ⟨rfl, rfl⟩
set_option maxHeartbeats 100000 in
theorem P_part {d : Nat} {D : Mm} {Q : Option Value → Mm → Prop} {V : Nat → Int32} {n : Nat} (hV : D 172 = V) (hn : V 0 = nI n) (h12 : n ≤ 12) {j : Nat} (hj : j < 6) (hF : ¬ mClaims n V = 0 → 0 < mClaims n V ∧ ¬ vLeft n V < 0) (hq : ∀ D2 : Mm, (∀ q, q ≠ 177 → q ≠ 178 → D2 q = D q) → Q (some (.int (vParts n V j))) D2) : Ct (d + 6) 144 [.ref 171, .int (nI j)] D Q := by
  subst hV
  refine ent m144 rfl rfl (ls := [.ref 171, .int (nI j)]) rfl ?_
  refine w_ild1 i144_0 ?_
  refine w_sI1 i144_1 c116 rfl  rfl ⟨rfl, Nat.le_of_ble_eq_true rfl⟩ (T_isHouse_t hj) ?_
  refine w_ineNT i144_4 g144_4 (by omega) (by omega) ?_
  refine w_ald0 i144_11 ?_
  refine w_vG1 i144_12 c141 (Or.inl rfl) ⟨by decide +kernel, by decide⟩ rfl ⟨rfl, Nat.le_of_ble_eq_true rfl⟩ ?_
  refine T_finds rfl hn h12 hF (fun D2 g1 g2 => ?_)
  refine w_ald0 i144_15 ?_
  refine w_gfR i144_16 (by decide) s_171 rfl ?_
  refine w_ild1 i144_19 ?_
  refine w_ial i144_20 s_177 (by decide) (by omega) (g1 _ hj) ?_
  refine w_ri i144_21 r144 ?_
  exact hq _ g2
theorem P_partAgain_bad {d : Nat} {D : Mm} {a : Int32} (hb : badH a) : Ct (d + 7) 145 [.ref 171, .int a] D (Ex (some (.int (-1011))) D) := by
  refine ent m145 rfl rfl (ls := [.ref 171, .int a]) rfl ?_
  refine w_ald0 i145_0 ?_
  refine w_ild1 i145_1 ?_
  refine w_vI2 i145_2 c144 (Or.inl rfl) ⟨by decide +kernel, by decide⟩ rfl ⟨rfl, Nat.le_of_ble_eq_true rfl⟩ (P_part_bad hb) ?_
  exact w_ri i145_5 r145 ⟨rfl, rfl⟩
set_option maxHeartbeats 100000 in
theorem P_partAgain {d : Nat} {D : Mm} {Q : Option Value → Mm → Prop} {V : Nat → Int32} {n : Nat} (hV : D 172 = V) (hn : V 0 = nI n) (h12 : n ≤ 12) {j : Nat} (hj : j < 6) (hF : ¬ mClaims n V = 0 → 0 < mClaims n V ∧ ¬ vLeft n V < 0) (hq : ∀ D2 : Mm, (∀ q, q ≠ 177 → q ≠ 178 → D2 q = D q) → Q (some (.int (vParts n V j))) D2) : Ct (d + 7) 145 [.ref 171, .int (nI j)] D Q := by
  refine ent m145 rfl rfl (ls := [.ref 171, .int (nI j)]) rfl ?_
  refine w_ald0 i145_0 ?_
  refine w_ild1 i145_1 ?_
  refine w_vG2 i145_2 c144 (Or.inl rfl) ⟨by decide +kernel, by decide⟩ rfl ⟨rfl, Nat.le_of_ble_eq_true rfl⟩ ?_
  refine P_part hV hn h12 hj hF (fun D2 g2 => ?_)
  refine w_ri i145_5 r145 ?_
  exact hq _ g2
set_option maxHeartbeats 100000 in
theorem P_houseOf_bad {d : Nat} {D : Mm} {a w : Int32} (hb : badH a) : Ct (d + 6) 158 [.ref 171, .int a, .int w] D (Ex (some (.int (-1011))) D) := by
  refine ent m158 rfl rfl (ls := [.ref 171, .int a, .int w]) rfl ?_
  refine w_ild1 i158_0 ?_
  refine w_sI1 i158_1 c116 rfl  rfl ⟨rfl, Nat.le_of_ble_eq_true rfl⟩ (T_isHouse_f hb) ?_
  refine w_ineNF i158_4 (by omega) (by omega) ?_
  refine w_sip i158_7 ks_m1011 ?_
  refine w_ri i158_10 r158 ?_
  exact ⟨rfl, rfl⟩
set_option maxHeartbeats 100000 in
theorem P_houseOf_badw {d : Nat} {D : Mm} {j : Nat} (hj : j < 6) {w : Int32} (hb : badR w (nI 0) (nI 7)) : Ct (d + 6) 158 [.ref 171, .int (nI j), .int w] D (Ex (some (.int (-1012))) D) := by
  refine ent m158 rfl rfl (ls := [.ref 171, .int (nI j), .int w]) rfl ?_
  refine w_ild1 i158_0 ?_
  refine w_sI1 i158_1 c116 rfl  rfl ⟨rfl, Nat.le_of_ble_eq_true rfl⟩ (T_isHouse_t hj) ?_
  refine w_ineNT i158_4 g158_4 (by omega) (by omega) ?_
  refine w_ild2 i158_11 ?_
  refine w_ts (t := 90) i158_12 (ts_out (badR_i hb) (by decide)) ?_
  refine w_sip i158_90 ks_m1012 ?_
  refine w_ri i158_93 r158 ?_
  exact ⟨rfl, rfl⟩
set_option maxHeartbeats 100000 in
theorem P_houseOf_0 {d : Nat} {D : Mm} {V : Nat → Int32} (hV : D 172 = V) {j : Nat} (hj : j < 6) : Ct (d + 6) 158 [.ref 171, .int (nI j), .int (nI 0)] D (Ex (some (.int (V (6 + 4 * j + 0)))) D) := by
  subst hV
  refine ent m158 rfl rfl (ls := [.ref 171, .int (nI j), .int (nI 0)]) rfl ?_
  refine w_ild1 i158_0 ?_
  refine w_sI1 i158_1 c116 rfl  rfl ⟨rfl, Nat.le_of_ble_eq_true rfl⟩ (T_isHouse_t hj) ?_
  refine w_ineNT i158_4 g158_4 (by omega) (by omega) ?_
  refine w_ild2 i158_11 ?_
  refine w_ts (t := 60) i158_12 (by decide) ?_
  refine w_ald0 i158_60 ?_
  refine w_gfR i158_61 (by decide) s_171 rfl ?_
  refine w_ild1 i158_64 ?_
  refine w_ild2 i158_65 ?_
  refine w_sI2 i158_66 c114 rfl  rfl ⟨rfl, Nat.le_of_ble_eq_true rfl⟩ T_at ?_
  refine w_ial i158_69 s_172 (by decide) (by omega) rfl ?_
  refine w_ri i158_70 r158 ?_
  exact ⟨rfl, rfl⟩
set_option maxHeartbeats 100000 in
theorem P_houseOf_1 {d : Nat} {D : Mm} {V : Nat → Int32} (hV : D 172 = V) {j : Nat} (hj : j < 6) : Ct (d + 6) 158 [.ref 171, .int (nI j), .int (nI 1)] D (Ex (some (.int (V (6 + 4 * j + 1)))) D) := by
  subst hV
  refine ent m158 rfl rfl (ls := [.ref 171, .int (nI j), .int (nI 1)]) rfl ?_
  refine w_ild1 i158_0 ?_
  refine w_sI1 i158_1 c116 rfl  rfl ⟨rfl, Nat.le_of_ble_eq_true rfl⟩ (T_isHouse_t hj) ?_
  refine w_ineNT i158_4 g158_4 (by omega) (by omega) ?_
  refine w_ild2 i158_11 ?_
  refine w_ts (t := 60) i158_12 (by decide) ?_
  refine w_ald0 i158_60 ?_
  refine w_gfR i158_61 (by decide) s_171 rfl ?_
  refine w_ild1 i158_64 ?_
  refine w_ild2 i158_65 ?_
  refine w_sI2 i158_66 c114 rfl  rfl ⟨rfl, Nat.le_of_ble_eq_true rfl⟩ T_at ?_
  refine w_ial i158_69 s_172 (by decide) (by omega) rfl ?_
  refine w_ri i158_70 r158 ?_
  exact ⟨rfl, rfl⟩
set_option maxHeartbeats 100000 in
theorem P_houseOf_2 {d : Nat} {D : Mm} {V : Nat → Int32} (hV : D 172 = V) {j : Nat} (hj : j < 6) : Ct (d + 6) 158 [.ref 171, .int (nI j), .int (nI 2)] D (Ex (some (.int (V (6 + 4 * j + 2)))) D) := by
  subst hV
  refine ent m158 rfl rfl (ls := [.ref 171, .int (nI j), .int (nI 2)]) rfl ?_
  refine w_ild1 i158_0 ?_
  refine w_sI1 i158_1 c116 rfl  rfl ⟨rfl, Nat.le_of_ble_eq_true rfl⟩ (T_isHouse_t hj) ?_
  refine w_ineNT i158_4 g158_4 (by omega) (by omega) ?_
  refine w_ild2 i158_11 ?_
  refine w_ts (t := 60) i158_12 (by decide) ?_
  refine w_ald0 i158_60 ?_
  refine w_gfR i158_61 (by decide) s_171 rfl ?_
  refine w_ild1 i158_64 ?_
  refine w_ild2 i158_65 ?_
  refine w_sI2 i158_66 c114 rfl  rfl ⟨rfl, Nat.le_of_ble_eq_true rfl⟩ T_at ?_
  refine w_ial i158_69 s_172 (by decide) (by omega) rfl ?_
  refine w_ri i158_70 r158 ?_
  exact ⟨rfl, rfl⟩
set_option maxHeartbeats 100000 in
theorem P_houseOf_3 {d : Nat} {D : Mm} {V : Nat → Int32} (hV : D 172 = V) {j : Nat} (hj : j < 6) : Ct (d + 6) 158 [.ref 171, .int (nI j), .int (nI 3)] D (Ex (some (.int (V (6 + 4 * j + 3)))) D) := by
  subst hV
  refine ent m158 rfl rfl (ls := [.ref 171, .int (nI j), .int (nI 3)]) rfl ?_
  refine w_ild1 i158_0 ?_
  refine w_sI1 i158_1 c116 rfl  rfl ⟨rfl, Nat.le_of_ble_eq_true rfl⟩ (T_isHouse_t hj) ?_
  refine w_ineNT i158_4 g158_4 (by omega) (by omega) ?_
  refine w_ild2 i158_11 ?_
  refine w_ts (t := 60) i158_12 (by decide) ?_
  refine w_ald0 i158_60 ?_
  refine w_gfR i158_61 (by decide) s_171 rfl ?_
  refine w_ild1 i158_64 ?_
  refine w_ild2 i158_65 ?_
  refine w_sI2 i158_66 c114 rfl  rfl ⟨rfl, Nat.le_of_ble_eq_true rfl⟩ T_at ?_
  refine w_ial i158_69 s_172 (by decide) (by omega) rfl ?_
  refine w_ri i158_70 r158 ?_
  exact ⟨rfl, rfl⟩
set_option maxHeartbeats 100000 in
theorem P_houseOf_4 {d : Nat} {D : Mm} {V : Nat → Int32} {n : Nat} (hV : D 172 = V) (hn : V 0 = nI n) (h12 : n ≤ 12) {j : Nat} (hj : j < 6) : Ct (d + 6) 158 [.ref 171, .int (nI j), .int (nI 4)] D (Ex (some (.int (mClaim n V j))) D) := by
  subst hV
  refine ent m158 rfl rfl (ls := [.ref 171, .int (nI j), .int (nI 4)]) rfl ?_
  refine w_ild1 i158_0 ?_
  refine w_sI1 i158_1 c116 rfl  rfl ⟨rfl, Nat.le_of_ble_eq_true rfl⟩ (T_isHouse_t hj) ?_
  refine w_ineNT i158_4 g158_4 (by omega) (by omega) ?_
  refine w_ild2 i158_11 ?_
  refine w_ts (t := 71) i158_12 (by decide) ?_
  refine w_ald0 i158_71 ?_
  refine w_ild1 i158_72 ?_
  refine w_vI2 i158_73 c139 (Or.inl rfl) ⟨by decide +kernel, by decide⟩ rfl ⟨rfl, Nat.le_of_ble_eq_true rfl⟩ (T_claim hn h12 (by omega)) ?_
  refine w_ri i158_76 r158 ?_
  exact ⟨rfl, rfl⟩
set_option maxHeartbeats 100000 in
theorem T_ofStubs5 {d : Nat} {D : Mm} {n : Nat} (hn : D 172 0 = nI n) (h12 : n ≤ 12) {h : Nat} : Ct (d + 2) 157 [.ref 171, .int (nI h), .int (nI 5)] D (Ex (some (.int (mCount n (D 172) (nI h)))) D) := by
  refine ent m157 rfl rfl (ls := [.ref 171, .int (nI h), .int (nI 5), .retAddr 0, .retAddr 0]) rfl ?_
  refine w_const i157_0 kc_0 ?_
  refine w_ist3 i157_1 ?_
  refine w_const i157_2 kc_0 ?_
  refine w_ist4 i157_3 ?_
  refine down0 (n := n) (P := fun i => Wp _ _ _ 5 [.ref 171, .int (nI h), .int (nI 5), .int (sumN i (fun s => ifp (D 172 (30 + 8 * s + 0) = nI h) (nI 1) (nI 0))), .int (nI i)] [] D) ?_ ?_
  · skip
    refine w_ild4 i157_5 ?_
    refine w_ald0 i157_7 ?_
    refine w_gfR i157_8 (by decide) s_171 rfl ?_
    refine w_const i157_11 kc_0 ?_
    refine w_ial i157_12 s_172 (by decide) (by omega) hn ?_
    refine w_cgeNT i157_13 g157_13 (by omega) (by omega) (by omega) ?_
    refine w_ild3 i157_60 ?_
    refine w_ri i157_61 r157 ?_
    exact ⟨rfl, rfl⟩
  · intro i hi ih
    refine w_ild4 i157_5 ?_
    refine w_ald0 i157_7 ?_
    refine w_gfR i157_8 (by decide) s_171 rfl ?_
    refine w_const i157_11 kc_0 ?_
    refine w_ial i157_12 s_172 (by decide) (by omega) hn ?_
    refine w_cgeNF i157_13 (by omega) (by omega) (by omega) ?_
    refine w_ald0 i157_16 ?_
    refine w_gfR i157_17 (by decide) s_171 rfl ?_
    refine w_ild4 i157_20 ?_
    refine w_const i157_22 kc_0 ?_
    refine w_sI2 i157_23 c115 rfl  rfl ⟨rfl, Nat.le_of_ble_eq_true rfl⟩ T_in ?_
    refine w_ial i157_26 s_172 (by decide) (by omega) rfl ?_
    refine w_ild1 i157_27 ?_
    refine w_cne i157_28 g157_28  (fun h28 => ?_) (fun h28 => ?_)
    · skip
      refine w_inc4 i157_54 (inc1 _) ?_
      refine w_goto i157_57 g157_57 ?_
      rw [sumS] at ih
      first | (rw [ifp_t h28] at ih; exact ih) | (rw [ifp_f h28, add0] at ih; exact ih)
    · skip
      refine w_ild3 i157_31 ?_
      refine w_ild2 i157_32 ?_
      refine w_const i157_33 kc_5 ?_
      refine w_cneNF i157_34 (by omega) (by omega) (by omega) ?_
      refine w_const i157_37 kc_1 ?_
      refine w_goto i157_38 g157_38 ?_
      refine w_iadd i157_52 rfl ?_
      refine w_ist3 i157_53 ?_
      refine w_inc4 i157_54 (inc1 _) ?_
      refine w_goto i157_57 g157_57 ?_
      rw [sumS] at ih
      first | (rw [ifp_t h28] at ih; exact ih) | (rw [ifp_f h28, add0] at ih; exact ih)
set_option maxHeartbeats 100000 in
theorem P_houseOf_5 {d : Nat} {D : Mm} {V : Nat → Int32} {n : Nat} (hV : D 172 = V) (hn : V 0 = nI n) (h12 : n ≤ 12) {j : Nat} (hj : j < 6) : Ct (d + 6) 158 [.ref 171, .int (nI j), .int (nI 5)] D (Ex (some (.int (mCount n V (nI j)))) D) := by
  subst hV
  refine ent m158 rfl rfl (ls := [.ref 171, .int (nI j), .int (nI 5)]) rfl ?_
  refine w_ild1 i158_0 ?_
  refine w_sI1 i158_1 c116 rfl  rfl ⟨rfl, Nat.le_of_ble_eq_true rfl⟩ (T_isHouse_t hj) ?_
  refine w_ineNT i158_4 g158_4 (by omega) (by omega) ?_
  refine w_ild2 i158_11 ?_
  refine w_ts (t := 77) i158_12 (by decide) ?_
  refine w_ald0 i158_77 ?_
  refine w_ild1 i158_78 ?_
  refine w_ild2 i158_79 ?_
  refine w_vI3 i158_80 c157 (Or.inl rfl) ⟨by decide +kernel, by decide⟩ rfl ⟨rfl, Nat.le_of_ble_eq_true rfl⟩ (T_ofStubs5 hn h12) ?_
  refine w_ri i158_83 r158 ?_
  exact ⟨rfl, rfl⟩
set_option maxHeartbeats 100000 in
theorem T_ofStubs7 {d : Nat} {D : Mm} {n : Nat} (hn : D 172 0 = nI n) (h12 : n ≤ 12) {h : Nat} : Ct (d + 2) 157 [.ref 171, .int (nI h), .int (nI 7)] D (Ex (some (.int (mOwes n (D 172) (nI h)))) D) := by
  refine ent m157 rfl rfl (ls := [.ref 171, .int (nI h), .int (nI 7), .retAddr 0, .retAddr 0]) rfl ?_
  refine w_const i157_0 kc_0 ?_
  refine w_ist3 i157_1 ?_
  refine w_const i157_2 kc_0 ?_
  refine w_ist4 i157_3 ?_
  refine down0 (n := n) (P := fun i => Wp _ _ _ 5 [.ref 171, .int (nI h), .int (nI 7), .int (sumN i (fun s => ifp (D 172 (30 + 8 * s + 0) = nI h) (D 172 (30 + 8 * s + 4)) (nI 0))), .int (nI i)] [] D) ?_ ?_
  · skip
    refine w_ild4 i157_5 ?_
    refine w_ald0 i157_7 ?_
    refine w_gfR i157_8 (by decide) s_171 rfl ?_
    refine w_const i157_11 kc_0 ?_
    refine w_ial i157_12 s_172 (by decide) (by omega) hn ?_
    refine w_cgeNT i157_13 g157_13 (by omega) (by omega) (by omega) ?_
    refine w_ild3 i157_60 ?_
    refine w_ri i157_61 r157 ?_
    exact ⟨rfl, rfl⟩
  · intro i hi ih
    refine w_ild4 i157_5 ?_
    refine w_ald0 i157_7 ?_
    refine w_gfR i157_8 (by decide) s_171 rfl ?_
    refine w_const i157_11 kc_0 ?_
    refine w_ial i157_12 s_172 (by decide) (by omega) hn ?_
    refine w_cgeNF i157_13 (by omega) (by omega) (by omega) ?_
    refine w_ald0 i157_16 ?_
    refine w_gfR i157_17 (by decide) s_171 rfl ?_
    refine w_ild4 i157_20 ?_
    refine w_const i157_22 kc_0 ?_
    refine w_sI2 i157_23 c115 rfl  rfl ⟨rfl, Nat.le_of_ble_eq_true rfl⟩ T_in ?_
    refine w_ial i157_26 s_172 (by decide) (by omega) rfl ?_
    refine w_ild1 i157_27 ?_
    refine w_cne i157_28 g157_28  (fun h28 => ?_) (fun h28 => ?_)
    · skip
      refine w_inc4 i157_54 (inc1 _) ?_
      refine w_goto i157_57 g157_57 ?_
      rw [sumS] at ih
      first | (rw [ifp_t h28] at ih; exact ih) | (rw [ifp_f h28, add0] at ih; exact ih)
    · skip
      refine w_ild3 i157_31 ?_
      refine w_ild2 i157_32 ?_
      refine w_const i157_33 kc_5 ?_
      refine w_cneNT i157_34 g157_34 (by omega) (by omega) (by omega) ?_
      refine w_ald0 i157_41 ?_
      refine w_gfR i157_42 (by decide) s_171 rfl ?_
      refine w_ild4 i157_45 ?_
      refine w_const i157_47 kc_4 ?_
      refine w_sI2 i157_48 c115 rfl  rfl ⟨rfl, Nat.le_of_ble_eq_true rfl⟩ T_in ?_
      refine w_ial i157_51 s_172 (by decide) (by omega) rfl ?_
      refine w_iadd i157_52 rfl ?_
      refine w_ist3 i157_53 ?_
      refine w_inc4 i157_54 (inc1 _) ?_
      refine w_goto i157_57 g157_57 ?_
      rw [sumS] at ih
      first | (rw [ifp_t h28] at ih; exact ih) | (rw [ifp_f h28, add0] at ih; exact ih)
set_option maxHeartbeats 100000 in
theorem P_houseOf_7 {d : Nat} {D : Mm} {V : Nat → Int32} {n : Nat} (hV : D 172 = V) (hn : V 0 = nI n) (h12 : n ≤ 12) {j : Nat} (hj : j < 6) : Ct (d + 6) 158 [.ref 171, .int (nI j), .int (nI 7)] D (Ex (some (.int (mOwes n V (nI j)))) D) := by
  subst hV
  refine ent m158 rfl rfl (ls := [.ref 171, .int (nI j), .int (nI 7)]) rfl ?_
  refine w_ild1 i158_0 ?_
  refine w_sI1 i158_1 c116 rfl  rfl ⟨rfl, Nat.le_of_ble_eq_true rfl⟩ (T_isHouse_t hj) ?_
  refine w_ineNT i158_4 g158_4 (by omega) (by omega) ?_
  refine w_ild2 i158_11 ?_
  refine w_ts (t := 77) i158_12 (by decide) ?_
  refine w_ald0 i158_77 ?_
  refine w_ild1 i158_78 ?_
  refine w_ild2 i158_79 ?_
  refine w_vI3 i158_80 c157 (Or.inl rfl) ⟨by decide +kernel, by decide⟩ rfl ⟨rfl, Nat.le_of_ble_eq_true rfl⟩ (T_ofStubs7 hn h12) ?_
  refine w_ri i158_83 r158 ?_
  exact ⟨rfl, rfl⟩
set_option maxHeartbeats 100000 in
theorem P_houseOf_6 {d : Nat} {D : Mm} {V : Nat → Int32} {n : Nat} (hV : D 172 = V) (hn : V 0 = nI n) (h12 : n ≤ 12) {j : Nat} (hj : j < 6) : Ct (d + 6) 158 [.ref 171, .int (nI j), .int (nI 6)] D (Ex (some (.int (mWritsH n V (nI j)))) D) := by
  subst hV
  refine ent m158 rfl rfl (ls := [.ref 171, .int (nI j), .int (nI 6)]) rfl ?_
  refine w_ild1 i158_0 ?_
  refine w_sI1 i158_1 c116 rfl  rfl ⟨rfl, Nat.le_of_ble_eq_true rfl⟩ (T_isHouse_t hj) ?_
  refine w_ineNT i158_4 g158_4 (by omega) (by omega) ?_
  refine w_ild2 i158_11 ?_
  refine w_ts (t := 84) i158_12 (by decide) ?_
  refine w_ald0 i158_84 ?_
  refine w_ild1 i158_85 ?_
  refine w_vI2 i158_86 c123 (Or.inl rfl) ⟨by decide +kernel, by decide⟩ rfl ⟨rfl, Nat.le_of_ble_eq_true rfl⟩ (T_writsH hn h12 (nI_pos' (by omega))) ?_
  refine w_ri i158_89 r158 ?_
  exact ⟨rfl, rfl⟩
set_option maxHeartbeats 100000 in
theorem P_inherits_bad {d : Nat} {D : Mm} {a : Int32} (hb : badH a) : Ct (d + 6) 159 [.ref 171, .int a] D (Ex (some (.int (-1011))) D) := by
  refine ent m159 rfl rfl (ls := [.ref 171, .int a]) rfl ?_
  refine w_ild1 i159_0 ?_
  refine w_sI1 i159_1 c116 rfl  rfl ⟨rfl, Nat.le_of_ble_eq_true rfl⟩ (T_isHouse_f hb) ?_
  refine w_ineNF i159_4 (by omega) (by omega) ?_
  refine w_sip i159_7 ks_m1011 ?_
  refine w_ri i159_10 r159 ?_
  exact ⟨rfl, rfl⟩
set_option maxHeartbeats 100000 in
theorem P_inherits_no {d : Nat} {D : Mm} {V : Nat → Int32} (hV : D 172 = V) {j : Nat} (hj : j < 6) (hO : ¬ vOpen V j ∨ mOpens V ≤ nI 1) : Ct (d + 6) 159 [.ref 171, .int (nI j)] D (Ex (some (.int (-1015))) D) := by
  subst hV
  refine ent m159 rfl rfl (ls := [.ref 171, .int (nI j)]) rfl ?_
  refine w_ild1 i159_0 ?_
  refine w_sI1 i159_1 c116 rfl  rfl ⟨rfl, Nat.le_of_ble_eq_true rfl⟩ (T_isHouse_t hj) ?_
  refine w_ineNT i159_4 g159_4 (by omega) (by omega) ?_
  refine w_ald0 i159_11 ?_
  refine w_ild1 i159_12 ?_
  by_cases hO2 : vOpen (D 172) j
  · skip
    refine w_vI2 i159_13 c118 (Or.inl rfl) ⟨by decide +kernel, by decide⟩ rfl ⟨rfl, Nat.le_of_ble_eq_true rfl⟩ (T_isOpen_t hj hO2) ?_
    refine w_ieqNF i159_16 (by omega) (by omega) ?_
    refine w_ald0 i159_19 ?_
    refine w_vI1 i159_20 c119 (Or.inl rfl) ⟨by decide +kernel, by decide⟩ rfl ⟨rfl, Nat.le_of_ble_eq_true rfl⟩ T_opens ?_
    refine w_const i159_23 kc_1 ?_
    refine w_cle i159_24 g159_24  (fun h24 => ?_) (fun h24 => ?_)
    · skip
      refine w_sip i159_35 ks_m1015 ?_
      refine w_ri i159_38 r159 ?_
      exact ⟨rfl, rfl⟩
    · skip
      refine w_ald0 i159_27 ?_
      refine w_ild1 i159_28 ?_
      refine w_vG2 i159_29 c150 (Or.inl rfl) ⟨by decide +kernel, by decide⟩ rfl ⟨rfl, Nat.le_of_ble_eq_true rfl⟩ ?_
      exact absurd (hO.resolve_left (fun q => q hO2)) (Int32.not_le.mpr h24)
  · skip
    refine w_vI2 i159_13 c118 (Or.inl rfl) ⟨by decide +kernel, by decide⟩ rfl ⟨rfl, Nat.le_of_ble_eq_true rfl⟩ (T_isOpen_f hj hO2) ?_
    refine w_ieqNT i159_16 g159_16 (by omega) (by omega) ?_
    refine w_sip i159_35 ks_m1015 ?_
    refine w_ri i159_38 r159 ?_
    exact ⟨rfl, rfl⟩
set_option maxHeartbeats 100000 in
theorem P_inherits {d : Nat} {D : Mm} {V : Nat → Int32} (hV : D 172 = V) {j : Nat} (hj : j < 6) {r : Nat} (hh : okHr V) (hO : vOpen V j) (h1 : nI 1 < mOpens V) (he : vSucc V j = some r) : Ct (d + 6) 159 [.ref 171, .int (nI j)] D (Ex (some (.int (nI r))) D) := by
  subst hV
  refine ent m159 rfl rfl (ls := [.ref 171, .int (nI j)]) rfl ?_
  refine w_ild1 i159_0 ?_
  refine w_sI1 i159_1 c116 rfl  rfl ⟨rfl, Nat.le_of_ble_eq_true rfl⟩ (T_isHouse_t hj) ?_
  refine w_ineNT i159_4 g159_4 (by omega) (by omega) ?_
  refine w_ald0 i159_11 ?_
  refine w_ild1 i159_12 ?_
  refine w_vI2 i159_13 c118 (Or.inl rfl) ⟨by decide +kernel, by decide⟩ rfl ⟨rfl, Nat.le_of_ble_eq_true rfl⟩ (T_isOpen_t hj hO) ?_
  refine w_ieqNF i159_16 (by omega) (by omega) ?_
  refine w_ald0 i159_19 ?_
  refine w_vI1 i159_20 c119 (Or.inl rfl) ⟨by decide +kernel, by decide⟩ rfl ⟨rfl, Nat.le_of_ble_eq_true rfl⟩ T_opens ?_
  refine w_const i159_23 kc_1 ?_
  refine w_cleF i159_24  h1 ?_
  refine w_ald0 i159_27 ?_
  refine w_ild1 i159_28 ?_
  refine w_vG2 i159_29 c150 (Or.inl rfl) ⟨by decide +kernel, by decide⟩ rfl ⟨rfl, Nat.le_of_ble_eq_true rfl⟩ ?_
  refine T_inForce rfl hj hh he ?_
  refine w_goto i159_32 g159_32 ?_
  refine w_ri i159_38 r159 ?_
  exact ⟨rfl, rfl⟩
set_option maxHeartbeats 100000 in
theorem P_wouldMelt_bad {d : Nat} {D : Mm} {a : Int32} (hb : badH a) : Ct (d + 6) 160 [.ref 171, .int a] D (Ex (some (.int (-1011))) D) := by
  refine ent m160 rfl rfl (ls := [.ref 171, .int a, .retAddr 0]) rfl ?_
  refine w_ild1 i160_0 ?_
  refine w_sI1 i160_1 c116 rfl  rfl ⟨rfl, Nat.le_of_ble_eq_true rfl⟩ (T_isHouse_f hb) ?_
  refine w_ineNF i160_4 (by omega) (by omega) ?_
  refine w_sip i160_7 ks_m1011 ?_
  refine w_ri i160_10 r160 ?_
  exact ⟨rfl, rfl⟩
set_option maxHeartbeats 100000 in
theorem P_wouldMelt_no {d : Nat} {D : Mm} {V : Nat → Int32} (hV : D 172 = V) {j : Nat} (hj : j < 6) (hO : ¬ vOpen V j ∨ mOpens V = nI 1) : Ct (d + 6) 160 [.ref 171, .int (nI j)] D (Ex (some (.int (-1015))) D) := by
  subst hV
  refine ent m160 rfl rfl (ls := [.ref 171, .int (nI j), .retAddr 0]) rfl ?_
  refine w_ild1 i160_0 ?_
  refine w_sI1 i160_1 c116 rfl  rfl ⟨rfl, Nat.le_of_ble_eq_true rfl⟩ (T_isHouse_t hj) ?_
  refine w_ineNT i160_4 g160_4 (by omega) (by omega) ?_
  refine w_ald0 i160_11 ?_
  refine w_ild1 i160_12 ?_
  by_cases hO2 : vOpen (D 172) j
  · skip
    refine w_vI2 i160_13 c118 (Or.inl rfl) ⟨by decide +kernel, by decide⟩ rfl ⟨rfl, Nat.le_of_ble_eq_true rfl⟩ (T_isOpen_t hj hO2) ?_
    refine w_ieqNF i160_16 (by omega) (by omega) ?_
    refine w_ald0 i160_19 ?_
    refine w_vI1 i160_20 c119 (Or.inl rfl) ⟨by decide +kernel, by decide⟩ rfl ⟨rfl, Nat.le_of_ble_eq_true rfl⟩ T_opens ?_
    refine w_const i160_23 kc_1 ?_
    refine w_cne i160_24 g160_24  (fun h24 => ?_) (fun h24 => ?_)
    · skip
      exact absurd (hO.resolve_left (fun q => q hO2)) h24
    · skip
      refine w_sip i160_27 ks_m1015 ?_
      refine w_ri i160_30 r160 ?_
      exact ⟨rfl, rfl⟩
  · skip
    refine w_vI2 i160_13 c118 (Or.inl rfl) ⟨by decide +kernel, by decide⟩ rfl ⟨rfl, Nat.le_of_ble_eq_true rfl⟩ (T_isOpen_f hj hO2) ?_
    refine w_ieqNT i160_16 g160_16 (by omega) (by omega) ?_
    refine w_sip i160_27 ks_m1015 ?_
    refine w_ri i160_30 r160 ?_
    exact ⟨rfl, rfl⟩
set_option maxHeartbeats 100000 in
theorem P_wouldMelt {d : Nat} {D : Mm} {Q : Option Value → Mm → Prop} {V : Nat → Int32} {n : Nat} (hV : D 172 = V) (hn : V 0 = nI n) (h12 : n ≤ 12) {j : Nat} (hj : j < 6) {r : Nat} (hh : okHr V) (hO : vOpen V j) (h1 : mOpens V ≠ nI 1) (he : vSucc V j = some r) (hq : ∀ D2 : Mm, (∀ i, i < 126 → D2 172 i = D 172 i) → (∀ i, i ≠ 16 → D2 171 i = D 171 i) → (∀ q, q ≠ 171 → q ≠ 172 → q ≠ 175 → D2 q = D q) → Q (some (.int (nI (vClosed n V j r).1))) D2) : Ct (d + 6) 160 [.ref 171, .int (nI j)] D Q := by
  subst hV
  refine ent m160 rfl rfl (ls := [.ref 171, .int (nI j), .retAddr 0]) rfl ?_
  refine w_ild1 i160_0 ?_
  refine w_sI1 i160_1 c116 rfl  rfl ⟨rfl, Nat.le_of_ble_eq_true rfl⟩ (T_isHouse_t hj) ?_
  refine w_ineNT i160_4 g160_4 (by omega) (by omega) ?_
  refine w_ald0 i160_11 ?_
  refine w_ild1 i160_12 ?_
  refine w_vI2 i160_13 c118 (Or.inl rfl) ⟨by decide +kernel, by decide⟩ rfl ⟨rfl, Nat.le_of_ble_eq_true rfl⟩ (T_isOpen_t hj hO) ?_
  refine w_ieqNF i160_16 (by omega) (by omega) ?_
  refine w_ald0 i160_19 ?_
  refine w_vI1 i160_20 c119 (Or.inl rfl) ⟨by decide +kernel, by decide⟩ rfl ⟨rfl, Nat.le_of_ble_eq_true rfl⟩ T_opens ?_
  refine w_const i160_23 kc_1 ?_
  refine w_cneT i160_24 g160_24  h1 ?_
  refine w_ald0 i160_31 ?_
  refine w_gfR i160_32 (by decide) s_171 rfl ?_
  refine w_ald0 i160_35 ?_
  refine w_gfR i160_36 (by decide) s_171 rfl ?_
  refine w_sV2 i160_39 c111 rfl  rfl ⟨rfl, Nat.le_of_ble_eq_true rfl⟩ (T_lays s_175 s_172 (by decide) rfl rfl) ?_
  refine w_ald0 i160_42 ?_
  refine w_ild1 i160_43 ?_
  refine w_vG2 i160_44 c153 (Or.inl rfl) ⟨by decide +kernel, by decide⟩ rfl ⟨rfl, Nat.le_of_ble_eq_true rfl⟩ ?_
  refine T_closes_ok (V := D 172) (cpyF (by decide)) hn h12 hj hh hO h1 he (fun D4 g1 g2 g3 g4 => ?_)
  refine w_ist2 i160_47 ?_
  refine w_ald0 i160_48 ?_
  refine w_gfR i160_49 (by decide) s_171 rfl ?_
  refine w_ald0 i160_52 ?_
  refine w_gfR i160_53 (by decide) s_171 rfl ?_
  refine w_sV2 i160_56 c111 rfl  rfl ⟨rfl, Nat.le_of_ble_eq_true rfl⟩ (T_lays s_172 s_175 (by decide) rfl rfl) ?_
  refine w_ald0 i160_59 ?_
  refine w_gfI i160_60 (by decide) s_171 rfl g2 ?_
  refine w_ri i160_63 r160 ?_
  refine hq _ (fun i hi => ?_) (fun i hi => ?_) (fun q a b e => ?_)
  · unfold cpy; rw [if_pos rfl, if_pos hi, g4 175 (by decide) (by decide)]; unfold cpy; rw [if_pos rfl, if_pos hi]
  · rw [cpyF (by decide), g3 i hi, cpyF (by decide)]
  · rw [cpyF b, g4 q a b, cpyF e]
set_option maxHeartbeats 100000 in
theorem P_weight_bad {d : Nat} {D : Mm} {a : Int32} (hb : badH a) : Ct (d + 6) 161 [.ref 171, .int a] D (Ex (some (.int (-1011))) D) := by
  refine ent m161 rfl rfl (ls := [.ref 171, .int a]) rfl ?_
  refine w_ild1 i161_0 ?_
  refine w_sI1 i161_1 c116 rfl  rfl ⟨rfl, Nat.le_of_ble_eq_true rfl⟩ (T_isHouse_f hb) ?_
  refine w_ieqNT i161_4 g161_4 (by omega) (by omega) ?_
  refine w_sip i161_15 ks_m1011 ?_
  refine w_ri i161_18 r161 ?_
  exact ⟨rfl, rfl⟩
set_option maxHeartbeats 100000 in
theorem P_weight {d : Nat} {D : Mm} {V : Nat → Int32} {n : Nat} (hV : D 172 = V) (hn : V 0 = nI n) (h12 : n ≤ 12) {j : Nat} (hj : j < 6) : Ct (d + 6) 161 [.ref 171, .int (nI j)] D (Ex (some (.int (mTray n V (nI j)))) D) := by
  subst hV
  refine ent m161 rfl rfl (ls := [.ref 171, .int (nI j)]) rfl ?_
  refine w_ild1 i161_0 ?_
  refine w_sI1 i161_1 c116 rfl  rfl ⟨rfl, Nat.le_of_ble_eq_true rfl⟩ (T_isHouse_t hj) ?_
  refine w_ieqNF i161_4 (by omega) (by omega) ?_
  refine w_ald0 i161_7 ?_
  refine w_ild1 i161_8 ?_
  refine w_vI2 i161_9 c120 (Or.inl rfl) ⟨by decide +kernel, by decide⟩ rfl ⟨rfl, Nat.le_of_ble_eq_true rfl⟩ (T_tray hn h12) ?_
  refine w_goto i161_12 g161_12 ?_
  refine w_ri i161_18 r161 ?_
  exact ⟨rfl, rfl⟩
set_option maxHeartbeats 100000 in
theorem P_weightAgain_bad {d : Nat} {D : Mm} {a : Int32} (hb : badH a) : Ct (d + 7) 162 [.ref 171, .int a] D (Ex (some (.int (-1011))) D) := by
  refine ent m162 rfl rfl (ls := [.ref 171, .int a]) rfl ?_
  refine w_ald0 i162_0 ?_
  refine w_ild1 i162_1 ?_
  refine w_vI2 i162_2 c161 (Or.inl rfl) ⟨by decide +kernel, by decide⟩ rfl ⟨rfl, Nat.le_of_ble_eq_true rfl⟩ (P_weight_bad hb) ?_
  refine w_ri i162_5 r162 ?_
  exact ⟨rfl, rfl⟩
set_option maxHeartbeats 100000 in
theorem P_weightAgain {d : Nat} {D : Mm} {V : Nat → Int32} {n : Nat} (hV : D 172 = V) (hn : V 0 = nI n) (h12 : n ≤ 12) {j : Nat} (hj : j < 6) : Ct (d + 7) 162 [.ref 171, .int (nI j)] D (Ex (some (.int (mTray n V (nI j)))) D) := by
  refine ent m162 rfl rfl (ls := [.ref 171, .int (nI j)]) rfl ?_
  refine w_ald0 i162_0 ?_
  refine w_ild1 i162_1 ?_
  refine w_vI2 i162_2 c161 (Or.inl rfl) ⟨by decide +kernel, by decide⟩ rfl ⟨rfl, Nat.le_of_ble_eq_true rfl⟩ (P_weight hV hn h12 hj) ?_
  refine w_ri i162_5 r162 ?_
  exact ⟨rfl, rfl⟩
noncomputable def frk (f : Nat → Int32) (p : Int32) : Nat → Nat → Int32
  | 0, _ => -1011
  | k + 1, h => ifp (f h = p) (nI h) (frk f p k (h + 1))
noncomputable def mBy (n : Nat) (V : Nat → Int32) (h o : Nat) : Int32 := ifp (mClaim n V o - mClaim n V h = 0) (V (6 + 4 * o + 2) - V (6 + 4 * h + 2)) (mClaim n V o - mClaim n V h)
noncomputable def mRk1 (n : Nat) (V : Nat → Int32) (h o : Nat) : Int32 := ifp (o = h) (nI 0) (ifp (0 < mBy n V h o) (nI 1) (ifp (mBy n V h o = 0) (ifp (o < h) (nI 1) (nI 0)) (nI 0)))
noncomputable def mRank (n : Nat) (V : Nat → Int32) (h : Nat) : Int32 := sumN 6 (mRk1 n V h)
noncomputable def sBy (V : Nat → Int32) (h o : Nat) : Int32 := ifp (V (30 + 8 * o + 1) * V (30 + 8 * o + 2) - V (30 + 8 * h + 1) * V (30 + 8 * h + 2) = 0) (V (30 + 8 * h + 4) - V (30 + 8 * o + 4)) (V (30 + 8 * o + 1) * V (30 + 8 * o + 2) - V (30 + 8 * h + 1) * V (30 + 8 * h + 2))
noncomputable def sRk1 (V : Nat → Int32) (h o : Nat) : Int32 := ifp (o = h) (nI 0) (ifp (0 < sBy V h o) (nI 1) (ifp (sBy V h o = 0) (ifp (o < h) (nI 1) (nI 0)) (nI 0)))
noncomputable def sRank (n : Nat) (V : Nat → Int32) (h : Nat) : Int32 := sumN n (sRk1 V h)

set_option maxHeartbeats 100000 in
theorem P_ranked {d : Nat} {D : Mm} {Q : Option Value → Mm → Prop} {n : Nat} (hn : D 172 0 = nI n) (h12 : n ≤ 12) {p : Int32} (hq : Q (some (.int (frk (mRank n (D 172)) p 6 0))) D) : Ct (d + 6) 163 [.ref 171, .int p] D Q := by
  refine ent m163 rfl rfl (ls := [.ref 171, .int p, .retAddr 0, .retAddr 0, .retAddr 0, .retAddr 0]) rfl ?_
  refine w_const i163_0 kc_0 ?_
  refine w_ist2 i163_1 ?_
  have L2 : ∀ k h (w u x : Value), nvB w = true → nvB u = true → nvB x = true → h + k = 6 → Q (some (.int (frk (mRank n (D 172)) p k h))) D → Wp (d + 5) 163 Q 2 [.ref 171, .int p, .int (nI h), w, u, x] [] D := by
    intro k
    induction k with
    | zero =>
      intro h w u x hw hu hx hk hq
      refine w_ild2 i163_2 ?_
      refine w_bip i163_3 kb_6 ?_
      refine w_cgeNT i163_5 g163_5 (by omega) (by omega) (by omega) ?_
      refine w_sip i163_117 ks_m1011 ?_
      refine w_ri i163_120 r163 ?_
      first | exact hq | (rw [show sumN 6 (mRk1 n (D 172) h) = mRank n (D 172) h from rfl] at h106; rw [ifp_t h106] at hq; exact hq)
    | succ k ih =>
      intro h w u x hw hu hx hk hq
      unfold frk at hq
      refine w_ild2 i163_2 ?_
      refine w_bip i163_3 kb_6 ?_
      refine w_cgeNF i163_5 (by omega) (by omega) (by omega) ?_
      refine w_const i163_8 kc_0 ?_
      refine w_ist3 i163_9 ?_
      refine w_const i163_10 kc_0 ?_
      refine w_ist4 i163_11 ?_
      refine down0 (n := 6) (P := fun i => ∀ (x : Value), nvB x = true → Wp _ _ _ 13 [.ref 171, .int p, .int (nI h), .int (sumN i (mRk1 n (D 172) h)), .int (nI i), x] [] D) ?_ ?_ _ (by first | rfl | assumption)
      · intro x hx
        refine w_ild4 i163_13 ?_
        refine w_bip i163_15 kb_6 ?_
        refine w_cgeNT i163_17 g163_17 (by omega) (by omega) (by omega) ?_
        refine w_ild3 i163_104 ?_
        refine w_ild1 i163_105 ?_
        refine w_cne i163_106 g163_106  (fun h106 => ?_) (fun h106 => ?_)
        · skip
          refine w_inc2 i163_111 (inc1 _) ?_
          refine w_goto i163_114 g163_114 ?_
          rw [show sumN 6 (mRk1 n (D 172) h) = mRank n (D 172) h from rfl] at h106
          rw [ifp_f h106] at hq
          exact ih _ _ _ _ (by first | rfl | assumption) (by first | rfl | assumption) (by first | rfl | assumption) (by omega) hq
        · skip
          refine w_ild2 i163_109 ?_
          refine w_ri i163_110 r163 ?_
          first | exact hq | (rw [show sumN 6 (mRk1 n (D 172) h) = mRank n (D 172) h from rfl] at h106; rw [ifp_t h106] at hq; exact hq)
      · intro i hi ih x hx
        refine w_ild4 i163_13 ?_
        refine w_bip i163_15 kb_6 ?_
        refine w_cgeNF i163_17 (by omega) (by omega) (by omega) ?_
        refine w_ald0 i163_20 ?_
        refine w_ild4 i163_21 ?_
        refine w_vI2 i163_23 c139 (Or.inl rfl) ⟨by decide +kernel, by decide⟩ (by repeat (first | exact nv_nil | refine nv_cons (by first | rfl | assumption) ?_)) ⟨rfl, Nat.le_of_ble_eq_true rfl⟩ (T_claim hn h12 (by omega)) ?_
        refine w_ald0 i163_26 ?_
        refine w_ild2 i163_27 ?_
        refine w_vI2 i163_28 c139 (Or.inl rfl) ⟨by decide +kernel, by decide⟩ (by repeat (first | exact nv_nil | refine nv_cons (by first | rfl | assumption) ?_)) ⟨rfl, Nat.le_of_ble_eq_true rfl⟩ (T_claim hn h12 (by omega)) ?_
        refine w_isub i163_31 rfl ?_
        refine w_ist5 i163_32 ?_
        refine w_ild5 i163_34 ?_
        refine w_ieq i163_36 g163_36  (fun h36 => ?_) (fun h36 => ?_)
        · skip
          refine w_ald0 i163_44 ?_
          refine w_gfR i163_45 (by decide) s_171 rfl ?_
          refine w_ild4 i163_48 ?_
          refine w_const i163_50 kc_2 ?_
          refine w_sI2 i163_51 c114 rfl  (by repeat (first | exact nv_nil | refine nv_cons (by first | rfl | assumption) ?_)) ⟨rfl, Nat.le_of_ble_eq_true rfl⟩ T_at ?_
          refine w_ial i163_54 s_172 (by decide) (by omega) rfl ?_
          refine w_ald0 i163_55 ?_
          refine w_gfR i163_56 (by decide) s_171 rfl ?_
          refine w_ild2 i163_59 ?_
          refine w_const i163_60 kc_2 ?_
          refine w_sI2 i163_61 c114 rfl  (by repeat (first | exact nv_nil | refine nv_cons (by first | rfl | assumption) ?_)) ⟨rfl, Nat.le_of_ble_eq_true rfl⟩ T_at ?_
          refine w_ial i163_64 s_172 (by decide) (by omega) rfl ?_
          refine w_isub i163_65 rfl ?_
          refine w_ist5 i163_66 ?_
          refine w_ild3 i163_68 ?_
          refine w_ild4 i163_69 ?_
          refine w_ild2 i163_71 ?_
          refine w_ceqN i163_72 g163_72 (by omega) (by omega) (fun h72 => ?_) (fun h72 => ?_)
          · skip
            refine w_const i163_95 kc_0 ?_
            refine w_iadd i163_96 rfl ?_
            refine w_ist3 i163_97 ?_
            refine w_inc4 i163_98 (inc1 _) ?_
            refine w_goto i163_101 g163_101 ?_
            rw [sumS, show mRk1 n (D 172) h i = ifp (i = h) (nI 0) (ifp (0 < mBy n (D 172) h i) (nI 1) (ifp (mBy n (D 172) h i = 0) (ifp (i < h) (nI 1) (nI 0)) (nI 0))) from rfl] at ih
            first
              | (rw [show mBy n (D 172) h i = D 172 (6 + 4 * i + 2) - D 172 (6 + 4 * h + 2) from ifp_t h36] at ih; rw [ifp_t h72] at ih; exact ih _ (by first | rfl | assumption))
              | (rw [show mBy n (D 172) h i = D 172 (6 + 4 * i + 2) - D 172 (6 + 4 * h + 2) from ifp_t h36] at ih; rw [ifp_f h72, ifp_t h77] at ih; exact ih _ (by first | rfl | assumption))
              | (rw [show mBy n (D 172) h i = D 172 (6 + 4 * i + 2) - D 172 (6 + 4 * h + 2) from ifp_t h36] at ih; rw [ifp_f h72, ifp_f (Int32.not_lt.mpr h77), ifp_f h82] at ih; exact ih _ (by first | rfl | assumption))
              | (rw [show mBy n (D 172) h i = D 172 (6 + 4 * i + 2) - D 172 (6 + 4 * h + 2) from ifp_t h36] at ih; rw [ifp_f h72, ifp_f (Int32.not_lt.mpr h77), ifp_t h82, ifp_t h88] at ih; exact ih _ (by first | rfl | assumption))
              | (rw [show mBy n (D 172) h i = D 172 (6 + 4 * i + 2) - D 172 (6 + 4 * h + 2) from ifp_t h36] at ih; rw [ifp_f h72, ifp_f (Int32.not_lt.mpr h77), ifp_t h82, ifp_f (Nat.not_lt.mpr h88)] at ih; exact ih _ (by first | rfl | assumption))
              | (rw [show mBy n (D 172) h i = mClaim n (D 172) i - mClaim n (D 172) h from ifp_f h36] at ih; rw [ifp_t h72] at ih; exact ih _ (by first | rfl | assumption))
              | (rw [show mBy n (D 172) h i = mClaim n (D 172) i - mClaim n (D 172) h from ifp_f h36] at ih; rw [ifp_f h72, ifp_t h77] at ih; exact ih _ (by first | rfl | assumption))
              | (rw [show mBy n (D 172) h i = mClaim n (D 172) i - mClaim n (D 172) h from ifp_f h36] at ih; rw [ifp_f h72, ifp_f (Int32.not_lt.mpr h77), ifp_f h82] at ih; exact ih _ (by first | rfl | assumption))
              | (rw [show mBy n (D 172) h i = mClaim n (D 172) i - mClaim n (D 172) h from ifp_f h36] at ih; rw [ifp_f h72, ifp_f (Int32.not_lt.mpr h77), ifp_t h82, ifp_t h88] at ih; exact ih _ (by first | rfl | assumption))
              | (rw [show mBy n (D 172) h i = mClaim n (D 172) i - mClaim n (D 172) h from ifp_f h36] at ih; rw [ifp_f h72, ifp_f (Int32.not_lt.mpr h77), ifp_t h82, ifp_f (Nat.not_lt.mpr h88)] at ih; exact ih _ (by first | rfl | assumption))
          · skip
            refine w_ild5 i163_75 ?_
            refine w_igt i163_77 g163_77  (fun h77 => ?_) (fun h77 => ?_)
            · skip
              refine w_const i163_91 kc_1 ?_
              refine w_goto i163_92 g163_92 ?_
              refine w_iadd i163_96 rfl ?_
              refine w_ist3 i163_97 ?_
              refine w_inc4 i163_98 (inc1 _) ?_
              refine w_goto i163_101 g163_101 ?_
              rw [sumS, show mRk1 n (D 172) h i = ifp (i = h) (nI 0) (ifp (0 < mBy n (D 172) h i) (nI 1) (ifp (mBy n (D 172) h i = 0) (ifp (i < h) (nI 1) (nI 0)) (nI 0))) from rfl] at ih
              first
                | (rw [show mBy n (D 172) h i = D 172 (6 + 4 * i + 2) - D 172 (6 + 4 * h + 2) from ifp_t h36] at ih; rw [ifp_t h72] at ih; exact ih _ (by first | rfl | assumption))
                | (rw [show mBy n (D 172) h i = D 172 (6 + 4 * i + 2) - D 172 (6 + 4 * h + 2) from ifp_t h36] at ih; rw [ifp_f h72, ifp_t h77] at ih; exact ih _ (by first | rfl | assumption))
                | (rw [show mBy n (D 172) h i = D 172 (6 + 4 * i + 2) - D 172 (6 + 4 * h + 2) from ifp_t h36] at ih; rw [ifp_f h72, ifp_f (Int32.not_lt.mpr h77), ifp_f h82] at ih; exact ih _ (by first | rfl | assumption))
                | (rw [show mBy n (D 172) h i = D 172 (6 + 4 * i + 2) - D 172 (6 + 4 * h + 2) from ifp_t h36] at ih; rw [ifp_f h72, ifp_f (Int32.not_lt.mpr h77), ifp_t h82, ifp_t h88] at ih; exact ih _ (by first | rfl | assumption))
                | (rw [show mBy n (D 172) h i = D 172 (6 + 4 * i + 2) - D 172 (6 + 4 * h + 2) from ifp_t h36] at ih; rw [ifp_f h72, ifp_f (Int32.not_lt.mpr h77), ifp_t h82, ifp_f (Nat.not_lt.mpr h88)] at ih; exact ih _ (by first | rfl | assumption))
                | (rw [show mBy n (D 172) h i = mClaim n (D 172) i - mClaim n (D 172) h from ifp_f h36] at ih; rw [ifp_t h72] at ih; exact ih _ (by first | rfl | assumption))
                | (rw [show mBy n (D 172) h i = mClaim n (D 172) i - mClaim n (D 172) h from ifp_f h36] at ih; rw [ifp_f h72, ifp_t h77] at ih; exact ih _ (by first | rfl | assumption))
                | (rw [show mBy n (D 172) h i = mClaim n (D 172) i - mClaim n (D 172) h from ifp_f h36] at ih; rw [ifp_f h72, ifp_f (Int32.not_lt.mpr h77), ifp_f h82] at ih; exact ih _ (by first | rfl | assumption))
                | (rw [show mBy n (D 172) h i = mClaim n (D 172) i - mClaim n (D 172) h from ifp_f h36] at ih; rw [ifp_f h72, ifp_f (Int32.not_lt.mpr h77), ifp_t h82, ifp_t h88] at ih; exact ih _ (by first | rfl | assumption))
                | (rw [show mBy n (D 172) h i = mClaim n (D 172) i - mClaim n (D 172) h from ifp_f h36] at ih; rw [ifp_f h72, ifp_f (Int32.not_lt.mpr h77), ifp_t h82, ifp_f (Nat.not_lt.mpr h88)] at ih; exact ih _ (by first | rfl | assumption))
            · skip
              refine w_ild5 i163_80 ?_
              refine w_ine i163_82 g163_82  (fun h82 => ?_) (fun h82 => ?_)
              · skip
                refine w_const i163_95 kc_0 ?_
                refine w_iadd i163_96 rfl ?_
                refine w_ist3 i163_97 ?_
                refine w_inc4 i163_98 (inc1 _) ?_
                refine w_goto i163_101 g163_101 ?_
                rw [sumS, show mRk1 n (D 172) h i = ifp (i = h) (nI 0) (ifp (0 < mBy n (D 172) h i) (nI 1) (ifp (mBy n (D 172) h i = 0) (ifp (i < h) (nI 1) (nI 0)) (nI 0))) from rfl] at ih
                first
                  | (rw [show mBy n (D 172) h i = D 172 (6 + 4 * i + 2) - D 172 (6 + 4 * h + 2) from ifp_t h36] at ih; rw [ifp_t h72] at ih; exact ih _ (by first | rfl | assumption))
                  | (rw [show mBy n (D 172) h i = D 172 (6 + 4 * i + 2) - D 172 (6 + 4 * h + 2) from ifp_t h36] at ih; rw [ifp_f h72, ifp_t h77] at ih; exact ih _ (by first | rfl | assumption))
                  | (rw [show mBy n (D 172) h i = D 172 (6 + 4 * i + 2) - D 172 (6 + 4 * h + 2) from ifp_t h36] at ih; rw [ifp_f h72, ifp_f (Int32.not_lt.mpr h77), ifp_f h82] at ih; exact ih _ (by first | rfl | assumption))
                  | (rw [show mBy n (D 172) h i = D 172 (6 + 4 * i + 2) - D 172 (6 + 4 * h + 2) from ifp_t h36] at ih; rw [ifp_f h72, ifp_f (Int32.not_lt.mpr h77), ifp_t h82, ifp_t h88] at ih; exact ih _ (by first | rfl | assumption))
                  | (rw [show mBy n (D 172) h i = D 172 (6 + 4 * i + 2) - D 172 (6 + 4 * h + 2) from ifp_t h36] at ih; rw [ifp_f h72, ifp_f (Int32.not_lt.mpr h77), ifp_t h82, ifp_f (Nat.not_lt.mpr h88)] at ih; exact ih _ (by first | rfl | assumption))
                  | (rw [show mBy n (D 172) h i = mClaim n (D 172) i - mClaim n (D 172) h from ifp_f h36] at ih; rw [ifp_t h72] at ih; exact ih _ (by first | rfl | assumption))
                  | (rw [show mBy n (D 172) h i = mClaim n (D 172) i - mClaim n (D 172) h from ifp_f h36] at ih; rw [ifp_f h72, ifp_t h77] at ih; exact ih _ (by first | rfl | assumption))
                  | (rw [show mBy n (D 172) h i = mClaim n (D 172) i - mClaim n (D 172) h from ifp_f h36] at ih; rw [ifp_f h72, ifp_f (Int32.not_lt.mpr h77), ifp_f h82] at ih; exact ih _ (by first | rfl | assumption))
                  | (rw [show mBy n (D 172) h i = mClaim n (D 172) i - mClaim n (D 172) h from ifp_f h36] at ih; rw [ifp_f h72, ifp_f (Int32.not_lt.mpr h77), ifp_t h82, ifp_t h88] at ih; exact ih _ (by first | rfl | assumption))
                  | (rw [show mBy n (D 172) h i = mClaim n (D 172) i - mClaim n (D 172) h from ifp_f h36] at ih; rw [ifp_f h72, ifp_f (Int32.not_lt.mpr h77), ifp_t h82, ifp_f (Nat.not_lt.mpr h88)] at ih; exact ih _ (by first | rfl | assumption))
              · skip
                refine w_ild4 i163_85 ?_
                refine w_ild2 i163_87 ?_
                refine w_cgeN i163_88 g163_88 (by omega) (by omega) (fun h88 => ?_) (fun h88 => ?_)
                · skip
                  refine w_const i163_95 kc_0 ?_
                  refine w_iadd i163_96 rfl ?_
                  refine w_ist3 i163_97 ?_
                  refine w_inc4 i163_98 (inc1 _) ?_
                  refine w_goto i163_101 g163_101 ?_
                  rw [sumS, show mRk1 n (D 172) h i = ifp (i = h) (nI 0) (ifp (0 < mBy n (D 172) h i) (nI 1) (ifp (mBy n (D 172) h i = 0) (ifp (i < h) (nI 1) (nI 0)) (nI 0))) from rfl] at ih
                  first
                    | (rw [show mBy n (D 172) h i = D 172 (6 + 4 * i + 2) - D 172 (6 + 4 * h + 2) from ifp_t h36] at ih; rw [ifp_t h72] at ih; exact ih _ (by first | rfl | assumption))
                    | (rw [show mBy n (D 172) h i = D 172 (6 + 4 * i + 2) - D 172 (6 + 4 * h + 2) from ifp_t h36] at ih; rw [ifp_f h72, ifp_t h77] at ih; exact ih _ (by first | rfl | assumption))
                    | (rw [show mBy n (D 172) h i = D 172 (6 + 4 * i + 2) - D 172 (6 + 4 * h + 2) from ifp_t h36] at ih; rw [ifp_f h72, ifp_f (Int32.not_lt.mpr h77), ifp_f h82] at ih; exact ih _ (by first | rfl | assumption))
                    | (rw [show mBy n (D 172) h i = D 172 (6 + 4 * i + 2) - D 172 (6 + 4 * h + 2) from ifp_t h36] at ih; rw [ifp_f h72, ifp_f (Int32.not_lt.mpr h77), ifp_t h82, ifp_t h88] at ih; exact ih _ (by first | rfl | assumption))
                    | (rw [show mBy n (D 172) h i = D 172 (6 + 4 * i + 2) - D 172 (6 + 4 * h + 2) from ifp_t h36] at ih; rw [ifp_f h72, ifp_f (Int32.not_lt.mpr h77), ifp_t h82, ifp_f (Nat.not_lt.mpr h88)] at ih; exact ih _ (by first | rfl | assumption))
                    | (rw [show mBy n (D 172) h i = mClaim n (D 172) i - mClaim n (D 172) h from ifp_f h36] at ih; rw [ifp_t h72] at ih; exact ih _ (by first | rfl | assumption))
                    | (rw [show mBy n (D 172) h i = mClaim n (D 172) i - mClaim n (D 172) h from ifp_f h36] at ih; rw [ifp_f h72, ifp_t h77] at ih; exact ih _ (by first | rfl | assumption))
                    | (rw [show mBy n (D 172) h i = mClaim n (D 172) i - mClaim n (D 172) h from ifp_f h36] at ih; rw [ifp_f h72, ifp_f (Int32.not_lt.mpr h77), ifp_f h82] at ih; exact ih _ (by first | rfl | assumption))
                    | (rw [show mBy n (D 172) h i = mClaim n (D 172) i - mClaim n (D 172) h from ifp_f h36] at ih; rw [ifp_f h72, ifp_f (Int32.not_lt.mpr h77), ifp_t h82, ifp_t h88] at ih; exact ih _ (by first | rfl | assumption))
                    | (rw [show mBy n (D 172) h i = mClaim n (D 172) i - mClaim n (D 172) h from ifp_f h36] at ih; rw [ifp_f h72, ifp_f (Int32.not_lt.mpr h77), ifp_t h82, ifp_f (Nat.not_lt.mpr h88)] at ih; exact ih _ (by first | rfl | assumption))
                · skip
                  refine w_const i163_91 kc_1 ?_
                  refine w_goto i163_92 g163_92 ?_
                  refine w_iadd i163_96 rfl ?_
                  refine w_ist3 i163_97 ?_
                  refine w_inc4 i163_98 (inc1 _) ?_
                  refine w_goto i163_101 g163_101 ?_
                  rw [sumS, show mRk1 n (D 172) h i = ifp (i = h) (nI 0) (ifp (0 < mBy n (D 172) h i) (nI 1) (ifp (mBy n (D 172) h i = 0) (ifp (i < h) (nI 1) (nI 0)) (nI 0))) from rfl] at ih
                  first
                    | (rw [show mBy n (D 172) h i = D 172 (6 + 4 * i + 2) - D 172 (6 + 4 * h + 2) from ifp_t h36] at ih; rw [ifp_t h72] at ih; exact ih _ (by first | rfl | assumption))
                    | (rw [show mBy n (D 172) h i = D 172 (6 + 4 * i + 2) - D 172 (6 + 4 * h + 2) from ifp_t h36] at ih; rw [ifp_f h72, ifp_t h77] at ih; exact ih _ (by first | rfl | assumption))
                    | (rw [show mBy n (D 172) h i = D 172 (6 + 4 * i + 2) - D 172 (6 + 4 * h + 2) from ifp_t h36] at ih; rw [ifp_f h72, ifp_f (Int32.not_lt.mpr h77), ifp_f h82] at ih; exact ih _ (by first | rfl | assumption))
                    | (rw [show mBy n (D 172) h i = D 172 (6 + 4 * i + 2) - D 172 (6 + 4 * h + 2) from ifp_t h36] at ih; rw [ifp_f h72, ifp_f (Int32.not_lt.mpr h77), ifp_t h82, ifp_t h88] at ih; exact ih _ (by first | rfl | assumption))
                    | (rw [show mBy n (D 172) h i = D 172 (6 + 4 * i + 2) - D 172 (6 + 4 * h + 2) from ifp_t h36] at ih; rw [ifp_f h72, ifp_f (Int32.not_lt.mpr h77), ifp_t h82, ifp_f (Nat.not_lt.mpr h88)] at ih; exact ih _ (by first | rfl | assumption))
                    | (rw [show mBy n (D 172) h i = mClaim n (D 172) i - mClaim n (D 172) h from ifp_f h36] at ih; rw [ifp_t h72] at ih; exact ih _ (by first | rfl | assumption))
                    | (rw [show mBy n (D 172) h i = mClaim n (D 172) i - mClaim n (D 172) h from ifp_f h36] at ih; rw [ifp_f h72, ifp_t h77] at ih; exact ih _ (by first | rfl | assumption))
                    | (rw [show mBy n (D 172) h i = mClaim n (D 172) i - mClaim n (D 172) h from ifp_f h36] at ih; rw [ifp_f h72, ifp_f (Int32.not_lt.mpr h77), ifp_f h82] at ih; exact ih _ (by first | rfl | assumption))
                    | (rw [show mBy n (D 172) h i = mClaim n (D 172) i - mClaim n (D 172) h from ifp_f h36] at ih; rw [ifp_f h72, ifp_f (Int32.not_lt.mpr h77), ifp_t h82, ifp_t h88] at ih; exact ih _ (by first | rfl | assumption))
                    | (rw [show mBy n (D 172) h i = mClaim n (D 172) i - mClaim n (D 172) h from ifp_f h36] at ih; rw [ifp_f h72, ifp_f (Int32.not_lt.mpr h77), ifp_t h82, ifp_f (Nat.not_lt.mpr h88)] at ih; exact ih _ (by first | rfl | assumption))
        · skip
          refine w_ild5 i163_39 ?_
          refine w_goto i163_41 g163_41 ?_
          refine w_ist5 i163_66 ?_
          refine w_ild3 i163_68 ?_
          refine w_ild4 i163_69 ?_
          refine w_ild2 i163_71 ?_
          refine w_ceqN i163_72 g163_72 (by omega) (by omega) (fun h72 => ?_) (fun h72 => ?_)
          · skip
            refine w_const i163_95 kc_0 ?_
            refine w_iadd i163_96 rfl ?_
            refine w_ist3 i163_97 ?_
            refine w_inc4 i163_98 (inc1 _) ?_
            refine w_goto i163_101 g163_101 ?_
            rw [sumS, show mRk1 n (D 172) h i = ifp (i = h) (nI 0) (ifp (0 < mBy n (D 172) h i) (nI 1) (ifp (mBy n (D 172) h i = 0) (ifp (i < h) (nI 1) (nI 0)) (nI 0))) from rfl] at ih
            first
              | (rw [show mBy n (D 172) h i = D 172 (6 + 4 * i + 2) - D 172 (6 + 4 * h + 2) from ifp_t h36] at ih; rw [ifp_t h72] at ih; exact ih _ (by first | rfl | assumption))
              | (rw [show mBy n (D 172) h i = D 172 (6 + 4 * i + 2) - D 172 (6 + 4 * h + 2) from ifp_t h36] at ih; rw [ifp_f h72, ifp_t h77] at ih; exact ih _ (by first | rfl | assumption))
              | (rw [show mBy n (D 172) h i = D 172 (6 + 4 * i + 2) - D 172 (6 + 4 * h + 2) from ifp_t h36] at ih; rw [ifp_f h72, ifp_f (Int32.not_lt.mpr h77), ifp_f h82] at ih; exact ih _ (by first | rfl | assumption))
              | (rw [show mBy n (D 172) h i = D 172 (6 + 4 * i + 2) - D 172 (6 + 4 * h + 2) from ifp_t h36] at ih; rw [ifp_f h72, ifp_f (Int32.not_lt.mpr h77), ifp_t h82, ifp_t h88] at ih; exact ih _ (by first | rfl | assumption))
              | (rw [show mBy n (D 172) h i = D 172 (6 + 4 * i + 2) - D 172 (6 + 4 * h + 2) from ifp_t h36] at ih; rw [ifp_f h72, ifp_f (Int32.not_lt.mpr h77), ifp_t h82, ifp_f (Nat.not_lt.mpr h88)] at ih; exact ih _ (by first | rfl | assumption))
              | (rw [show mBy n (D 172) h i = mClaim n (D 172) i - mClaim n (D 172) h from ifp_f h36] at ih; rw [ifp_t h72] at ih; exact ih _ (by first | rfl | assumption))
              | (rw [show mBy n (D 172) h i = mClaim n (D 172) i - mClaim n (D 172) h from ifp_f h36] at ih; rw [ifp_f h72, ifp_t h77] at ih; exact ih _ (by first | rfl | assumption))
              | (rw [show mBy n (D 172) h i = mClaim n (D 172) i - mClaim n (D 172) h from ifp_f h36] at ih; rw [ifp_f h72, ifp_f (Int32.not_lt.mpr h77), ifp_f h82] at ih; exact ih _ (by first | rfl | assumption))
              | (rw [show mBy n (D 172) h i = mClaim n (D 172) i - mClaim n (D 172) h from ifp_f h36] at ih; rw [ifp_f h72, ifp_f (Int32.not_lt.mpr h77), ifp_t h82, ifp_t h88] at ih; exact ih _ (by first | rfl | assumption))
              | (rw [show mBy n (D 172) h i = mClaim n (D 172) i - mClaim n (D 172) h from ifp_f h36] at ih; rw [ifp_f h72, ifp_f (Int32.not_lt.mpr h77), ifp_t h82, ifp_f (Nat.not_lt.mpr h88)] at ih; exact ih _ (by first | rfl | assumption))
          · skip
            refine w_ild5 i163_75 ?_
            refine w_igt i163_77 g163_77  (fun h77 => ?_) (fun h77 => ?_)
            · skip
              refine w_const i163_91 kc_1 ?_
              refine w_goto i163_92 g163_92 ?_
              refine w_iadd i163_96 rfl ?_
              refine w_ist3 i163_97 ?_
              refine w_inc4 i163_98 (inc1 _) ?_
              refine w_goto i163_101 g163_101 ?_
              rw [sumS, show mRk1 n (D 172) h i = ifp (i = h) (nI 0) (ifp (0 < mBy n (D 172) h i) (nI 1) (ifp (mBy n (D 172) h i = 0) (ifp (i < h) (nI 1) (nI 0)) (nI 0))) from rfl] at ih
              first
                | (rw [show mBy n (D 172) h i = D 172 (6 + 4 * i + 2) - D 172 (6 + 4 * h + 2) from ifp_t h36] at ih; rw [ifp_t h72] at ih; exact ih _ (by first | rfl | assumption))
                | (rw [show mBy n (D 172) h i = D 172 (6 + 4 * i + 2) - D 172 (6 + 4 * h + 2) from ifp_t h36] at ih; rw [ifp_f h72, ifp_t h77] at ih; exact ih _ (by first | rfl | assumption))
                | (rw [show mBy n (D 172) h i = D 172 (6 + 4 * i + 2) - D 172 (6 + 4 * h + 2) from ifp_t h36] at ih; rw [ifp_f h72, ifp_f (Int32.not_lt.mpr h77), ifp_f h82] at ih; exact ih _ (by first | rfl | assumption))
                | (rw [show mBy n (D 172) h i = D 172 (6 + 4 * i + 2) - D 172 (6 + 4 * h + 2) from ifp_t h36] at ih; rw [ifp_f h72, ifp_f (Int32.not_lt.mpr h77), ifp_t h82, ifp_t h88] at ih; exact ih _ (by first | rfl | assumption))
                | (rw [show mBy n (D 172) h i = D 172 (6 + 4 * i + 2) - D 172 (6 + 4 * h + 2) from ifp_t h36] at ih; rw [ifp_f h72, ifp_f (Int32.not_lt.mpr h77), ifp_t h82, ifp_f (Nat.not_lt.mpr h88)] at ih; exact ih _ (by first | rfl | assumption))
                | (rw [show mBy n (D 172) h i = mClaim n (D 172) i - mClaim n (D 172) h from ifp_f h36] at ih; rw [ifp_t h72] at ih; exact ih _ (by first | rfl | assumption))
                | (rw [show mBy n (D 172) h i = mClaim n (D 172) i - mClaim n (D 172) h from ifp_f h36] at ih; rw [ifp_f h72, ifp_t h77] at ih; exact ih _ (by first | rfl | assumption))
                | (rw [show mBy n (D 172) h i = mClaim n (D 172) i - mClaim n (D 172) h from ifp_f h36] at ih; rw [ifp_f h72, ifp_f (Int32.not_lt.mpr h77), ifp_f h82] at ih; exact ih _ (by first | rfl | assumption))
                | (rw [show mBy n (D 172) h i = mClaim n (D 172) i - mClaim n (D 172) h from ifp_f h36] at ih; rw [ifp_f h72, ifp_f (Int32.not_lt.mpr h77), ifp_t h82, ifp_t h88] at ih; exact ih _ (by first | rfl | assumption))
                | (rw [show mBy n (D 172) h i = mClaim n (D 172) i - mClaim n (D 172) h from ifp_f h36] at ih; rw [ifp_f h72, ifp_f (Int32.not_lt.mpr h77), ifp_t h82, ifp_f (Nat.not_lt.mpr h88)] at ih; exact ih _ (by first | rfl | assumption))
            · skip
              refine w_ild5 i163_80 ?_
              refine w_ine i163_82 g163_82  (fun h82 => ?_) (fun h82 => ?_)
              · skip
                refine w_const i163_95 kc_0 ?_
                refine w_iadd i163_96 rfl ?_
                refine w_ist3 i163_97 ?_
                refine w_inc4 i163_98 (inc1 _) ?_
                refine w_goto i163_101 g163_101 ?_
                rw [sumS, show mRk1 n (D 172) h i = ifp (i = h) (nI 0) (ifp (0 < mBy n (D 172) h i) (nI 1) (ifp (mBy n (D 172) h i = 0) (ifp (i < h) (nI 1) (nI 0)) (nI 0))) from rfl] at ih
                first
                  | (rw [show mBy n (D 172) h i = D 172 (6 + 4 * i + 2) - D 172 (6 + 4 * h + 2) from ifp_t h36] at ih; rw [ifp_t h72] at ih; exact ih _ (by first | rfl | assumption))
                  | (rw [show mBy n (D 172) h i = D 172 (6 + 4 * i + 2) - D 172 (6 + 4 * h + 2) from ifp_t h36] at ih; rw [ifp_f h72, ifp_t h77] at ih; exact ih _ (by first | rfl | assumption))
                  | (rw [show mBy n (D 172) h i = D 172 (6 + 4 * i + 2) - D 172 (6 + 4 * h + 2) from ifp_t h36] at ih; rw [ifp_f h72, ifp_f (Int32.not_lt.mpr h77), ifp_f h82] at ih; exact ih _ (by first | rfl | assumption))
                  | (rw [show mBy n (D 172) h i = D 172 (6 + 4 * i + 2) - D 172 (6 + 4 * h + 2) from ifp_t h36] at ih; rw [ifp_f h72, ifp_f (Int32.not_lt.mpr h77), ifp_t h82, ifp_t h88] at ih; exact ih _ (by first | rfl | assumption))
                  | (rw [show mBy n (D 172) h i = D 172 (6 + 4 * i + 2) - D 172 (6 + 4 * h + 2) from ifp_t h36] at ih; rw [ifp_f h72, ifp_f (Int32.not_lt.mpr h77), ifp_t h82, ifp_f (Nat.not_lt.mpr h88)] at ih; exact ih _ (by first | rfl | assumption))
                  | (rw [show mBy n (D 172) h i = mClaim n (D 172) i - mClaim n (D 172) h from ifp_f h36] at ih; rw [ifp_t h72] at ih; exact ih _ (by first | rfl | assumption))
                  | (rw [show mBy n (D 172) h i = mClaim n (D 172) i - mClaim n (D 172) h from ifp_f h36] at ih; rw [ifp_f h72, ifp_t h77] at ih; exact ih _ (by first | rfl | assumption))
                  | (rw [show mBy n (D 172) h i = mClaim n (D 172) i - mClaim n (D 172) h from ifp_f h36] at ih; rw [ifp_f h72, ifp_f (Int32.not_lt.mpr h77), ifp_f h82] at ih; exact ih _ (by first | rfl | assumption))
                  | (rw [show mBy n (D 172) h i = mClaim n (D 172) i - mClaim n (D 172) h from ifp_f h36] at ih; rw [ifp_f h72, ifp_f (Int32.not_lt.mpr h77), ifp_t h82, ifp_t h88] at ih; exact ih _ (by first | rfl | assumption))
                  | (rw [show mBy n (D 172) h i = mClaim n (D 172) i - mClaim n (D 172) h from ifp_f h36] at ih; rw [ifp_f h72, ifp_f (Int32.not_lt.mpr h77), ifp_t h82, ifp_f (Nat.not_lt.mpr h88)] at ih; exact ih _ (by first | rfl | assumption))
              · skip
                refine w_ild4 i163_85 ?_
                refine w_ild2 i163_87 ?_
                refine w_cgeN i163_88 g163_88 (by omega) (by omega) (fun h88 => ?_) (fun h88 => ?_)
                · skip
                  refine w_const i163_95 kc_0 ?_
                  refine w_iadd i163_96 rfl ?_
                  refine w_ist3 i163_97 ?_
                  refine w_inc4 i163_98 (inc1 _) ?_
                  refine w_goto i163_101 g163_101 ?_
                  rw [sumS, show mRk1 n (D 172) h i = ifp (i = h) (nI 0) (ifp (0 < mBy n (D 172) h i) (nI 1) (ifp (mBy n (D 172) h i = 0) (ifp (i < h) (nI 1) (nI 0)) (nI 0))) from rfl] at ih
                  first
                    | (rw [show mBy n (D 172) h i = D 172 (6 + 4 * i + 2) - D 172 (6 + 4 * h + 2) from ifp_t h36] at ih; rw [ifp_t h72] at ih; exact ih _ (by first | rfl | assumption))
                    | (rw [show mBy n (D 172) h i = D 172 (6 + 4 * i + 2) - D 172 (6 + 4 * h + 2) from ifp_t h36] at ih; rw [ifp_f h72, ifp_t h77] at ih; exact ih _ (by first | rfl | assumption))
                    | (rw [show mBy n (D 172) h i = D 172 (6 + 4 * i + 2) - D 172 (6 + 4 * h + 2) from ifp_t h36] at ih; rw [ifp_f h72, ifp_f (Int32.not_lt.mpr h77), ifp_f h82] at ih; exact ih _ (by first | rfl | assumption))
                    | (rw [show mBy n (D 172) h i = D 172 (6 + 4 * i + 2) - D 172 (6 + 4 * h + 2) from ifp_t h36] at ih; rw [ifp_f h72, ifp_f (Int32.not_lt.mpr h77), ifp_t h82, ifp_t h88] at ih; exact ih _ (by first | rfl | assumption))
                    | (rw [show mBy n (D 172) h i = D 172 (6 + 4 * i + 2) - D 172 (6 + 4 * h + 2) from ifp_t h36] at ih; rw [ifp_f h72, ifp_f (Int32.not_lt.mpr h77), ifp_t h82, ifp_f (Nat.not_lt.mpr h88)] at ih; exact ih _ (by first | rfl | assumption))
                    | (rw [show mBy n (D 172) h i = mClaim n (D 172) i - mClaim n (D 172) h from ifp_f h36] at ih; rw [ifp_t h72] at ih; exact ih _ (by first | rfl | assumption))
                    | (rw [show mBy n (D 172) h i = mClaim n (D 172) i - mClaim n (D 172) h from ifp_f h36] at ih; rw [ifp_f h72, ifp_t h77] at ih; exact ih _ (by first | rfl | assumption))
                    | (rw [show mBy n (D 172) h i = mClaim n (D 172) i - mClaim n (D 172) h from ifp_f h36] at ih; rw [ifp_f h72, ifp_f (Int32.not_lt.mpr h77), ifp_f h82] at ih; exact ih _ (by first | rfl | assumption))
                    | (rw [show mBy n (D 172) h i = mClaim n (D 172) i - mClaim n (D 172) h from ifp_f h36] at ih; rw [ifp_f h72, ifp_f (Int32.not_lt.mpr h77), ifp_t h82, ifp_t h88] at ih; exact ih _ (by first | rfl | assumption))
                    | (rw [show mBy n (D 172) h i = mClaim n (D 172) i - mClaim n (D 172) h from ifp_f h36] at ih; rw [ifp_f h72, ifp_f (Int32.not_lt.mpr h77), ifp_t h82, ifp_f (Nat.not_lt.mpr h88)] at ih; exact ih _ (by first | rfl | assumption))
                · skip
                  refine w_const i163_91 kc_1 ?_
                  refine w_goto i163_92 g163_92 ?_
                  refine w_iadd i163_96 rfl ?_
                  refine w_ist3 i163_97 ?_
                  refine w_inc4 i163_98 (inc1 _) ?_
                  refine w_goto i163_101 g163_101 ?_
                  rw [sumS, show mRk1 n (D 172) h i = ifp (i = h) (nI 0) (ifp (0 < mBy n (D 172) h i) (nI 1) (ifp (mBy n (D 172) h i = 0) (ifp (i < h) (nI 1) (nI 0)) (nI 0))) from rfl] at ih
                  first
                    | (rw [show mBy n (D 172) h i = D 172 (6 + 4 * i + 2) - D 172 (6 + 4 * h + 2) from ifp_t h36] at ih; rw [ifp_t h72] at ih; exact ih _ (by first | rfl | assumption))
                    | (rw [show mBy n (D 172) h i = D 172 (6 + 4 * i + 2) - D 172 (6 + 4 * h + 2) from ifp_t h36] at ih; rw [ifp_f h72, ifp_t h77] at ih; exact ih _ (by first | rfl | assumption))
                    | (rw [show mBy n (D 172) h i = D 172 (6 + 4 * i + 2) - D 172 (6 + 4 * h + 2) from ifp_t h36] at ih; rw [ifp_f h72, ifp_f (Int32.not_lt.mpr h77), ifp_f h82] at ih; exact ih _ (by first | rfl | assumption))
                    | (rw [show mBy n (D 172) h i = D 172 (6 + 4 * i + 2) - D 172 (6 + 4 * h + 2) from ifp_t h36] at ih; rw [ifp_f h72, ifp_f (Int32.not_lt.mpr h77), ifp_t h82, ifp_t h88] at ih; exact ih _ (by first | rfl | assumption))
                    | (rw [show mBy n (D 172) h i = D 172 (6 + 4 * i + 2) - D 172 (6 + 4 * h + 2) from ifp_t h36] at ih; rw [ifp_f h72, ifp_f (Int32.not_lt.mpr h77), ifp_t h82, ifp_f (Nat.not_lt.mpr h88)] at ih; exact ih _ (by first | rfl | assumption))
                    | (rw [show mBy n (D 172) h i = mClaim n (D 172) i - mClaim n (D 172) h from ifp_f h36] at ih; rw [ifp_t h72] at ih; exact ih _ (by first | rfl | assumption))
                    | (rw [show mBy n (D 172) h i = mClaim n (D 172) i - mClaim n (D 172) h from ifp_f h36] at ih; rw [ifp_f h72, ifp_t h77] at ih; exact ih _ (by first | rfl | assumption))
                    | (rw [show mBy n (D 172) h i = mClaim n (D 172) i - mClaim n (D 172) h from ifp_f h36] at ih; rw [ifp_f h72, ifp_f (Int32.not_lt.mpr h77), ifp_f h82] at ih; exact ih _ (by first | rfl | assumption))
                    | (rw [show mBy n (D 172) h i = mClaim n (D 172) i - mClaim n (D 172) h from ifp_f h36] at ih; rw [ifp_f h72, ifp_f (Int32.not_lt.mpr h77), ifp_t h82, ifp_t h88] at ih; exact ih _ (by first | rfl | assumption))
                    | (rw [show mBy n (D 172) h i = mClaim n (D 172) i - mClaim n (D 172) h from ifp_f h36] at ih; rw [ifp_f h72, ifp_f (Int32.not_lt.mpr h77), ifp_t h82, ifp_f (Nat.not_lt.mpr h88)] at ih; exact ih _ (by first | rfl | assumption))
  exact L2 6 0 _ _ _ rfl rfl rfl (by omega) hq
set_option maxHeartbeats 100000 in
theorem P_brightest {d : Nat} {D : Mm} {Q : Option Value → Mm → Prop} {n : Nat} (hn : D 172 0 = nI n) (h12 : n ≤ 12) {p : Int32} (hq : Q (some (.int (frk (sRank n (D 172)) p n 0))) D) : Ct (d + 6) 164 [.ref 171, .int p] D Q := by
  refine ent m164 rfl rfl (ls := [.ref 171, .int p, .retAddr 0, .retAddr 0, .retAddr 0, .retAddr 0]) rfl ?_
  refine w_const i164_0 kc_0 ?_
  refine w_ist2 i164_1 ?_
  have L2 : ∀ k h (w u x : Value), nvB w = true → nvB u = true → nvB x = true → h + k = n → Q (some (.int (frk (sRank n (D 172)) p k h))) D → Wp (d + 5) 164 Q 2 [.ref 171, .int p, .int (nI h), w, u, x] [] D := by
    intro k
    induction k with
    | zero =>
      intro h w u x hw hu hx hk hq
      refine w_ild2 i164_2 ?_
      refine w_ald0 i164_3 ?_
      refine w_gfR i164_4 (by decide) s_171 rfl ?_
      refine w_const i164_7 kc_0 ?_
      refine w_ial i164_8 s_172 (by decide) (by omega) hn ?_
      refine w_cgeNT i164_9 g164_9 (by omega) (by omega) (by omega) ?_
      refine w_sip i164_158 ks_m1011 ?_
      refine w_ri i164_161 r164 ?_
      first | exact hq | (rw [show sumN n (sRk1 (D 172) h) = sRank n (D 172) h from rfl] at h147; rw [ifp_t h147] at hq; exact hq)
    | succ k ih =>
      intro h w u x hw hu hx hk hq
      unfold frk at hq
      refine w_ild2 i164_2 ?_
      refine w_ald0 i164_3 ?_
      refine w_gfR i164_4 (by decide) s_171 rfl ?_
      refine w_const i164_7 kc_0 ?_
      refine w_ial i164_8 s_172 (by decide) (by omega) hn ?_
      refine w_cgeNF i164_9 (by omega) (by omega) (by omega) ?_
      refine w_const i164_12 kc_0 ?_
      refine w_ist3 i164_13 ?_
      refine w_const i164_14 kc_0 ?_
      refine w_ist4 i164_15 ?_
      refine down0 (n := n) (P := fun i => ∀ (x : Value), nvB x = true → Wp _ _ _ 17 [.ref 171, .int p, .int (nI h), .int (sumN i (sRk1 (D 172) h)), .int (nI i), x] [] D) ?_ ?_ _ (by first | rfl | assumption)
      · intro x hx
        refine w_ild4 i164_17 ?_
        refine w_ald0 i164_19 ?_
        refine w_gfR i164_20 (by decide) s_171 rfl ?_
        refine w_const i164_23 kc_0 ?_
        refine w_ial i164_24 s_172 (by decide) (by omega) hn ?_
        refine w_cgeNT i164_25 g164_25 (by omega) (by omega) (by omega) ?_
        refine w_ild3 i164_145 ?_
        refine w_ild1 i164_146 ?_
        refine w_cne i164_147 g164_147  (fun h147 => ?_) (fun h147 => ?_)
        · skip
          refine w_inc2 i164_152 (inc1 _) ?_
          refine w_goto i164_155 g164_155 ?_
          rw [show sumN n (sRk1 (D 172) h) = sRank n (D 172) h from rfl] at h147
          rw [ifp_f h147] at hq
          exact ih _ _ _ _ (by first | rfl | assumption) (by first | rfl | assumption) (by first | rfl | assumption) (by omega) hq
        · skip
          refine w_ild2 i164_150 ?_
          refine w_ri i164_151 r164 ?_
          first | exact hq | (rw [show sumN n (sRk1 (D 172) h) = sRank n (D 172) h from rfl] at h147; rw [ifp_t h147] at hq; exact hq)
      · intro i hi ih x hx
        refine w_ild4 i164_17 ?_
        refine w_ald0 i164_19 ?_
        refine w_gfR i164_20 (by decide) s_171 rfl ?_
        refine w_const i164_23 kc_0 ?_
        refine w_ial i164_24 s_172 (by decide) (by omega) hn ?_
        refine w_cgeNF i164_25 (by omega) (by omega) (by omega) ?_
        refine w_ald0 i164_28 ?_
        refine w_gfR i164_29 (by decide) s_171 rfl ?_
        refine w_ild4 i164_32 ?_
        refine w_const i164_34 kc_1 ?_
        refine w_sI2 i164_35 c115 rfl  (by repeat (first | exact nv_nil | refine nv_cons (by first | rfl | assumption) ?_)) ⟨rfl, Nat.le_of_ble_eq_true rfl⟩ T_in ?_
        refine w_ial i164_38 s_172 (by decide) (by omega) rfl ?_
        refine w_ald0 i164_39 ?_
        refine w_gfR i164_40 (by decide) s_171 rfl ?_
        refine w_ild4 i164_43 ?_
        refine w_const i164_45 kc_2 ?_
        refine w_sI2 i164_46 c115 rfl  (by repeat (first | exact nv_nil | refine nv_cons (by first | rfl | assumption) ?_)) ⟨rfl, Nat.le_of_ble_eq_true rfl⟩ T_in ?_
        refine w_ial i164_49 s_172 (by decide) (by omega) rfl ?_
        refine w_imul i164_50 rfl ?_
        refine w_ald0 i164_51 ?_
        refine w_gfR i164_52 (by decide) s_171 rfl ?_
        refine w_ild2 i164_55 ?_
        refine w_const i164_56 kc_1 ?_
        refine w_sI2 i164_57 c115 rfl  (by repeat (first | exact nv_nil | refine nv_cons (by first | rfl | assumption) ?_)) ⟨rfl, Nat.le_of_ble_eq_true rfl⟩ T_in ?_
        refine w_ial i164_60 s_172 (by decide) (by omega) rfl ?_
        refine w_ald0 i164_61 ?_
        refine w_gfR i164_62 (by decide) s_171 rfl ?_
        refine w_ild2 i164_65 ?_
        refine w_const i164_66 kc_2 ?_
        refine w_sI2 i164_67 c115 rfl  (by repeat (first | exact nv_nil | refine nv_cons (by first | rfl | assumption) ?_)) ⟨rfl, Nat.le_of_ble_eq_true rfl⟩ T_in ?_
        refine w_ial i164_70 s_172 (by decide) (by omega) rfl ?_
        refine w_imul i164_71 rfl ?_
        refine w_isub i164_72 rfl ?_
        refine w_ist5 i164_73 ?_
        refine w_ild5 i164_75 ?_
        refine w_ieq i164_77 g164_77  (fun h77 => ?_) (fun h77 => ?_)
        · skip
          refine w_ald0 i164_85 ?_
          refine w_gfR i164_86 (by decide) s_171 rfl ?_
          refine w_ild2 i164_89 ?_
          refine w_const i164_90 kc_4 ?_
          refine w_sI2 i164_91 c115 rfl  (by repeat (first | exact nv_nil | refine nv_cons (by first | rfl | assumption) ?_)) ⟨rfl, Nat.le_of_ble_eq_true rfl⟩ T_in ?_
          refine w_ial i164_94 s_172 (by decide) (by omega) rfl ?_
          refine w_ald0 i164_95 ?_
          refine w_gfR i164_96 (by decide) s_171 rfl ?_
          refine w_ild4 i164_99 ?_
          refine w_const i164_101 kc_4 ?_
          refine w_sI2 i164_102 c115 rfl  (by repeat (first | exact nv_nil | refine nv_cons (by first | rfl | assumption) ?_)) ⟨rfl, Nat.le_of_ble_eq_true rfl⟩ T_in ?_
          refine w_ial i164_105 s_172 (by decide) (by omega) rfl ?_
          refine w_isub i164_106 rfl ?_
          refine w_ist5 i164_107 ?_
          refine w_ild3 i164_109 ?_
          refine w_ild4 i164_110 ?_
          refine w_ild2 i164_112 ?_
          refine w_ceqN i164_113 g164_113 (by omega) (by omega) (fun h113 => ?_) (fun h113 => ?_)
          · skip
            refine w_const i164_136 kc_0 ?_
            refine w_iadd i164_137 rfl ?_
            refine w_ist3 i164_138 ?_
            refine w_inc4 i164_139 (inc1 _) ?_
            refine w_goto i164_142 g164_142 ?_
            rw [sumS, show sRk1 (D 172) h i = ifp (i = h) (nI 0) (ifp (0 < sBy (D 172) h i) (nI 1) (ifp (sBy (D 172) h i = 0) (ifp (i < h) (nI 1) (nI 0)) (nI 0))) from rfl] at ih
            first
              | (rw [show sBy (D 172) h i = D 172 (30 + 8 * h + 4) - D 172 (30 + 8 * i + 4) from ifp_t h77] at ih; rw [ifp_t h113] at ih; exact ih _ (by first | rfl | assumption))
              | (rw [show sBy (D 172) h i = D 172 (30 + 8 * h + 4) - D 172 (30 + 8 * i + 4) from ifp_t h77] at ih; rw [ifp_f h113, ifp_t h118] at ih; exact ih _ (by first | rfl | assumption))
              | (rw [show sBy (D 172) h i = D 172 (30 + 8 * h + 4) - D 172 (30 + 8 * i + 4) from ifp_t h77] at ih; rw [ifp_f h113, ifp_f (Int32.not_lt.mpr h118), ifp_f h123] at ih; exact ih _ (by first | rfl | assumption))
              | (rw [show sBy (D 172) h i = D 172 (30 + 8 * h + 4) - D 172 (30 + 8 * i + 4) from ifp_t h77] at ih; rw [ifp_f h113, ifp_f (Int32.not_lt.mpr h118), ifp_t h123, ifp_t h129] at ih; exact ih _ (by first | rfl | assumption))
              | (rw [show sBy (D 172) h i = D 172 (30 + 8 * h + 4) - D 172 (30 + 8 * i + 4) from ifp_t h77] at ih; rw [ifp_f h113, ifp_f (Int32.not_lt.mpr h118), ifp_t h123, ifp_f (Nat.not_lt.mpr h129)] at ih; exact ih _ (by first | rfl | assumption))
              | (rw [show sBy (D 172) h i = D 172 (30 + 8 * i + 1) * D 172 (30 + 8 * i + 2) - D 172 (30 + 8 * h + 1) * D 172 (30 + 8 * h + 2) from ifp_f h77] at ih; rw [ifp_t h113] at ih; exact ih _ (by first | rfl | assumption))
              | (rw [show sBy (D 172) h i = D 172 (30 + 8 * i + 1) * D 172 (30 + 8 * i + 2) - D 172 (30 + 8 * h + 1) * D 172 (30 + 8 * h + 2) from ifp_f h77] at ih; rw [ifp_f h113, ifp_t h118] at ih; exact ih _ (by first | rfl | assumption))
              | (rw [show sBy (D 172) h i = D 172 (30 + 8 * i + 1) * D 172 (30 + 8 * i + 2) - D 172 (30 + 8 * h + 1) * D 172 (30 + 8 * h + 2) from ifp_f h77] at ih; rw [ifp_f h113, ifp_f (Int32.not_lt.mpr h118), ifp_f h123] at ih; exact ih _ (by first | rfl | assumption))
              | (rw [show sBy (D 172) h i = D 172 (30 + 8 * i + 1) * D 172 (30 + 8 * i + 2) - D 172 (30 + 8 * h + 1) * D 172 (30 + 8 * h + 2) from ifp_f h77] at ih; rw [ifp_f h113, ifp_f (Int32.not_lt.mpr h118), ifp_t h123, ifp_t h129] at ih; exact ih _ (by first | rfl | assumption))
              | (rw [show sBy (D 172) h i = D 172 (30 + 8 * i + 1) * D 172 (30 + 8 * i + 2) - D 172 (30 + 8 * h + 1) * D 172 (30 + 8 * h + 2) from ifp_f h77] at ih; rw [ifp_f h113, ifp_f (Int32.not_lt.mpr h118), ifp_t h123, ifp_f (Nat.not_lt.mpr h129)] at ih; exact ih _ (by first | rfl | assumption))
          · skip
            refine w_ild5 i164_116 ?_
            refine w_igt i164_118 g164_118  (fun h118 => ?_) (fun h118 => ?_)
            · skip
              refine w_const i164_132 kc_1 ?_
              refine w_goto i164_133 g164_133 ?_
              refine w_iadd i164_137 rfl ?_
              refine w_ist3 i164_138 ?_
              refine w_inc4 i164_139 (inc1 _) ?_
              refine w_goto i164_142 g164_142 ?_
              rw [sumS, show sRk1 (D 172) h i = ifp (i = h) (nI 0) (ifp (0 < sBy (D 172) h i) (nI 1) (ifp (sBy (D 172) h i = 0) (ifp (i < h) (nI 1) (nI 0)) (nI 0))) from rfl] at ih
              first
                | (rw [show sBy (D 172) h i = D 172 (30 + 8 * h + 4) - D 172 (30 + 8 * i + 4) from ifp_t h77] at ih; rw [ifp_t h113] at ih; exact ih _ (by first | rfl | assumption))
                | (rw [show sBy (D 172) h i = D 172 (30 + 8 * h + 4) - D 172 (30 + 8 * i + 4) from ifp_t h77] at ih; rw [ifp_f h113, ifp_t h118] at ih; exact ih _ (by first | rfl | assumption))
                | (rw [show sBy (D 172) h i = D 172 (30 + 8 * h + 4) - D 172 (30 + 8 * i + 4) from ifp_t h77] at ih; rw [ifp_f h113, ifp_f (Int32.not_lt.mpr h118), ifp_f h123] at ih; exact ih _ (by first | rfl | assumption))
                | (rw [show sBy (D 172) h i = D 172 (30 + 8 * h + 4) - D 172 (30 + 8 * i + 4) from ifp_t h77] at ih; rw [ifp_f h113, ifp_f (Int32.not_lt.mpr h118), ifp_t h123, ifp_t h129] at ih; exact ih _ (by first | rfl | assumption))
                | (rw [show sBy (D 172) h i = D 172 (30 + 8 * h + 4) - D 172 (30 + 8 * i + 4) from ifp_t h77] at ih; rw [ifp_f h113, ifp_f (Int32.not_lt.mpr h118), ifp_t h123, ifp_f (Nat.not_lt.mpr h129)] at ih; exact ih _ (by first | rfl | assumption))
                | (rw [show sBy (D 172) h i = D 172 (30 + 8 * i + 1) * D 172 (30 + 8 * i + 2) - D 172 (30 + 8 * h + 1) * D 172 (30 + 8 * h + 2) from ifp_f h77] at ih; rw [ifp_t h113] at ih; exact ih _ (by first | rfl | assumption))
                | (rw [show sBy (D 172) h i = D 172 (30 + 8 * i + 1) * D 172 (30 + 8 * i + 2) - D 172 (30 + 8 * h + 1) * D 172 (30 + 8 * h + 2) from ifp_f h77] at ih; rw [ifp_f h113, ifp_t h118] at ih; exact ih _ (by first | rfl | assumption))
                | (rw [show sBy (D 172) h i = D 172 (30 + 8 * i + 1) * D 172 (30 + 8 * i + 2) - D 172 (30 + 8 * h + 1) * D 172 (30 + 8 * h + 2) from ifp_f h77] at ih; rw [ifp_f h113, ifp_f (Int32.not_lt.mpr h118), ifp_f h123] at ih; exact ih _ (by first | rfl | assumption))
                | (rw [show sBy (D 172) h i = D 172 (30 + 8 * i + 1) * D 172 (30 + 8 * i + 2) - D 172 (30 + 8 * h + 1) * D 172 (30 + 8 * h + 2) from ifp_f h77] at ih; rw [ifp_f h113, ifp_f (Int32.not_lt.mpr h118), ifp_t h123, ifp_t h129] at ih; exact ih _ (by first | rfl | assumption))
                | (rw [show sBy (D 172) h i = D 172 (30 + 8 * i + 1) * D 172 (30 + 8 * i + 2) - D 172 (30 + 8 * h + 1) * D 172 (30 + 8 * h + 2) from ifp_f h77] at ih; rw [ifp_f h113, ifp_f (Int32.not_lt.mpr h118), ifp_t h123, ifp_f (Nat.not_lt.mpr h129)] at ih; exact ih _ (by first | rfl | assumption))
            · skip
              refine w_ild5 i164_121 ?_
              refine w_ine i164_123 g164_123  (fun h123 => ?_) (fun h123 => ?_)
              · skip
                refine w_const i164_136 kc_0 ?_
                refine w_iadd i164_137 rfl ?_
                refine w_ist3 i164_138 ?_
                refine w_inc4 i164_139 (inc1 _) ?_
                refine w_goto i164_142 g164_142 ?_
                rw [sumS, show sRk1 (D 172) h i = ifp (i = h) (nI 0) (ifp (0 < sBy (D 172) h i) (nI 1) (ifp (sBy (D 172) h i = 0) (ifp (i < h) (nI 1) (nI 0)) (nI 0))) from rfl] at ih
                first
                  | (rw [show sBy (D 172) h i = D 172 (30 + 8 * h + 4) - D 172 (30 + 8 * i + 4) from ifp_t h77] at ih; rw [ifp_t h113] at ih; exact ih _ (by first | rfl | assumption))
                  | (rw [show sBy (D 172) h i = D 172 (30 + 8 * h + 4) - D 172 (30 + 8 * i + 4) from ifp_t h77] at ih; rw [ifp_f h113, ifp_t h118] at ih; exact ih _ (by first | rfl | assumption))
                  | (rw [show sBy (D 172) h i = D 172 (30 + 8 * h + 4) - D 172 (30 + 8 * i + 4) from ifp_t h77] at ih; rw [ifp_f h113, ifp_f (Int32.not_lt.mpr h118), ifp_f h123] at ih; exact ih _ (by first | rfl | assumption))
                  | (rw [show sBy (D 172) h i = D 172 (30 + 8 * h + 4) - D 172 (30 + 8 * i + 4) from ifp_t h77] at ih; rw [ifp_f h113, ifp_f (Int32.not_lt.mpr h118), ifp_t h123, ifp_t h129] at ih; exact ih _ (by first | rfl | assumption))
                  | (rw [show sBy (D 172) h i = D 172 (30 + 8 * h + 4) - D 172 (30 + 8 * i + 4) from ifp_t h77] at ih; rw [ifp_f h113, ifp_f (Int32.not_lt.mpr h118), ifp_t h123, ifp_f (Nat.not_lt.mpr h129)] at ih; exact ih _ (by first | rfl | assumption))
                  | (rw [show sBy (D 172) h i = D 172 (30 + 8 * i + 1) * D 172 (30 + 8 * i + 2) - D 172 (30 + 8 * h + 1) * D 172 (30 + 8 * h + 2) from ifp_f h77] at ih; rw [ifp_t h113] at ih; exact ih _ (by first | rfl | assumption))
                  | (rw [show sBy (D 172) h i = D 172 (30 + 8 * i + 1) * D 172 (30 + 8 * i + 2) - D 172 (30 + 8 * h + 1) * D 172 (30 + 8 * h + 2) from ifp_f h77] at ih; rw [ifp_f h113, ifp_t h118] at ih; exact ih _ (by first | rfl | assumption))
                  | (rw [show sBy (D 172) h i = D 172 (30 + 8 * i + 1) * D 172 (30 + 8 * i + 2) - D 172 (30 + 8 * h + 1) * D 172 (30 + 8 * h + 2) from ifp_f h77] at ih; rw [ifp_f h113, ifp_f (Int32.not_lt.mpr h118), ifp_f h123] at ih; exact ih _ (by first | rfl | assumption))
                  | (rw [show sBy (D 172) h i = D 172 (30 + 8 * i + 1) * D 172 (30 + 8 * i + 2) - D 172 (30 + 8 * h + 1) * D 172 (30 + 8 * h + 2) from ifp_f h77] at ih; rw [ifp_f h113, ifp_f (Int32.not_lt.mpr h118), ifp_t h123, ifp_t h129] at ih; exact ih _ (by first | rfl | assumption))
                  | (rw [show sBy (D 172) h i = D 172 (30 + 8 * i + 1) * D 172 (30 + 8 * i + 2) - D 172 (30 + 8 * h + 1) * D 172 (30 + 8 * h + 2) from ifp_f h77] at ih; rw [ifp_f h113, ifp_f (Int32.not_lt.mpr h118), ifp_t h123, ifp_f (Nat.not_lt.mpr h129)] at ih; exact ih _ (by first | rfl | assumption))
              · skip
                refine w_ild4 i164_126 ?_
                refine w_ild2 i164_128 ?_
                refine w_cgeN i164_129 g164_129 (by omega) (by omega) (fun h129 => ?_) (fun h129 => ?_)
                · skip
                  refine w_const i164_136 kc_0 ?_
                  refine w_iadd i164_137 rfl ?_
                  refine w_ist3 i164_138 ?_
                  refine w_inc4 i164_139 (inc1 _) ?_
                  refine w_goto i164_142 g164_142 ?_
                  rw [sumS, show sRk1 (D 172) h i = ifp (i = h) (nI 0) (ifp (0 < sBy (D 172) h i) (nI 1) (ifp (sBy (D 172) h i = 0) (ifp (i < h) (nI 1) (nI 0)) (nI 0))) from rfl] at ih
                  first
                    | (rw [show sBy (D 172) h i = D 172 (30 + 8 * h + 4) - D 172 (30 + 8 * i + 4) from ifp_t h77] at ih; rw [ifp_t h113] at ih; exact ih _ (by first | rfl | assumption))
                    | (rw [show sBy (D 172) h i = D 172 (30 + 8 * h + 4) - D 172 (30 + 8 * i + 4) from ifp_t h77] at ih; rw [ifp_f h113, ifp_t h118] at ih; exact ih _ (by first | rfl | assumption))
                    | (rw [show sBy (D 172) h i = D 172 (30 + 8 * h + 4) - D 172 (30 + 8 * i + 4) from ifp_t h77] at ih; rw [ifp_f h113, ifp_f (Int32.not_lt.mpr h118), ifp_f h123] at ih; exact ih _ (by first | rfl | assumption))
                    | (rw [show sBy (D 172) h i = D 172 (30 + 8 * h + 4) - D 172 (30 + 8 * i + 4) from ifp_t h77] at ih; rw [ifp_f h113, ifp_f (Int32.not_lt.mpr h118), ifp_t h123, ifp_t h129] at ih; exact ih _ (by first | rfl | assumption))
                    | (rw [show sBy (D 172) h i = D 172 (30 + 8 * h + 4) - D 172 (30 + 8 * i + 4) from ifp_t h77] at ih; rw [ifp_f h113, ifp_f (Int32.not_lt.mpr h118), ifp_t h123, ifp_f (Nat.not_lt.mpr h129)] at ih; exact ih _ (by first | rfl | assumption))
                    | (rw [show sBy (D 172) h i = D 172 (30 + 8 * i + 1) * D 172 (30 + 8 * i + 2) - D 172 (30 + 8 * h + 1) * D 172 (30 + 8 * h + 2) from ifp_f h77] at ih; rw [ifp_t h113] at ih; exact ih _ (by first | rfl | assumption))
                    | (rw [show sBy (D 172) h i = D 172 (30 + 8 * i + 1) * D 172 (30 + 8 * i + 2) - D 172 (30 + 8 * h + 1) * D 172 (30 + 8 * h + 2) from ifp_f h77] at ih; rw [ifp_f h113, ifp_t h118] at ih; exact ih _ (by first | rfl | assumption))
                    | (rw [show sBy (D 172) h i = D 172 (30 + 8 * i + 1) * D 172 (30 + 8 * i + 2) - D 172 (30 + 8 * h + 1) * D 172 (30 + 8 * h + 2) from ifp_f h77] at ih; rw [ifp_f h113, ifp_f (Int32.not_lt.mpr h118), ifp_f h123] at ih; exact ih _ (by first | rfl | assumption))
                    | (rw [show sBy (D 172) h i = D 172 (30 + 8 * i + 1) * D 172 (30 + 8 * i + 2) - D 172 (30 + 8 * h + 1) * D 172 (30 + 8 * h + 2) from ifp_f h77] at ih; rw [ifp_f h113, ifp_f (Int32.not_lt.mpr h118), ifp_t h123, ifp_t h129] at ih; exact ih _ (by first | rfl | assumption))
                    | (rw [show sBy (D 172) h i = D 172 (30 + 8 * i + 1) * D 172 (30 + 8 * i + 2) - D 172 (30 + 8 * h + 1) * D 172 (30 + 8 * h + 2) from ifp_f h77] at ih; rw [ifp_f h113, ifp_f (Int32.not_lt.mpr h118), ifp_t h123, ifp_f (Nat.not_lt.mpr h129)] at ih; exact ih _ (by first | rfl | assumption))
                · skip
                  refine w_const i164_132 kc_1 ?_
                  refine w_goto i164_133 g164_133 ?_
                  refine w_iadd i164_137 rfl ?_
                  refine w_ist3 i164_138 ?_
                  refine w_inc4 i164_139 (inc1 _) ?_
                  refine w_goto i164_142 g164_142 ?_
                  rw [sumS, show sRk1 (D 172) h i = ifp (i = h) (nI 0) (ifp (0 < sBy (D 172) h i) (nI 1) (ifp (sBy (D 172) h i = 0) (ifp (i < h) (nI 1) (nI 0)) (nI 0))) from rfl] at ih
                  first
                    | (rw [show sBy (D 172) h i = D 172 (30 + 8 * h + 4) - D 172 (30 + 8 * i + 4) from ifp_t h77] at ih; rw [ifp_t h113] at ih; exact ih _ (by first | rfl | assumption))
                    | (rw [show sBy (D 172) h i = D 172 (30 + 8 * h + 4) - D 172 (30 + 8 * i + 4) from ifp_t h77] at ih; rw [ifp_f h113, ifp_t h118] at ih; exact ih _ (by first | rfl | assumption))
                    | (rw [show sBy (D 172) h i = D 172 (30 + 8 * h + 4) - D 172 (30 + 8 * i + 4) from ifp_t h77] at ih; rw [ifp_f h113, ifp_f (Int32.not_lt.mpr h118), ifp_f h123] at ih; exact ih _ (by first | rfl | assumption))
                    | (rw [show sBy (D 172) h i = D 172 (30 + 8 * h + 4) - D 172 (30 + 8 * i + 4) from ifp_t h77] at ih; rw [ifp_f h113, ifp_f (Int32.not_lt.mpr h118), ifp_t h123, ifp_t h129] at ih; exact ih _ (by first | rfl | assumption))
                    | (rw [show sBy (D 172) h i = D 172 (30 + 8 * h + 4) - D 172 (30 + 8 * i + 4) from ifp_t h77] at ih; rw [ifp_f h113, ifp_f (Int32.not_lt.mpr h118), ifp_t h123, ifp_f (Nat.not_lt.mpr h129)] at ih; exact ih _ (by first | rfl | assumption))
                    | (rw [show sBy (D 172) h i = D 172 (30 + 8 * i + 1) * D 172 (30 + 8 * i + 2) - D 172 (30 + 8 * h + 1) * D 172 (30 + 8 * h + 2) from ifp_f h77] at ih; rw [ifp_t h113] at ih; exact ih _ (by first | rfl | assumption))
                    | (rw [show sBy (D 172) h i = D 172 (30 + 8 * i + 1) * D 172 (30 + 8 * i + 2) - D 172 (30 + 8 * h + 1) * D 172 (30 + 8 * h + 2) from ifp_f h77] at ih; rw [ifp_f h113, ifp_t h118] at ih; exact ih _ (by first | rfl | assumption))
                    | (rw [show sBy (D 172) h i = D 172 (30 + 8 * i + 1) * D 172 (30 + 8 * i + 2) - D 172 (30 + 8 * h + 1) * D 172 (30 + 8 * h + 2) from ifp_f h77] at ih; rw [ifp_f h113, ifp_f (Int32.not_lt.mpr h118), ifp_f h123] at ih; exact ih _ (by first | rfl | assumption))
                    | (rw [show sBy (D 172) h i = D 172 (30 + 8 * i + 1) * D 172 (30 + 8 * i + 2) - D 172 (30 + 8 * h + 1) * D 172 (30 + 8 * h + 2) from ifp_f h77] at ih; rw [ifp_f h113, ifp_f (Int32.not_lt.mpr h118), ifp_t h123, ifp_t h129] at ih; exact ih _ (by first | rfl | assumption))
                    | (rw [show sBy (D 172) h i = D 172 (30 + 8 * i + 1) * D 172 (30 + 8 * i + 2) - D 172 (30 + 8 * h + 1) * D 172 (30 + 8 * h + 2) from ifp_f h77] at ih; rw [ifp_f h113, ifp_f (Int32.not_lt.mpr h118), ifp_t h123, ifp_f (Nat.not_lt.mpr h129)] at ih; exact ih _ (by first | rfl | assumption))
        · skip
          refine w_ild5 i164_80 ?_
          refine w_goto i164_82 g164_82 ?_
          refine w_ist5 i164_107 ?_
          refine w_ild3 i164_109 ?_
          refine w_ild4 i164_110 ?_
          refine w_ild2 i164_112 ?_
          refine w_ceqN i164_113 g164_113 (by omega) (by omega) (fun h113 => ?_) (fun h113 => ?_)
          · skip
            refine w_const i164_136 kc_0 ?_
            refine w_iadd i164_137 rfl ?_
            refine w_ist3 i164_138 ?_
            refine w_inc4 i164_139 (inc1 _) ?_
            refine w_goto i164_142 g164_142 ?_
            rw [sumS, show sRk1 (D 172) h i = ifp (i = h) (nI 0) (ifp (0 < sBy (D 172) h i) (nI 1) (ifp (sBy (D 172) h i = 0) (ifp (i < h) (nI 1) (nI 0)) (nI 0))) from rfl] at ih
            first
              | (rw [show sBy (D 172) h i = D 172 (30 + 8 * h + 4) - D 172 (30 + 8 * i + 4) from ifp_t h77] at ih; rw [ifp_t h113] at ih; exact ih _ (by first | rfl | assumption))
              | (rw [show sBy (D 172) h i = D 172 (30 + 8 * h + 4) - D 172 (30 + 8 * i + 4) from ifp_t h77] at ih; rw [ifp_f h113, ifp_t h118] at ih; exact ih _ (by first | rfl | assumption))
              | (rw [show sBy (D 172) h i = D 172 (30 + 8 * h + 4) - D 172 (30 + 8 * i + 4) from ifp_t h77] at ih; rw [ifp_f h113, ifp_f (Int32.not_lt.mpr h118), ifp_f h123] at ih; exact ih _ (by first | rfl | assumption))
              | (rw [show sBy (D 172) h i = D 172 (30 + 8 * h + 4) - D 172 (30 + 8 * i + 4) from ifp_t h77] at ih; rw [ifp_f h113, ifp_f (Int32.not_lt.mpr h118), ifp_t h123, ifp_t h129] at ih; exact ih _ (by first | rfl | assumption))
              | (rw [show sBy (D 172) h i = D 172 (30 + 8 * h + 4) - D 172 (30 + 8 * i + 4) from ifp_t h77] at ih; rw [ifp_f h113, ifp_f (Int32.not_lt.mpr h118), ifp_t h123, ifp_f (Nat.not_lt.mpr h129)] at ih; exact ih _ (by first | rfl | assumption))
              | (rw [show sBy (D 172) h i = D 172 (30 + 8 * i + 1) * D 172 (30 + 8 * i + 2) - D 172 (30 + 8 * h + 1) * D 172 (30 + 8 * h + 2) from ifp_f h77] at ih; rw [ifp_t h113] at ih; exact ih _ (by first | rfl | assumption))
              | (rw [show sBy (D 172) h i = D 172 (30 + 8 * i + 1) * D 172 (30 + 8 * i + 2) - D 172 (30 + 8 * h + 1) * D 172 (30 + 8 * h + 2) from ifp_f h77] at ih; rw [ifp_f h113, ifp_t h118] at ih; exact ih _ (by first | rfl | assumption))
              | (rw [show sBy (D 172) h i = D 172 (30 + 8 * i + 1) * D 172 (30 + 8 * i + 2) - D 172 (30 + 8 * h + 1) * D 172 (30 + 8 * h + 2) from ifp_f h77] at ih; rw [ifp_f h113, ifp_f (Int32.not_lt.mpr h118), ifp_f h123] at ih; exact ih _ (by first | rfl | assumption))
              | (rw [show sBy (D 172) h i = D 172 (30 + 8 * i + 1) * D 172 (30 + 8 * i + 2) - D 172 (30 + 8 * h + 1) * D 172 (30 + 8 * h + 2) from ifp_f h77] at ih; rw [ifp_f h113, ifp_f (Int32.not_lt.mpr h118), ifp_t h123, ifp_t h129] at ih; exact ih _ (by first | rfl | assumption))
              | (rw [show sBy (D 172) h i = D 172 (30 + 8 * i + 1) * D 172 (30 + 8 * i + 2) - D 172 (30 + 8 * h + 1) * D 172 (30 + 8 * h + 2) from ifp_f h77] at ih; rw [ifp_f h113, ifp_f (Int32.not_lt.mpr h118), ifp_t h123, ifp_f (Nat.not_lt.mpr h129)] at ih; exact ih _ (by first | rfl | assumption))
          · skip
            refine w_ild5 i164_116 ?_
            refine w_igt i164_118 g164_118  (fun h118 => ?_) (fun h118 => ?_)
            · skip
              refine w_const i164_132 kc_1 ?_
              refine w_goto i164_133 g164_133 ?_
              refine w_iadd i164_137 rfl ?_
              refine w_ist3 i164_138 ?_
              refine w_inc4 i164_139 (inc1 _) ?_
              refine w_goto i164_142 g164_142 ?_
              rw [sumS, show sRk1 (D 172) h i = ifp (i = h) (nI 0) (ifp (0 < sBy (D 172) h i) (nI 1) (ifp (sBy (D 172) h i = 0) (ifp (i < h) (nI 1) (nI 0)) (nI 0))) from rfl] at ih
              first
                | (rw [show sBy (D 172) h i = D 172 (30 + 8 * h + 4) - D 172 (30 + 8 * i + 4) from ifp_t h77] at ih; rw [ifp_t h113] at ih; exact ih _ (by first | rfl | assumption))
                | (rw [show sBy (D 172) h i = D 172 (30 + 8 * h + 4) - D 172 (30 + 8 * i + 4) from ifp_t h77] at ih; rw [ifp_f h113, ifp_t h118] at ih; exact ih _ (by first | rfl | assumption))
                | (rw [show sBy (D 172) h i = D 172 (30 + 8 * h + 4) - D 172 (30 + 8 * i + 4) from ifp_t h77] at ih; rw [ifp_f h113, ifp_f (Int32.not_lt.mpr h118), ifp_f h123] at ih; exact ih _ (by first | rfl | assumption))
                | (rw [show sBy (D 172) h i = D 172 (30 + 8 * h + 4) - D 172 (30 + 8 * i + 4) from ifp_t h77] at ih; rw [ifp_f h113, ifp_f (Int32.not_lt.mpr h118), ifp_t h123, ifp_t h129] at ih; exact ih _ (by first | rfl | assumption))
                | (rw [show sBy (D 172) h i = D 172 (30 + 8 * h + 4) - D 172 (30 + 8 * i + 4) from ifp_t h77] at ih; rw [ifp_f h113, ifp_f (Int32.not_lt.mpr h118), ifp_t h123, ifp_f (Nat.not_lt.mpr h129)] at ih; exact ih _ (by first | rfl | assumption))
                | (rw [show sBy (D 172) h i = D 172 (30 + 8 * i + 1) * D 172 (30 + 8 * i + 2) - D 172 (30 + 8 * h + 1) * D 172 (30 + 8 * h + 2) from ifp_f h77] at ih; rw [ifp_t h113] at ih; exact ih _ (by first | rfl | assumption))
                | (rw [show sBy (D 172) h i = D 172 (30 + 8 * i + 1) * D 172 (30 + 8 * i + 2) - D 172 (30 + 8 * h + 1) * D 172 (30 + 8 * h + 2) from ifp_f h77] at ih; rw [ifp_f h113, ifp_t h118] at ih; exact ih _ (by first | rfl | assumption))
                | (rw [show sBy (D 172) h i = D 172 (30 + 8 * i + 1) * D 172 (30 + 8 * i + 2) - D 172 (30 + 8 * h + 1) * D 172 (30 + 8 * h + 2) from ifp_f h77] at ih; rw [ifp_f h113, ifp_f (Int32.not_lt.mpr h118), ifp_f h123] at ih; exact ih _ (by first | rfl | assumption))
                | (rw [show sBy (D 172) h i = D 172 (30 + 8 * i + 1) * D 172 (30 + 8 * i + 2) - D 172 (30 + 8 * h + 1) * D 172 (30 + 8 * h + 2) from ifp_f h77] at ih; rw [ifp_f h113, ifp_f (Int32.not_lt.mpr h118), ifp_t h123, ifp_t h129] at ih; exact ih _ (by first | rfl | assumption))
                | (rw [show sBy (D 172) h i = D 172 (30 + 8 * i + 1) * D 172 (30 + 8 * i + 2) - D 172 (30 + 8 * h + 1) * D 172 (30 + 8 * h + 2) from ifp_f h77] at ih; rw [ifp_f h113, ifp_f (Int32.not_lt.mpr h118), ifp_t h123, ifp_f (Nat.not_lt.mpr h129)] at ih; exact ih _ (by first | rfl | assumption))
            · skip
              refine w_ild5 i164_121 ?_
              refine w_ine i164_123 g164_123  (fun h123 => ?_) (fun h123 => ?_)
              · skip
                refine w_const i164_136 kc_0 ?_
                refine w_iadd i164_137 rfl ?_
                refine w_ist3 i164_138 ?_
                refine w_inc4 i164_139 (inc1 _) ?_
                refine w_goto i164_142 g164_142 ?_
                rw [sumS, show sRk1 (D 172) h i = ifp (i = h) (nI 0) (ifp (0 < sBy (D 172) h i) (nI 1) (ifp (sBy (D 172) h i = 0) (ifp (i < h) (nI 1) (nI 0)) (nI 0))) from rfl] at ih
                first
                  | (rw [show sBy (D 172) h i = D 172 (30 + 8 * h + 4) - D 172 (30 + 8 * i + 4) from ifp_t h77] at ih; rw [ifp_t h113] at ih; exact ih _ (by first | rfl | assumption))
                  | (rw [show sBy (D 172) h i = D 172 (30 + 8 * h + 4) - D 172 (30 + 8 * i + 4) from ifp_t h77] at ih; rw [ifp_f h113, ifp_t h118] at ih; exact ih _ (by first | rfl | assumption))
                  | (rw [show sBy (D 172) h i = D 172 (30 + 8 * h + 4) - D 172 (30 + 8 * i + 4) from ifp_t h77] at ih; rw [ifp_f h113, ifp_f (Int32.not_lt.mpr h118), ifp_f h123] at ih; exact ih _ (by first | rfl | assumption))
                  | (rw [show sBy (D 172) h i = D 172 (30 + 8 * h + 4) - D 172 (30 + 8 * i + 4) from ifp_t h77] at ih; rw [ifp_f h113, ifp_f (Int32.not_lt.mpr h118), ifp_t h123, ifp_t h129] at ih; exact ih _ (by first | rfl | assumption))
                  | (rw [show sBy (D 172) h i = D 172 (30 + 8 * h + 4) - D 172 (30 + 8 * i + 4) from ifp_t h77] at ih; rw [ifp_f h113, ifp_f (Int32.not_lt.mpr h118), ifp_t h123, ifp_f (Nat.not_lt.mpr h129)] at ih; exact ih _ (by first | rfl | assumption))
                  | (rw [show sBy (D 172) h i = D 172 (30 + 8 * i + 1) * D 172 (30 + 8 * i + 2) - D 172 (30 + 8 * h + 1) * D 172 (30 + 8 * h + 2) from ifp_f h77] at ih; rw [ifp_t h113] at ih; exact ih _ (by first | rfl | assumption))
                  | (rw [show sBy (D 172) h i = D 172 (30 + 8 * i + 1) * D 172 (30 + 8 * i + 2) - D 172 (30 + 8 * h + 1) * D 172 (30 + 8 * h + 2) from ifp_f h77] at ih; rw [ifp_f h113, ifp_t h118] at ih; exact ih _ (by first | rfl | assumption))
                  | (rw [show sBy (D 172) h i = D 172 (30 + 8 * i + 1) * D 172 (30 + 8 * i + 2) - D 172 (30 + 8 * h + 1) * D 172 (30 + 8 * h + 2) from ifp_f h77] at ih; rw [ifp_f h113, ifp_f (Int32.not_lt.mpr h118), ifp_f h123] at ih; exact ih _ (by first | rfl | assumption))
                  | (rw [show sBy (D 172) h i = D 172 (30 + 8 * i + 1) * D 172 (30 + 8 * i + 2) - D 172 (30 + 8 * h + 1) * D 172 (30 + 8 * h + 2) from ifp_f h77] at ih; rw [ifp_f h113, ifp_f (Int32.not_lt.mpr h118), ifp_t h123, ifp_t h129] at ih; exact ih _ (by first | rfl | assumption))
                  | (rw [show sBy (D 172) h i = D 172 (30 + 8 * i + 1) * D 172 (30 + 8 * i + 2) - D 172 (30 + 8 * h + 1) * D 172 (30 + 8 * h + 2) from ifp_f h77] at ih; rw [ifp_f h113, ifp_f (Int32.not_lt.mpr h118), ifp_t h123, ifp_f (Nat.not_lt.mpr h129)] at ih; exact ih _ (by first | rfl | assumption))
              · skip
                refine w_ild4 i164_126 ?_
                refine w_ild2 i164_128 ?_
                refine w_cgeN i164_129 g164_129 (by omega) (by omega) (fun h129 => ?_) (fun h129 => ?_)
                · skip
                  refine w_const i164_136 kc_0 ?_
                  refine w_iadd i164_137 rfl ?_
                  refine w_ist3 i164_138 ?_
                  refine w_inc4 i164_139 (inc1 _) ?_
                  refine w_goto i164_142 g164_142 ?_
                  rw [sumS, show sRk1 (D 172) h i = ifp (i = h) (nI 0) (ifp (0 < sBy (D 172) h i) (nI 1) (ifp (sBy (D 172) h i = 0) (ifp (i < h) (nI 1) (nI 0)) (nI 0))) from rfl] at ih
                  first
                    | (rw [show sBy (D 172) h i = D 172 (30 + 8 * h + 4) - D 172 (30 + 8 * i + 4) from ifp_t h77] at ih; rw [ifp_t h113] at ih; exact ih _ (by first | rfl | assumption))
                    | (rw [show sBy (D 172) h i = D 172 (30 + 8 * h + 4) - D 172 (30 + 8 * i + 4) from ifp_t h77] at ih; rw [ifp_f h113, ifp_t h118] at ih; exact ih _ (by first | rfl | assumption))
                    | (rw [show sBy (D 172) h i = D 172 (30 + 8 * h + 4) - D 172 (30 + 8 * i + 4) from ifp_t h77] at ih; rw [ifp_f h113, ifp_f (Int32.not_lt.mpr h118), ifp_f h123] at ih; exact ih _ (by first | rfl | assumption))
                    | (rw [show sBy (D 172) h i = D 172 (30 + 8 * h + 4) - D 172 (30 + 8 * i + 4) from ifp_t h77] at ih; rw [ifp_f h113, ifp_f (Int32.not_lt.mpr h118), ifp_t h123, ifp_t h129] at ih; exact ih _ (by first | rfl | assumption))
                    | (rw [show sBy (D 172) h i = D 172 (30 + 8 * h + 4) - D 172 (30 + 8 * i + 4) from ifp_t h77] at ih; rw [ifp_f h113, ifp_f (Int32.not_lt.mpr h118), ifp_t h123, ifp_f (Nat.not_lt.mpr h129)] at ih; exact ih _ (by first | rfl | assumption))
                    | (rw [show sBy (D 172) h i = D 172 (30 + 8 * i + 1) * D 172 (30 + 8 * i + 2) - D 172 (30 + 8 * h + 1) * D 172 (30 + 8 * h + 2) from ifp_f h77] at ih; rw [ifp_t h113] at ih; exact ih _ (by first | rfl | assumption))
                    | (rw [show sBy (D 172) h i = D 172 (30 + 8 * i + 1) * D 172 (30 + 8 * i + 2) - D 172 (30 + 8 * h + 1) * D 172 (30 + 8 * h + 2) from ifp_f h77] at ih; rw [ifp_f h113, ifp_t h118] at ih; exact ih _ (by first | rfl | assumption))
                    | (rw [show sBy (D 172) h i = D 172 (30 + 8 * i + 1) * D 172 (30 + 8 * i + 2) - D 172 (30 + 8 * h + 1) * D 172 (30 + 8 * h + 2) from ifp_f h77] at ih; rw [ifp_f h113, ifp_f (Int32.not_lt.mpr h118), ifp_f h123] at ih; exact ih _ (by first | rfl | assumption))
                    | (rw [show sBy (D 172) h i = D 172 (30 + 8 * i + 1) * D 172 (30 + 8 * i + 2) - D 172 (30 + 8 * h + 1) * D 172 (30 + 8 * h + 2) from ifp_f h77] at ih; rw [ifp_f h113, ifp_f (Int32.not_lt.mpr h118), ifp_t h123, ifp_t h129] at ih; exact ih _ (by first | rfl | assumption))
                    | (rw [show sBy (D 172) h i = D 172 (30 + 8 * i + 1) * D 172 (30 + 8 * i + 2) - D 172 (30 + 8 * h + 1) * D 172 (30 + 8 * h + 2) from ifp_f h77] at ih; rw [ifp_f h113, ifp_f (Int32.not_lt.mpr h118), ifp_t h123, ifp_f (Nat.not_lt.mpr h129)] at ih; exact ih _ (by first | rfl | assumption))
                · skip
                  refine w_const i164_132 kc_1 ?_
                  refine w_goto i164_133 g164_133 ?_
                  refine w_iadd i164_137 rfl ?_
                  refine w_ist3 i164_138 ?_
                  refine w_inc4 i164_139 (inc1 _) ?_
                  refine w_goto i164_142 g164_142 ?_
                  rw [sumS, show sRk1 (D 172) h i = ifp (i = h) (nI 0) (ifp (0 < sBy (D 172) h i) (nI 1) (ifp (sBy (D 172) h i = 0) (ifp (i < h) (nI 1) (nI 0)) (nI 0))) from rfl] at ih
                  first
                    | (rw [show sBy (D 172) h i = D 172 (30 + 8 * h + 4) - D 172 (30 + 8 * i + 4) from ifp_t h77] at ih; rw [ifp_t h113] at ih; exact ih _ (by first | rfl | assumption))
                    | (rw [show sBy (D 172) h i = D 172 (30 + 8 * h + 4) - D 172 (30 + 8 * i + 4) from ifp_t h77] at ih; rw [ifp_f h113, ifp_t h118] at ih; exact ih _ (by first | rfl | assumption))
                    | (rw [show sBy (D 172) h i = D 172 (30 + 8 * h + 4) - D 172 (30 + 8 * i + 4) from ifp_t h77] at ih; rw [ifp_f h113, ifp_f (Int32.not_lt.mpr h118), ifp_f h123] at ih; exact ih _ (by first | rfl | assumption))
                    | (rw [show sBy (D 172) h i = D 172 (30 + 8 * h + 4) - D 172 (30 + 8 * i + 4) from ifp_t h77] at ih; rw [ifp_f h113, ifp_f (Int32.not_lt.mpr h118), ifp_t h123, ifp_t h129] at ih; exact ih _ (by first | rfl | assumption))
                    | (rw [show sBy (D 172) h i = D 172 (30 + 8 * h + 4) - D 172 (30 + 8 * i + 4) from ifp_t h77] at ih; rw [ifp_f h113, ifp_f (Int32.not_lt.mpr h118), ifp_t h123, ifp_f (Nat.not_lt.mpr h129)] at ih; exact ih _ (by first | rfl | assumption))
                    | (rw [show sBy (D 172) h i = D 172 (30 + 8 * i + 1) * D 172 (30 + 8 * i + 2) - D 172 (30 + 8 * h + 1) * D 172 (30 + 8 * h + 2) from ifp_f h77] at ih; rw [ifp_t h113] at ih; exact ih _ (by first | rfl | assumption))
                    | (rw [show sBy (D 172) h i = D 172 (30 + 8 * i + 1) * D 172 (30 + 8 * i + 2) - D 172 (30 + 8 * h + 1) * D 172 (30 + 8 * h + 2) from ifp_f h77] at ih; rw [ifp_f h113, ifp_t h118] at ih; exact ih _ (by first | rfl | assumption))
                    | (rw [show sBy (D 172) h i = D 172 (30 + 8 * i + 1) * D 172 (30 + 8 * i + 2) - D 172 (30 + 8 * h + 1) * D 172 (30 + 8 * h + 2) from ifp_f h77] at ih; rw [ifp_f h113, ifp_f (Int32.not_lt.mpr h118), ifp_f h123] at ih; exact ih _ (by first | rfl | assumption))
                    | (rw [show sBy (D 172) h i = D 172 (30 + 8 * i + 1) * D 172 (30 + 8 * i + 2) - D 172 (30 + 8 * h + 1) * D 172 (30 + 8 * h + 2) from ifp_f h77] at ih; rw [ifp_f h113, ifp_f (Int32.not_lt.mpr h118), ifp_t h123, ifp_t h129] at ih; exact ih _ (by first | rfl | assumption))
                    | (rw [show sBy (D 172) h i = D 172 (30 + 8 * i + 1) * D 172 (30 + 8 * i + 2) - D 172 (30 + 8 * h + 1) * D 172 (30 + 8 * h + 2) from ifp_f h77] at ih; rw [ifp_f h113, ifp_f (Int32.not_lt.mpr h118), ifp_t h123, ifp_f (Nat.not_lt.mpr h129)] at ih; exact ih _ (by first | rfl | assumption))
  exact L2 n 0 _ _ _ rfl rfl rfl (by omega) hq
