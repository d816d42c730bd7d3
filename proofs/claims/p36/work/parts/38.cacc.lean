/-! the class, accounts, undo, the snapshot -/
noncomputable def resR (rs : List (Int32 × Int32)) (w : Nat) (z : Int32) : Int32 := match rs.drop w with
  | [] => -1015
  | (a, b) :: _ => ifp (z = 0) a b
theorem RsC.ct {D : Mm} {rs : List (Int32 × Int32)} (h : RsC D rs) (h3 : rs.length ≤ 3) : D 157 2 = nI rs.length := by
  rcases rs with _ | ⟨⟨a, b⟩, _ | ⟨⟨u, v⟩, _ | ⟨⟨y, z⟩, _ | ⟨_, t⟩⟩⟩⟩
  · exact h
  · exact h.1
  · exact h.1
  · exact h.1
  · simp only [List.length_cons] at h3; omega
theorem RsC.at {D : Mm} {rs : List (Int32 × Int32)} (h : RsC D rs) (h3 : rs.length ≤ 3) {w : Nat} (hw : w < rs.length) {z : Int32} : (z = 0 → D 158 w = resR rs w z) ∧ (¬ z = 0 → D 159 w = resR rs w z) := by
  have key : ∀ a b : Int32, (z = 0 → a = ifp (z = 0) a b) ∧ (¬ z = 0 → b = ifp (z = 0) a b) := fun a b => ⟨fun e => (ifp_t e).symm, fun e => (ifp_f e).symm⟩
  rcases rs with _ | ⟨⟨a, b⟩, _ | ⟨⟨u, v⟩, _ | ⟨⟨y, z2⟩, _ | ⟨_, t⟩⟩⟩⟩
  · simp only [List.length_nil] at hw; omega
  · simp only [List.length_cons, List.length_nil] at hw
    have e : w = 0 := by omega
    subst e
    rw [h.2.1, h.2.2]; exact key a b
  · simp only [List.length_cons, List.length_nil] at hw
    rcases (by omega : w = 0 ∨ w = 1) with e | e <;> subst e
    · rw [h.2.1, h.2.2.1]; exact key a b
    · rw [h.2.2.2.1, h.2.2.2.2]; exact key u v
  · simp only [List.length_cons, List.length_nil] at hw
    rcases (by omega : w = 0 ∨ w = 1 ∨ w = 2) with e | e | e <;> subst e
    · rw [h.2.1, h.2.2.1]; exact key a b
    · rw [h.2.2.2.1, h.2.2.2.2.1]; exact key u v
    · rw [h.2.2.2.2.2.1, h.2.2.2.2.2.2]; exact key y z2
  · simp only [List.length_cons] at h3; omega
theorem resR_no {rs : List (Int32 × Int32)} {w : Nat} {z : Int32} (h : rs.length ≤ w) : resR rs w z = -1015 := by
  unfold resR
  rw [List.drop_eq_nil_of_le h]
set_option maxHeartbeats 100000 in
theorem K_reason_bad {d : Nat} {D : Mm} {a z : Int32} (hb : badR a (nI 0) (nI 2)) : Ct (d + 6) 79 [.ref 0, .int a, .int z] D (Ex (some (.int (-1012))) D) := by
  refine ent m79 rfl rfl (ls := [.ref 0, .int a, .int z]) rfl ?_
  refine w_ild1 i79_0 ?_
  refine w_const i79_1 kc_0 ?_
  refine w_const i79_2 kc_2 ?_
  refine w_sI3 i79_3 c98 rfl  rfl ⟨rfl, Nat.le_of_ble_eq_true rfl⟩ (K_isFrom_f hb) ?_
  refine w_ineNF i79_6 (by omega) (by omega) ?_
  refine w_sip i79_9 ks_m1012 ?_
  refine w_ri i79_12 r79 ?_
  exact ⟨rfl, rfl⟩
set_option maxHeartbeats 100000 in
theorem K_reason {d : Nat} {D : Mm} {rs : List (Int32 × Int32)} (hr : RsC D rs) (h3 : rs.length ≤ 3) {w : Nat} (hw : w ≤ 2) {z : Int32} : Ct (d + 6) 79 [.ref 0, .int (nI w), .int z] D (Ex (some (.int (resR rs w z))) D) := by
  refine ent m79 rfl rfl (ls := [.ref 0, .int (nI w), .int z]) rfl ?_
  refine w_ild1 i79_0 ?_
  refine w_const i79_1 kc_0 ?_
  refine w_const i79_2 kc_2 ?_
  refine w_sI3 i79_3 c98 rfl  rfl ⟨rfl, Nat.le_of_ble_eq_true rfl⟩ (K_isFrom_t (nI_inR (by omega) hw (by omega))) ?_
  refine w_ineNT i79_6 g79_6 (by omega) (by omega) ?_
  refine w_ild1 i79_13 ?_
  refine w_ald0 i79_14 ?_
  refine w_gfR i79_15 (by decide) s_0 rfl ?_
  refine w_gfI i79_18 (by decide) s_157 rfl (hr.ct h3) ?_
  refine w_cltN i79_21 g79_21 (by omega) (by omega) (fun h21 => ?_) (fun h21 => ?_)
  · skip
    refine w_ild2 i79_28 ?_
    refine w_ieq i79_29 g79_29  (fun h29 => ?_) (fun h29 => ?_)
    · skip
      refine w_ald0 i79_44 ?_
      refine w_gfR i79_45 (by decide) s_0 rfl ?_
      refine w_gfR i79_48 (by decide) s_157 rfl ?_
      refine w_ild1 i79_51 ?_
      refine w_ial i79_52 s_158 (by decide) (by omega) ((hr.at h3 (by omega)).1 h29) ?_
      refine w_ri i79_53 r79 ?_
      exact ⟨rfl, rfl⟩
    · skip
      refine w_ald0 i79_32 ?_
      refine w_gfR i79_33 (by decide) s_0 rfl ?_
      refine w_gfR i79_36 (by decide) s_157 rfl ?_
      refine w_ild1 i79_39 ?_
      refine w_ial i79_40 s_159 (by decide) (by omega) ((hr.at h3 (by omega)).2 h29) ?_
      refine w_goto i79_41 g79_41 ?_
      refine w_ri i79_53 r79 ?_
      exact ⟨rfl, rfl⟩
  · skip
    refine w_sip i79_24 ks_m1015 ?_
    refine w_ri i79_27 r79 ?_
    rw [resR_no (by omega)]; exact ⟨rfl, rfl⟩
set_option maxHeartbeats 100000 in
theorem K_acc_bad {d : Nat} {D : Mm} {w : Int32} (hb : badR w (nI 0) (nI 13)) : Ct (d + 7) 80 [.ref 0, .int w] D (Ex (some (.int (-1012))) D) := by
  refine ent m80 rfl rfl (ls := [.ref 0, .int w]) rfl ?_
  refine w_ild1 i80_0 ?_
  refine w_ts (t := 196) i80_1 (ts_out (badR_i hb) (by decide)) ?_
  refine w_sip i80_196 ks_m1012 ?_
  refine w_ri i80_199 r80 ?_
  exact ⟨rfl, rfl⟩
set_option maxHeartbeats 100000 in
theorem K_acc0 {d : Nat} {D : Mm} {n : Nat} {V : Nat → Int32} (R : Rel D n V) (h12 : n ≤ 12) (ho : opV V) (hb : byV n V) : Ct (d + 7) 80 [.ref 0, .int (nI 0)] D (Ex (some (.int (nI n))) D) := by
  refine ent m80 rfl rfl (ls := [.ref 0, .int (nI 0)]) rfl ?_
  refine w_ild1 i80_0 ?_
  refine w_ts (t := 72) i80_1 (by decide) ?_
  refine w_ald0 i80_72 ?_
  refine w_gfR i80_73 (by decide) s_0 rfl ?_
  refine w_gfR i80_76 (by decide) s_1 rfl ?_
  refine w_gfI i80_79 (by decide) s_2 rfl R.ct ?_
  refine w_ri i80_82 r80 ?_
  exact ⟨rfl, rfl⟩
set_option maxHeartbeats 100000 in
theorem K_acc1 {d : Nat} {D : Mm} {n : Nat} {V : Nat → Int32} (R : Rel D n V) (h12 : n ≤ 12) (ho : opV V) (hb : byV n V) : Ct (d + 7) 80 [.ref 0, .int (nI 1)] D (Ex (some (.int (mOpens V))) D) := by
  refine ent m80 rfl rfl (ls := [.ref 0, .int (nI 1)]) rfl ?_
  refine w_ild1 i80_0 ?_
  refine w_ts (t := 83) i80_1 (by decide) ?_
  refine w_ald0 i80_83 ?_
  refine w_gfR i80_84 (by decide) s_0 rfl ?_
  refine w_vI1 i80_87 c25 (Or.inl rfl) ⟨by decide +kernel, by decide⟩ rfl ⟨rfl, Nat.le_of_ble_eq_true rfl⟩ (K_openHouses R h12 ho) ?_
  refine w_ri i80_90 r80 ?_
  exact ⟨rfl, rfl⟩
set_option maxHeartbeats 100000 in
theorem K_acc2 {d : Nat} {D : Mm} {n : Nat} {V : Nat → Int32} (R : Rel D n V) (h12 : n ≤ 12) (ho : opV V) (hb : byV n V) : Ct (d + 7) 80 [.ref 0, .int (nI 2)] D (Ex (some (.int (mWrits n V))) D) := by
  refine ent m80 rfl rfl (ls := [.ref 0, .int (nI 2)]) rfl ?_
  refine w_ild1 i80_0 ?_
  refine w_ts (t := 91) i80_1 (by decide) ?_
  refine w_ald0 i80_91 ?_
  refine w_gfR i80_92 (by decide) s_0 rfl ?_
  refine w_gfR i80_95 (by decide) s_1 rfl ?_
  refine w_vI1 i80_98 c49 (Or.inl rfl) ⟨by decide +kernel, by decide⟩ rfl ⟨rfl, Nat.le_of_ble_eq_true rfl⟩ (K_allWrits R h12 hb) ?_
  refine w_ri i80_101 r80 ?_
  exact ⟨rfl, rfl⟩
set_option maxHeartbeats 100000 in
theorem K_acc3 {d : Nat} {D : Mm} {n : Nat} {V : Nat → Int32} (R : Rel D n V) (h12 : n ≤ 12) (ho : opV V) (hb : byV n V) : Ct (d + 7) 80 [.ref 0, .int (nI 3)] D (Ex (some (.int (mOfAll n V 1))) D) := by
  refine ent m80 rfl rfl (ls := [.ref 0, .int (nI 3)]) rfl ?_
  refine w_ild1 i80_0 ?_
  refine w_ts (t := 102) i80_1 (by decide) ?_
  refine w_ald0 i80_102 ?_
  refine w_gfR i80_103 (by decide) s_0 rfl ?_
  refine w_gfR i80_106 (by decide) s_1 rfl ?_
  refine w_vI1 i80_109 c50 (Or.inl rfl) ⟨by decide +kernel, by decide⟩ rfl ⟨rfl, Nat.le_of_ble_eq_true rfl⟩ (K_allWax R h12) ?_
  refine w_ri i80_112 r80 ?_
  exact ⟨rfl, rfl⟩
set_option maxHeartbeats 100000 in
theorem K_acc4 {d : Nat} {D : Mm} {n : Nat} {V : Nat → Int32} (R : Rel D n V) (h12 : n ≤ 12) (ho : opV V) (hb : byV n V) : Ct (d + 7) 80 [.ref 0, .int (nI 4)] D (Ex (some (.int (mStores V))) D) := by
  refine ent m80 rfl rfl (ls := [.ref 0, .int (nI 4)]) rfl ?_
  refine w_ild1 i80_0 ?_
  refine w_ts (t := 113) i80_1 (by decide) ?_
  refine w_ald0 i80_113 ?_
  refine w_gfR i80_114 (by decide) s_0 rfl ?_
  refine w_vI1 i80_117 c23 (Or.inl rfl) ⟨by decide +kernel, by decide⟩ rfl ⟨rfl, Nat.le_of_ble_eq_true rfl⟩ (K_allStores R h12) ?_
  refine w_ri i80_120 r80 ?_
  exact ⟨rfl, rfl⟩
set_option maxHeartbeats 100000 in
theorem K_acc5 {d : Nat} {D : Mm} {n : Nat} {V : Nat → Int32} (R : Rel D n V) (h12 : n ≤ 12) (ho : opV V) (hb : byV n V) : Ct (d + 7) 80 [.ref 0, .int (nI 5)] D (Ex (some (.int (mPooled V))) D) := by
  refine ent m80 rfl rfl (ls := [.ref 0, .int (nI 5)]) rfl ?_
  refine w_ild1 i80_0 ?_
  refine w_ts (t := 121) i80_1 (by decide) ?_
  refine w_ald0 i80_121 ?_
  refine w_gfR i80_122 (by decide) s_0 rfl ?_
  refine w_gfI i80_125 (by decide) s_1 rfl R.pl ?_
  refine w_ri i80_128 r80 ?_
  exact ⟨rfl, rfl⟩
set_option maxHeartbeats 100000 in
theorem K_acc6 {d : Nat} {D : Mm} {n : Nat} {V : Nat → Int32} (R : Rel D n V) (h12 : n ≤ 12) (ho : opV V) (hb : byV n V) : Ct (d + 7) 80 [.ref 0, .int (nI 6)] D (Ex (some (.int (V 1))) D) := by
  refine ent m80 rfl rfl (ls := [.ref 0, .int (nI 6)]) rfl ?_
  refine w_ild1 i80_0 ?_
  refine w_ts (t := 129) i80_1 (by decide) ?_
  refine w_ald0 i80_129 ?_
  refine w_gfR i80_130 (by decide) s_0 rfl ?_
  refine w_gfI i80_133 (by decide) s_1 rfl R.f6 ?_
  refine w_ri i80_136 r80 ?_
  exact ⟨rfl, rfl⟩
set_option maxHeartbeats 100000 in
theorem K_acc7 {d : Nat} {D : Mm} {n : Nat} {V : Nat → Int32} (R : Rel D n V) (h12 : n ≤ 12) (ho : opV V) (hb : byV n V) : Ct (d + 7) 80 [.ref 0, .int (nI 7)] D (Ex (some (.int (V 2))) D) := by
  refine ent m80 rfl rfl (ls := [.ref 0, .int (nI 7)]) rfl ?_
  refine w_ild1 i80_0 ?_
  refine w_ts (t := 137) i80_1 (by decide) ?_
  refine w_ald0 i80_137 ?_
  refine w_gfR i80_138 (by decide) s_0 rfl ?_
  refine w_gfI i80_141 (by decide) s_1 rfl R.f7 ?_
  refine w_ri i80_144 r80 ?_
  exact ⟨rfl, rfl⟩
set_option maxHeartbeats 100000 in
theorem K_acc8 {d : Nat} {D : Mm} {n : Nat} {V : Nat → Int32} (R : Rel D n V) (h12 : n ≤ 12) (ho : opV V) (hb : byV n V) : Ct (d + 7) 80 [.ref 0, .int (nI 8)] D (Ex (some (.int (V 3))) D) := by
  refine ent m80 rfl rfl (ls := [.ref 0, .int (nI 8)]) rfl ?_
  refine w_ild1 i80_0 ?_
  refine w_ts (t := 145) i80_1 (by decide) ?_
  refine w_ald0 i80_145 ?_
  refine w_gfR i80_146 (by decide) s_0 rfl ?_
  refine w_gfI i80_149 (by decide) s_1 rfl R.f8 ?_
  refine w_ri i80_152 r80 ?_
  exact ⟨rfl, rfl⟩
set_option maxHeartbeats 100000 in
theorem K_acc9 {d : Nat} {D : Mm} {n : Nat} {V : Nat → Int32} (R : Rel D n V) (h12 : n ≤ 12) (ho : opV V) (hb : byV n V) : Ct (d + 7) 80 [.ref 0, .int (nI 9)] D (Ex (some (.int (V 4))) D) := by
  refine ent m80 rfl rfl (ls := [.ref 0, .int (nI 9)]) rfl ?_
  refine w_ild1 i80_0 ?_
  refine w_ts (t := 153) i80_1 (by decide) ?_
  refine w_ald0 i80_153 ?_
  refine w_gfR i80_154 (by decide) s_0 rfl ?_
  refine w_gfI i80_157 (by decide) s_1 rfl R.f9 ?_
  refine w_ri i80_160 r80 ?_
  exact ⟨rfl, rfl⟩
set_option maxHeartbeats 100000 in
theorem K_acc10 {d : Nat} {D : Mm} {n : Nat} {V : Nat → Int32} (R : Rel D n V) (h12 : n ≤ 12) (ho : opV V) (hb : byV n V) : Ct (d + 7) 80 [.ref 0, .int (nI 10)] D (Ex (some (.int (mOfAll n V 4))) D) := by
  refine ent m80 rfl rfl (ls := [.ref 0, .int (nI 10)]) rfl ?_
  refine w_ild1 i80_0 ?_
  refine w_ts (t := 161) i80_1 (by decide) ?_
  refine w_ald0 i80_161 ?_
  refine w_gfR i80_162 (by decide) s_0 rfl ?_
  refine w_gfR i80_165 (by decide) s_1 rfl ?_
  refine w_vI1 i80_168 c51 (Or.inl rfl) ⟨by decide +kernel, by decide⟩ rfl ⟨rfl, Nat.le_of_ble_eq_true rfl⟩ (K_allDebts R h12) ?_
  refine w_ri i80_171 r80 ?_
  exact ⟨rfl, rfl⟩
set_option maxHeartbeats 100000 in
theorem K_acc11 {d : Nat} {D : Mm} {n : Nat} {V : Nat → Int32} (R : Rel D n V) (h12 : n ≤ 12) (ho : opV V) (hb : byV n V) : Ct (d + 7) 80 [.ref 0, .int (nI 11)] D (Ex (some (.int (V 5))) D) := by
  refine ent m80 rfl rfl (ls := [.ref 0, .int (nI 11)]) rfl ?_
  refine w_ild1 i80_0 ?_
  refine w_ts (t := 172) i80_1 (by decide) ?_
  refine w_ald0 i80_172 ?_
  refine w_gfR i80_173 (by decide) s_0 rfl ?_
  refine w_gfI i80_176 (by decide) s_1 rfl R.f10 ?_
  refine w_ri i80_179 r80 ?_
  exact ⟨rfl, rfl⟩
set_option maxHeartbeats 100000 in
theorem K_acc13 {d : Nat} {D : Mm} {n : Nat} {V : Nat → Int32} (R : Rel D n V) (h12 : n ≤ 12) (ho : opV V) (hb : byV n V) {c : Nat} (hc : D 155 2 = nI c) : Ct (d + 7) 80 [.ref 0, .int (nI 13)] D (Ex (some (.int (nI c))) D) := by
  refine ent m80 rfl rfl (ls := [.ref 0, .int (nI 13)]) rfl ?_
  refine w_ild1 i80_0 ?_
  refine w_ts (t := 188) i80_1 (by decide) ?_
  refine w_ald0 i80_188 ?_
  refine w_gfR i80_189 (by decide) s_0 rfl ?_
  refine w_gfI i80_192 (by decide) s_155 rfl hc ?_
  refine w_ri i80_195 r80 ?_
  exact ⟨rfl, rfl⟩
set_option maxHeartbeats 100000 in
theorem K_undo_no {d : Nat} {D : Mm} (h2 : D 155 2 = nI 0) : Ct (d + 7) 82 [.ref 0] D (Ex (some (.int (-1015))) D) := by
  refine ent m82 rfl rfl (ls := [.ref 0]) rfl ?_
  refine w_ald0 i82_0 ?_
  refine w_gfR i82_1 (by decide) s_0 rfl ?_
  refine w_ald0 i82_4 ?_
  refine w_gfR i82_5 (by decide) s_0 rfl ?_
  refine w_vI2 i82_8 c3 (Or.inl rfl) ⟨by decide +kernel, by decide⟩ rfl ⟨rfl, Nat.le_of_ble_eq_true rfl⟩ (K_stepB_0 h2) ?_
  refine w_ieqNT i82_11 g82_11 (by omega) (by omega) ?_
  refine w_sip i82_24 ks_m1015 ?_
  refine w_ri i82_27 r82 ?_
  exact ⟨rfl, rfl⟩
set_option maxHeartbeats 100000 in
theorem K_undo {d : Nat} {D : Mm} {Q : Option Value → Mm → Prop} {nx c n : Nat} {V : Nat → Int32} (h1 : D 155 1 = nI nx) (h9 : nx < 9) (h2 : D 155 2 = nI (c + 1)) (h8 : c < 8) (R : RelB D (rowb ((nx + 8) % 9)) n V) (h12 : n ≤ 12) (ho : opV V) (hq : ∀ D2, Rel D2 n V → (∀ q, (q < 1 ∨ 14 < q) → D2 q = mup (mup D 155 2 (nI c)) 155 1 (nI ((nx + 8) % 9)) q) → Q (some (.int (nI c))) D2) : Ct (d + 7) 82 [.ref 0] D Q := by
  refine ent m82 rfl rfl (ls := [.ref 0]) rfl ?_
  refine w_ald0 i82_0 ?_
  refine w_gfR i82_1 (by decide) s_0 rfl ?_
  refine w_ald0 i82_4 ?_
  refine w_gfR i82_5 (by decide) s_0 rfl ?_
  refine w_vG2 i82_8 c3 (Or.inl rfl) ⟨by decide +kernel, by decide⟩ rfl ⟨rfl, Nat.le_of_ble_eq_true rfl⟩ ?_
  refine K_stepB h1 h9 h2 h8 R h12 ho (fun D2 g f => ?_)
  refine w_ieqNF i82_11 (by omega) (by omega) ?_
  refine w_ald0 i82_14 ?_
  refine w_gfR i82_15 (by decide) s_0 rfl ?_
  refine w_gfI i82_18 (by decide) s_155 rfl ((congrFun (f 155 (Or.inr (by decide))) 2).trans ((mupJ (by decide)).trans mupE)) ?_
  refine w_goto i82_21 g82_21 ?_
  refine w_ri i82_27 r82 ?_
  exact hq _ g f
theorem StA_15 : StA 15 := StA_t (t := 1) (by decide)
set_option maxHeartbeats 100000 in
theorem K_save {d : Nat} {D : Mm} {Q : Option Value → Mm → Prop} {n : Nat} {V : Nat → Int32} (R : Rel D n V) (h12 : n ≤ 12) (ho : opV V) (hq : ∀ D2, RelB D2 15 n V → (∀ q, q ≠ 0 → (q < 15 ∨ 28 < q) → D2 q = D q) → (∀ j, j ≠ 2 → D2 0 j = D 0 j) → D2 0 2 = nI 1 → Q (some (.int (nI n))) D2) : Ct (d + 7) 83 [.ref 0] D Q := by
  refine ent m83 rfl rfl (ls := [.ref 0]) rfl ?_
  refine w_ald0 i83_0 ?_
  refine w_gfR i83_1 (by decide) s_0 rfl ?_
  refine w_ald0 i83_4 ?_
  refine w_gfR i83_5 (by decide) s_0 rfl ?_
  refine w_vG2 i83_8 c19 (Or.inl rfl) ⟨by decide +kernel, by decide⟩ rfl ⟨rfl, Nat.le_of_ble_eq_true rfl⟩ ?_
  refine K_copyFrom (b := 15) (c := 1) StA_15 StA_1 (by decide) R h12 ho (fun D2 g f => ?_)
  refine w_ald0 i83_11 ?_
  refine w_const i83_12 kc_1 ?_
  refine w_pf1 i83_13 (by decide) s_0 rfl (Or.inr rfl) ?_
  refine w_ald0 i83_16 ?_
  refine w_gfR i83_17 (by decide) s_0 rfl ?_
  refine w_gfR i83_20 (by decide) s_1 rfl ?_
  refine w_gfI i83_23 (by decide) s_2 rfl ((mupC (by decide)).trans ((congrFun (f 2 (by omega)) 8).trans R.ct)) ?_
  refine w_ri i83_26 r83 ?_
  exact hq _ (g.fr (fun q a b => mupF (by omega))) (fun q h0 h => (mupF h0).trans (f q (by omega))) (fun j hj => (mupJ hj).trans (congrFun (f 0 (by omega)) j)) mupE
set_option maxHeartbeats 100000 in
theorem K_restore_no {d : Nat} {D : Mm} (hs : D 0 2 = nI 0) : Ct (d + 7) 84 [.ref 0] D (Ex (some (.int (-1015))) D) := by
  refine ent m84 rfl rfl (ls := [.ref 0]) rfl ?_
  refine w_ald0 i84_0 ?_
  refine w_gfI i84_1 (by decide) s_0 rfl hs ?_
  refine w_ineNF i84_4 (by omega) (by omega) ?_
  refine w_sip i84_7 ks_m1015 ?_
  refine w_ri i84_10 r84 ?_
  exact ⟨rfl, rfl⟩
set_option maxHeartbeats 100000 in
theorem K_restore {d : Nat} {D : Mm} {Q : Option Value → Mm → Prop} {n : Nat} {V : Nat → Int32} (hs : D 0 2 = nI 1) (R : RelB D 15 n V) (h12 : n ≤ 12) (ho : opV V) (hq : ∀ D2, Rel D2 n V → (∀ q, (q < 1 ∨ 14 < q) → q ≠ 155 → D2 q = D q) → (∀ j, j ≠ 2 → D2 155 j = D 155 j) → D2 155 2 = nI 0 → Q (some (.int (nI n))) D2) : Ct (d + 7) 84 [.ref 0] D Q := by
  refine ent m84 rfl rfl (ls := [.ref 0]) rfl ?_
  refine w_ald0 i84_0 ?_
  refine w_gfI i84_1 (by decide) s_0 rfl hs ?_
  refine w_ineNT i84_4 g84_4 (by omega) (by omega) ?_
  refine w_ald0 i84_11 ?_
  refine w_gfR i84_12 (by decide) s_0 rfl ?_
  refine w_ald0 i84_15 ?_
  refine w_gfR i84_16 (by decide) s_0 rfl ?_
  refine w_vG2 i84_19 c19 (Or.inl rfl) ⟨by decide +kernel, by decide⟩ rfl ⟨rfl, Nat.le_of_ble_eq_true rfl⟩ ?_
  refine K_copyFrom (b := 1) (c := 15) StA_1 StA_15 (by decide) R h12 ho (fun D2 g f => ?_)
  refine w_ald0 i84_22 ?_
  refine w_gfR i84_23 (by decide) s_0 rfl ?_
  refine w_vV1 i84_26 c4 (Or.inl rfl) ⟨by decide +kernel, by decide⟩ rfl ⟨rfl, Nat.le_of_ble_eq_true rfl⟩ K_forget ?_
  refine w_ald0 i84_29 ?_
  refine w_gfR i84_30 (by decide) s_0 rfl ?_
  refine w_gfR i84_33 (by decide) s_1 rfl ?_
  refine w_gfI i84_36 (by decide) s_2 rfl ((mupC (by decide)).trans (Rel.ct g)) ?_
  refine w_ri i84_39 r84 ?_
  exact hq _ (Rel.fr g (fun q a b => mupF (by omega))) (fun q h h0 => (mupF h0).trans (f q (by omega))) (fun j hj => (mupJ hj).trans (congrFun (f 155 (by omega)) j)) mupE
