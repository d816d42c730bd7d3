/-! the class, its history -/
theorem rows_at {r : Nat} (h : r < 9) : ([some 29, some 43, some 57, some 71, some 85, some 99, some 113, some 127, some 141] : List (Option Nat))[r]? = some (some (1 + 14 * (r + 2))) := by
  rcases (by omega : r = 0 ∨ r = 1 ∨ r = 2 ∨ r = 3 ∨ r = 4 ∨ r = 5 ∨ r = 6 ∨ r = 7 ∨ r = 8) with e | e | e | e | e | e | e | e | e <;> subst e <;> rfl
def rowb (r : Nat) : Nat := 1 + 14 * (r + 2)
theorem StA_row {r : Nat} (h : r < 9) : StA (rowb r) := StA_t (by omega)
theorem StA_1 : StA 1 := StA_t (t := 0) (by decide)
theorem RelB.fr {D D2 : Mm} {b n : Nat} {V : Nat → Int32} (R : RelB D b n V) (h : ∀ q, b ≤ q → q ≤ b + 13 → D2 q = D q) : RelB D2 b n V := by
  refine ⟨?_, fun s hs => ?_, fun i hi => ?_⟩
  · rw [h (b + 1) (by omega) (by omega), h b (by omega) (by omega)]; exact R.1
  · rw [h (b + 2) (by omega) (by omega), h (b + 3) (by omega) (by omega), h (b + 4) (by omega) (by omega), h (b + 5) (by omega) (by omega), h (b + 6) (by omega) (by omega), h (b + 7) (by omega) (by omega), h (b + 8) (by omega) (by omega), h (b + 9) (by omega) (by omega)]; exact R.2.1 s hs
  · rw [h (b + 10) (by omega) (by omega), h (b + 11) (by omega) (by omega), h (b + 12) (by omega) (by omega), h (b + 13) (by omega) (by omega)]; exact R.2.2 i hi
theorem RelB.ext {D : Mm} {b n : Nat} {V V2 : Nat → Int32} (R : RelB D b n V) (h12 : n ≤ 12) (h : ∀ j, j < 126 → V2 j = V j) : RelB D b n V2 := by
  have hp : mPooled V2 = mPooled V := mP_congr (fun i hi => h _ (by omega))
  refine ⟨?_, fun s hs => ?_, fun i hi => ?_⟩
  · rw [hp, h 1 (by omega), h 2 (by omega), h 3 (by omega), h 4 (by omega), h 5 (by omega)]; exact R.1
  · rw [h (30 + 8 * s + 0) (by omega), h (30 + 8 * s + 1) (by omega), h (30 + 8 * s + 2) (by omega), h (30 + 8 * s + 3) (by omega), h (30 + 8 * s + 4) (by omega), h (30 + 8 * s + 5) (by omega), h (30 + 8 * s + 6) (by omega), h (30 + 8 * s + 7) (by omega)]; exact R.2.1 s hs
  · rw [h (6 + 4 * i + 0) (by omega), h (6 + 4 * i + 1) (by omega), h (6 + 4 * i + 2) (by omega), h (6 + 4 * i + 3) (by omega)]; exact R.2.2 i hi
theorem ifp_mn {c : Nat} (h : c ≤ 8) : ifp (nI (c + 1) ≤ nI 8) (nI (c + 1)) (nI 8) = nI (min (c + 1) 8) := by
  by_cases g : c + 1 ≤ 8
  · rw [ifp_t ((nle (by omega) (by omega)).mpr g), Nat.min_eq_left g]
  · rw [ifp_f (fun z => g ((nle (by omega) (by omega)).mp z)), Nat.min_eq_right (by omega)]
theorem K_min8 {d : Nat} {D : Mm} {c : Nat} (h : c ≤ 8) : Ct (d + 1) 202 [.int (nI (c + 1)), .int (nI 8)] D (Ex (some (.int (nI (min (c + 1) 8)))) D) := by rw [← ifp_mn h]; exact K_min
set_option maxHeartbeats 100000 in
theorem K_begin {d : Nat} {D : Mm} {Q : Option Value → Mm → Prop} {nx n : Nat} {V : Nat → Int32} (R : Rel D n V) (h12 : n ≤ 12) (ho : opV V) (h1 : D 155 1 = nI nx) (h9 : nx < 9) (hq : ∀ D2, RelB D2 (rowb nx) n V → (∀ q, (q < rowb nx ∨ rowb nx + 13 < q) → D2 q = D q) → Q none D2) : Ct (d + 4) 0 [.ref 155, .ref 1] D Q := by
  refine ent m0 rfl rfl (ls := [.ref 155, .ref 1]) rfl ?_
  refine w_ald0 i0_0 ?_
  refine w_gfR i0_1 (by decide) s_155 rfl ?_
  refine w_ald0 i0_4 ?_
  refine w_gfI i0_5 (by decide) s_155 rfl h1 ?_
  refine w_aal i0_8 s_156 (by decide) (by omega) (rows_at h9) ?_
  refine w_ald1 i0_9 ?_
  refine w_vG2 i0_10 c19 (Or.inl rfl) (StA_row h9).k19 (by repeat (first | exact nv_nil | refine nv_cons (by first | rfl | assumption) ?_)) ⟨(by repeat (first | exact nv_nil | refine nv_cons (by first | rfl | assumption) ?_)), Nat.le_of_ble_eq_true rfl⟩ ?_
  refine K_copyFrom (b := rowb nx) (c := 1) (StA_row h9) StA_1 (by unfold rowb; omega) R h12 ho (fun D2 g f => ?_)
  refine w_rv i0_13 r0 ?_
  exact hq _ g f
set_option maxHeartbeats 100000 in
theorem K_takeBack {d : Nat} {D : Mm} {Q : Option Value → Mm → Prop} {nx n : Nat} {V : Nat → Int32} (R : RelB D (rowb nx) n V) (h12 : n ≤ 12) (ho : opV V) (h1 : D 155 1 = nI nx) (h9 : nx < 9) (hq : ∀ D2, Rel D2 n V → (∀ q, (q < 1 ∨ 14 < q) → D2 q = D q) → Q none D2) : Ct (d + 4) 1 [.ref 155, .ref 1] D Q := by
  have hnr := nv_ref (p := 1 + 14 * (nx + 2)) (by omega)
  refine ent m1 rfl rfl (ls := [.ref 155, .ref 1]) rfl ?_
  refine w_ald1 i1_0 ?_
  refine w_ald0 i1_1 ?_
  refine w_gfR i1_2 (by decide) s_155 rfl ?_
  refine w_ald0 i1_5 ?_
  refine w_gfI i1_6 (by decide) s_155 rfl h1 ?_
  refine w_aal i1_9 s_156 (by decide) (by omega) (rows_at h9) ?_
  refine w_vG2 i1_10 c19 (Or.inl rfl) StA_1.k19 (by repeat (first | exact nv_nil | refine nv_cons (by first | rfl | assumption) ?_)) ⟨(by repeat (first | exact nv_nil | refine nv_cons (by first | rfl | assumption) ?_)), Nat.le_of_ble_eq_true rfl⟩ ?_
  refine K_copyFrom (b := 1) (c := rowb nx) StA_1 (StA_row h9) (by unfold rowb; omega) R h12 ho (fun D2 g f => ?_)
  refine w_rv i1_13 r1 ?_
  exact hq _ g f
set_option maxHeartbeats 100000 in
theorem K_keep {d : Nat} {D : Mm} {nx c : Nat} (h1 : D 155 1 = nI nx) (h9 : nx < 9) (h2 : D 155 2 = nI c) (h8 : c ≤ 8) : Ct (d + 2) 2 [.ref 155] D (Ex none (mup (mup D 155 1 (nI ((nx + 1) % 9))) 155 2 (nI (min (c + 1) 8)))) := by
  refine ent m2 rfl rfl (ls := [.ref 155]) rfl ?_
  refine w_ald0 i2_0 ?_
  refine w_ald0 i2_1 ?_
  refine w_gfI i2_2 (by decide) s_155 rfl h1 ?_
  refine w_bip i2_5 kb_8 ?_
  refine w_cgeN i2_7 g2_7 (by omega) (by omega) (fun h7 => ?_) (fun h7 => ?_)
  · skip
    refine w_const i2_19 kc_0 ?_
    refine w_pf0 i2_20 (by decide) s_155 rfl ?_
    refine w_ald0 i2_23 ?_
    refine w_ald0 i2_24 ?_
    refine w_gfI i2_25 (by decide) s_155 rfl ((mupJ (by decide)).trans h2) ?_
    refine w_const i2_28 kc_1 ?_
    refine w_iadd i2_29 (nI_add _ _) ?_
    refine w_bip i2_30 kb_8 ?_
    refine w_sI2 i2_32 c202 rfl  rfl ⟨rfl, Nat.le_of_ble_eq_true rfl⟩ (K_min8 h8) ?_
    refine w_pf0 i2_35 (by decide) s_155 rfl ?_
    refine w_rv i2_38 r2 ?_
    first
      | (refine ⟨rfl, ?_⟩; rw [show (nx + 1) % 9 = nx + 1 by omega])
      | (refine ⟨rfl, ?_⟩; rw [show (nx + 1) % 9 = 0 by omega])
  · skip
    refine w_ald0 i2_10 ?_
    refine w_gfI i2_11 (by decide) s_155 rfl h1 ?_
    refine w_const i2_14 kc_1 ?_
    refine w_iadd i2_15 (nI_add _ _) ?_
    refine w_goto i2_16 g2_16 ?_
    refine w_pf0 i2_20 (by decide) s_155 rfl ?_
    refine w_ald0 i2_23 ?_
    refine w_ald0 i2_24 ?_
    refine w_gfI i2_25 (by decide) s_155 rfl ((mupJ (by decide)).trans h2) ?_
    refine w_const i2_28 kc_1 ?_
    refine w_iadd i2_29 (nI_add _ _) ?_
    refine w_bip i2_30 kb_8 ?_
    refine w_sI2 i2_32 c202 rfl  rfl ⟨rfl, Nat.le_of_ble_eq_true rfl⟩ (K_min8 h8) ?_
    refine w_pf0 i2_35 (by decide) s_155 rfl ?_
    refine w_rv i2_38 r2 ?_
    first
      | (refine ⟨rfl, ?_⟩; rw [show (nx + 1) % 9 = nx + 1 by omega])
      | (refine ⟨rfl, ?_⟩; rw [show (nx + 1) % 9 = 0 by omega])
set_option maxHeartbeats 100000 in
theorem K_forget {d : Nat} {D : Mm} : Ct (d + 1) 4 [.ref 155] D (Ex none (mup D 155 2 (nI 0))) := by
  refine ent m4 rfl rfl (ls := [.ref 155]) rfl ?_
  refine w_ald0 i4_0 ?_
  refine w_const i4_1 kc_0 ?_
  refine w_pf0 i4_2 (by decide) s_155 rfl ?_
  refine w_rv i4_5 r4 ?_
  exact ⟨rfl, rfl⟩
set_option maxHeartbeats 100000 in
theorem K_stepB_0 {d : Nat} {D : Mm} (h2 : D 155 2 = nI 0) : Ct (d + 5) 3 [.ref 155, .ref 1] D (Ex (some (.int (nI 0))) D) := by
  refine ent m3 rfl rfl (ls := [.ref 155, .ref 1]) rfl ?_
  refine w_ald0 i3_0 ?_
  refine w_gfI i3_1 (by decide) s_155 rfl h2 ?_
  refine w_ineNF i3_4 (by omega) (by omega) ?_
  refine w_const i3_7 kc_0 ?_
  refine w_rz i3_8 r3 nar_z0 ?_
  exact ⟨rfl, rfl⟩
set_option maxHeartbeats 100000 in
theorem K_stepB {d : Nat} {D : Mm} {Q : Option Value → Mm → Prop} {nx c n : Nat} {V : Nat → Int32} (h1 : D 155 1 = nI nx) (h9 : nx < 9) (h2 : D 155 2 = nI (c + 1)) (h8 : c < 8) (R : RelB D (rowb ((nx + 8) % 9)) n V) (h12 : n ≤ 12) (ho : opV V) (hq : ∀ D2, Rel D2 n V → (∀ q, (q < 1 ∨ 14 < q) → D2 q = (mup (mup D 155 2 (nI c)) 155 1 (nI ((nx + 8) % 9))) q) → Q (some (.int (nI 1))) D2) : Ct (d + 5) 3 [.ref 155, .ref 1] D Q := by
  refine ent m3 rfl rfl (ls := [.ref 155, .ref 1]) rfl ?_
  refine w_ald0 i3_0 ?_
  refine w_gfI i3_1 (by decide) s_155 rfl h2 ?_
  refine w_ineNT i3_4 g3_4 (by omega) (by omega) ?_
  refine w_ald0 i3_9 ?_
  refine w_dup i3_10 rfl ?_
  refine w_gfI i3_11 (by decide) s_155 rfl h2 ?_
  refine w_const i3_14 kc_1 ?_
  refine w_isub i3_15 ((nI_sub (by omega)).trans (congrArg nI (Nat.add_sub_cancel c 1))) ?_
  refine w_pf0 i3_16 (by decide) s_155 rfl ?_
  refine w_ald0 i3_19 ?_
  refine w_ald0 i3_20 ?_
  refine w_gfI i3_21 (by decide) s_155 rfl ((mupJ (by decide)).trans h1) ?_
  refine w_ileN i3_24 g3_24 (by omega) (fun h24 => ?_) (fun h24 => ?_)
  · skip
    refine w_bip i3_36 kb_8 ?_
    refine w_pf0 i3_38 (by decide) s_155 rfl ?_
    refine w_ald0 i3_41 ?_
    refine w_ald1 i3_42 ?_
    refine w_vG2 i3_43 c1 (Or.inl rfl) ⟨by decide +kernel, by decide⟩ rfl ⟨rfl, Nat.le_of_ble_eq_true rfl⟩ ?_
    refine K_takeBack (nx := (nx + 8) % 9) (R.fr (fun q a b => (mupF (by unfold rowb at *; omega)).trans (mupF (by unfold rowb at *; omega)))) h12 ho (mupE.trans ?_) (by omega) (fun D2 g f => ?_)
    · congr 1; omega
    refine w_const i3_46 kc_1 ?_
    refine w_rz i3_47 r3 nar_z1 ?_
    refine hq _ g (fun q h => (f q h).trans ?_)
    first
      | rw [show (nx + 8) % 9 = nx - 1 by omega]
      | rw [show (nx + 8) % 9 = 8 by omega]
  · skip
    refine w_ald0 i3_27 ?_
    refine w_gfI i3_28 (by decide) s_155 rfl ((mupJ (by decide)).trans h1) ?_
    refine w_const i3_31 kc_1 ?_
    refine w_isub i3_32 (nI_sub (by omega)) ?_
    refine w_goto i3_33 g3_33 ?_
    refine w_pf0 i3_38 (by decide) s_155 rfl ?_
    refine w_ald0 i3_41 ?_
    refine w_ald1 i3_42 ?_
    refine w_vG2 i3_43 c1 (Or.inl rfl) ⟨by decide +kernel, by decide⟩ rfl ⟨rfl, Nat.le_of_ble_eq_true rfl⟩ ?_
    refine K_takeBack (nx := (nx + 8) % 9) (R.fr (fun q a b => (mupF (by unfold rowb at *; omega)).trans (mupF (by unfold rowb at *; omega)))) h12 ho (mupE.trans ?_) (by omega) (fun D2 g f => ?_)
    · congr 1; omega
    refine w_const i3_46 kc_1 ?_
    refine w_rz i3_47 r3 nar_z1 ?_
    refine hq _ g (fun q h => (f q h).trans ?_)
    first
      | rw [show (nx + 8) % 9 = nx - 1 by omega]
      | rw [show (nx + 8) % 9 = 8 by omega]
set_option maxHeartbeats 100000 in
theorem K_set_no {d : Nat} {D : Mm} {x : Int32} (h : x < 0) : Ct (d + 3) 85 [.ref 0, .int x] D (Ex (some (.int x)) D) := by
  refine ent m85 rfl rfl (ls := [.ref 0, .int x]) rfl ?_
  refine w_ild1 i85_0 ?_
  refine w_iltT i85_1 g85_1  h ?_
  refine w_ild1 i85_11 ?_
  refine w_ri i85_12 r85 ?_
  exact ⟨rfl, rfl⟩
set_option maxHeartbeats 100000 in
theorem K_set {d : Nat} {D : Mm} {x : Int32} {nx c : Nat} (h1 : D 155 1 = nI nx) (h9 : nx < 9) (h2 : D 155 2 = nI c) (h8 : c ≤ 8) (h : 0 ≤ x) : Ct (d + 3) 85 [.ref 0, .int x] D (Ex (some (.int x)) (mup (mup D 155 1 (nI ((nx + 1) % 9))) 155 2 (nI (min (c + 1) 8)))) := by
  refine ent m85 rfl rfl (ls := [.ref 0, .int x]) rfl ?_
  refine w_ild1 i85_0 ?_
  refine w_iltF i85_1  h ?_
  refine w_ald0 i85_4 ?_
  refine w_gfR i85_5 (by decide) s_0 rfl ?_
  refine w_vV1 i85_8 c2 (Or.inl rfl) ⟨by decide +kernel, by decide⟩ rfl ⟨rfl, Nat.le_of_ble_eq_true rfl⟩ (K_keep h1 h9 h2 h8) ?_
  refine w_ild1 i85_11 ?_
  refine w_ri i85_12 r85 ?_
  exact ⟨rfl, rfl⟩
def OutC (o : Out) (D : Mm) (nx c n : Nat) (V : Nat → Int32) (Q : Option Value → Mm → Prop) : Prop := match o with
  | .inl (x, rs) => ∀ D2 : Mm, (∀ q, (q < rowb nx ∨ rowb nx + 13 < q) → q ≠ 157 → q ≠ 158 → q ≠ 159 → D2 q = D q) → (rs = [] → D2 157 = D 157 ∧ D2 158 = D 158 ∧ D2 159 = D 159) → (rs ≠ [] → RsC D2 rs) → Q (some (.int x)) D2
  | .inr (a, V2) => ∀ D2 : Mm, Rel D2 (cl (V2 0)) V2 → RelB D2 (rowb nx) n V → D2 155 1 = nI ((nx + 1) % 9) → D2 155 2 = nI (min (c + 1) 8) → (∀ q, (q < 1 ∨ 14 < q) → (q < rowb nx ∨ rowb nx + 13 < q) → q ≠ 155 → q ≠ 166 → q ≠ 167 → q ≠ 168 → D2 q = D q) → Q (some (.int a)) D2
theorem OutXm {o : Out} {D : Mm} {Q Q2 : Option Value → Mm → Prop} (hq : ∀ x rs, o = .inl (x, rs) → ∀ D2, Q (some (.int x)) D2 → Q2 (some (.int x)) D2) (hq2 : ∀ a V2, o = .inr (a, V2) → ∀ D2, Q (some (.int a)) D2 → Q2 (some (.int a)) D2) (h : OutX o D Q) : OutX o D Q2 := by
  unfold OutX at h ⊢
  split
  · intro D2 h1 h2 h3
    exact hq _ _ rfl _ (h D2 h1 h2 h3)
  · intro D2 h1 h2
    exact hq2 _ _ rfl _ (h D2 h1 h2)
theorem set_lem {d : Nat} {o : Out} {D D1 : Mm} {nx c n : Nat} {V : Nat → Int32} {Q : Option Value → Mm → Prop} (h1 : D 155 1 = nI nx) (h9 : nx < 9) (h2 : D 155 2 = nI c) (h8 : c ≤ 8) (hok : okF o) (ha : ∀ a V2, o = .inr (a, V2) → 0 ≤ a) (g1 : RelB D1 (rowb nx) n V) (f1 : ∀ q, (q < rowb nx ∨ rowb nx + 13 < q) → D1 q = D q) (h : OutC o D nx c n V Q) : OutX o D1 (fun r D2 => ∀ a, r = some (.int a) → Ct (d + 3) 85 [.ref 0, .int a] D2 Q) := by
  have w1 : rowb nx ≤ 141 := by unfold rowb; omega
  have w2 : 29 ≤ rowb nx := by unfold rowb; omega
  unfold OutC at h
  unfold OutX
  split at h
  · next x rs =>
    intro D2 k1 k2 k3 a ea
    cases ea
    refine Ct_exq (K_set_no (okF_lt hok _ _ rfl)) ?_
    refine h D2 (fun q a b c e => (k1 q b c e).trans (f1 q a)) (fun e => ?_) k3
    have e := k2 e
    subst e
    exact ⟨f1 157 (by omega), f1 158 (by omega), f1 159 (by omega)⟩
  · next a V2 =>
    intro D2 k1 k2 x ea
    cases ea
    refine Ct_exq (K_set (nx := nx) (c := c) ?_ h9 ?_ h8 (ha _ _ rfl)) ?_
    · rw [k2 155 (by omega) (by decide) (by decide) (by decide), f1 155 (by omega)]; exact h1
    · rw [k2 155 (by omega) (by decide) (by decide) (by decide), f1 155 (by omega)]; exact h2
    · refine h _ (k1.fr (fun q _ b => (mupF (by omega)).trans (mupF (by omega)))) (g1.fr (fun q a b => ?_)) ((mupJ (by decide)).trans mupE) mupE (fun q a b c1 c2 c3 c4 => ?_)
      · rw [mupF (by omega), mupF (by omega)]
        exact k2 q (by omega) (by omega) (by omega) (by omega)
      · rw [mupF c1, mupF c1, k2 q a c2 c3 c4, f1 q b]
