/-! the class, its changes as calls -/
theorem OutCr {o : Out} {D : Mm} {nx c n : Nat} {V : Nat → Int32} {Q Q2 : Option Value → Mm → Prop} (h : OutC o D nx c n V Q) (hq : ∀ a D2, Q (some (.int a)) D2 → Q2 (some (.int a)) D2) : OutC o D nx c n V Q2 := by
  unfold OutC at h ⊢
  split
  · intro D2 h1 h2 h3
    exact hq _ _ (h D2 h1 h2 h3)
  · intro D2 h1 h2 h3 h4 h5
    exact hq _ _ (h D2 h1 h2 h3 h4 h5)
set_option maxHeartbeats 100000 in
theorem K_pS {d : Nat} {D : Mm} {Q : Option Value → Mm → Prop} {n nx c : Nat} {V : Nat → Int32} (R : Rel D n V) (H : HC n V) (h1 : D 155 1 = nI nx) (h9 : nx < 9) (h2 : D 155 2 = nI c) (h8 : c ≤ 8) {a b e : Int32} (ha : ∀ a2 V2, (oS n V a b e) = .inr (a2, V2) → 0 ≤ a2) (h : OutC (oS n V a b e) D nx c n V Q) : Ct (d + 9) 54 [.ref 0, .int a, .int b, .int e] D Q := by
  refine ent m54 rfl rfl (ls := [.ref 0, .int a, .int b, .int e]) rfl ?_
  refine w_ald0 i54_0 ?_
  refine w_gfR i54_1 (by decide) s_0 rfl ?_
  refine w_ald0 i54_4 ?_
  refine w_gfR i54_5 (by decide) s_0 rfl ?_
  refine w_vG2 i54_8 c0 (Or.inl rfl) ⟨by decide +kernel, by decide⟩ rfl ⟨rfl, Nat.le_of_ble_eq_true rfl⟩ ?_
  refine K_begin R H.h12 H.ho h1 h9 (fun D1 g1 f1 => ?_)
  have RF : ∀ q, 1 ≤ q → q ≤ 14 → D1 q = D q := fun q _ _ => f1 q (by unfold rowb; omega)
  refine w_ald0 i54_11 ?_
  refine w_ald0 i54_12 ?_
  refine w_ild1 i54_13 ?_
  refine w_ild2 i54_14 ?_
  refine w_ild3 i54_15 ?_
  refine w_vG4 i54_16 c86 (Or.inl rfl) ⟨by decide +kernel, by decide⟩ rfl ⟨rfl, Nat.le_of_ble_eq_true rfl⟩ ?_
  exact K_oS (R.fr RF) H (OutXr (set_lem (d := d + 5) (Q := fun r2 D2 => Wp (d + 8) 54 Q (19 + 3) [.ref 0, .int a, .int b, .int e] (r2.toList ++ []) D2) h1 h9 h2 h8 okF_S ha g1 f1 (OutCr h (fun a D2 hq => w_ri i54_22 r54 hq))) (fun a D2 hq => w_vG2 i54_19 c85 (Or.inl rfl) ⟨by decide +kernel, by decide⟩ rfl ⟨rfl, Nat.le_of_ble_eq_true rfl⟩ (hq a rfl)))
set_option maxHeartbeats 100000 in
theorem K_pB {d : Nat} {D : Mm} {Q : Option Value → Mm → Prop} {n nx c : Nat} {V : Nat → Int32} (R : Rel D n V) (H : HC n V) (h1 : D 155 1 = nI nx) (h9 : nx < 9) (h2 : D 155 2 = nI c) (h8 : c ≤ 8) {a b : Int32} (ha : ∀ a2 V2, (oB n V a b) = .inr (a2, V2) → 0 ≤ a2) (h : OutC (oB n V a b) D nx c n V Q) : Ct (d + 9) 55 [.ref 0, .int a, .int b] D Q := by
  refine ent m55 rfl rfl (ls := [.ref 0, .int a, .int b]) rfl ?_
  refine w_ald0 i55_0 ?_
  refine w_gfR i55_1 (by decide) s_0 rfl ?_
  refine w_ald0 i55_4 ?_
  refine w_gfR i55_5 (by decide) s_0 rfl ?_
  refine w_vG2 i55_8 c0 (Or.inl rfl) ⟨by decide +kernel, by decide⟩ rfl ⟨rfl, Nat.le_of_ble_eq_true rfl⟩ ?_
  refine K_begin R H.h12 H.ho h1 h9 (fun D1 g1 f1 => ?_)
  have RF : ∀ q, 1 ≤ q → q ≤ 14 → D1 q = D q := fun q _ _ => f1 q (by unfold rowb; omega)
  refine w_ald0 i55_11 ?_
  refine w_ald0 i55_12 ?_
  refine w_ild1 i55_13 ?_
  refine w_ild2 i55_14 ?_
  refine w_vG3 i55_15 c89 (Or.inl rfl) ⟨by decide +kernel, by decide⟩ rfl ⟨rfl, Nat.le_of_ble_eq_true rfl⟩ ?_
  exact K_oB (R.fr RF) H (OutXr (set_lem (d := d + 5) (Q := fun r2 D2 => Wp (d + 8) 55 Q (18 + 3) [.ref 0, .int a, .int b] (r2.toList ++ []) D2) h1 h9 h2 h8 okF_B ha g1 f1 (OutCr h (fun a D2 hq => w_ri i55_21 r55 hq))) (fun a D2 hq => w_vG2 i55_18 c85 (Or.inl rfl) ⟨by decide +kernel, by decide⟩ rfl ⟨rfl, Nat.le_of_ble_eq_true rfl⟩ (hq a rfl)))
set_option maxHeartbeats 100000 in
theorem K_pO {d : Nat} {D : Mm} {Q : Option Value → Mm → Prop} {n nx c : Nat} {V : Nat → Int32} (R : Rel D n V) (H : HC n V) (h1 : D 155 1 = nI nx) (h9 : nx < 9) (h2 : D 155 2 = nI c) (h8 : c ≤ 8) {a b e : Int32} (ha : ∀ a2 V2, (oO n V a b e) = .inr (a2, V2) → 0 ≤ a2) (h : OutC (oO n V a b e) D nx c n V Q) : Ct (d + 9) 56 [.ref 0, .int a, .int b, .int e] D Q := by
  refine ent m56 rfl rfl (ls := [.ref 0, .int a, .int b, .int e]) rfl ?_
  refine w_ald0 i56_0 ?_
  refine w_gfR i56_1 (by decide) s_0 rfl ?_
  refine w_ald0 i56_4 ?_
  refine w_gfR i56_5 (by decide) s_0 rfl ?_
  refine w_vG2 i56_8 c0 (Or.inl rfl) ⟨by decide +kernel, by decide⟩ rfl ⟨rfl, Nat.le_of_ble_eq_true rfl⟩ ?_
  refine K_begin R H.h12 H.ho h1 h9 (fun D1 g1 f1 => ?_)
  have RF : ∀ q, 1 ≤ q → q ≤ 14 → D1 q = D q := fun q _ _ => f1 q (by unfold rowb; omega)
  refine w_ald0 i56_11 ?_
  refine w_ald0 i56_12 ?_
  refine w_ild1 i56_13 ?_
  refine w_ild2 i56_14 ?_
  refine w_ild3 i56_15 ?_
  refine w_vG4 i56_16 c90 (Or.inl rfl) ⟨by decide +kernel, by decide⟩ rfl ⟨rfl, Nat.le_of_ble_eq_true rfl⟩ ?_
  exact K_oO (R.fr RF) H (OutXr (set_lem (d := d + 5) (Q := fun r2 D2 => Wp (d + 8) 56 Q (19 + 3) [.ref 0, .int a, .int b, .int e] (r2.toList ++ []) D2) h1 h9 h2 h8 okF_O ha g1 f1 (OutCr h (fun a D2 hq => w_ri i56_22 r56 hq))) (fun a D2 hq => w_vG2 i56_19 c85 (Or.inl rfl) ⟨by decide +kernel, by decide⟩ rfl ⟨rfl, Nat.le_of_ble_eq_true rfl⟩ (hq a rfl)))
set_option maxHeartbeats 100000 in
theorem K_pW {d : Nat} {D : Mm} {Q : Option Value → Mm → Prop} {n nx c : Nat} {V : Nat → Int32} (R : Rel D n V) (H : HC n V) (h1 : D 155 1 = nI nx) (h9 : nx < 9) (h2 : D 155 2 = nI c) (h8 : c ≤ 8) {a b e : Int32} (ha : ∀ a2 V2, (oW n V a b e) = .inr (a2, V2) → 0 ≤ a2) (h : OutC (oW n V a b e) D nx c n V Q) : Ct (d + 9) 57 [.ref 0, .int a, .int b, .int e] D Q := by
  refine ent m57 rfl rfl (ls := [.ref 0, .int a, .int b, .int e]) rfl ?_
  refine w_ald0 i57_0 ?_
  refine w_gfR i57_1 (by decide) s_0 rfl ?_
  refine w_ald0 i57_4 ?_
  refine w_gfR i57_5 (by decide) s_0 rfl ?_
  refine w_vG2 i57_8 c0 (Or.inl rfl) ⟨by decide +kernel, by decide⟩ rfl ⟨rfl, Nat.le_of_ble_eq_true rfl⟩ ?_
  refine K_begin R H.h12 H.ho h1 h9 (fun D1 g1 f1 => ?_)
  have RF : ∀ q, 1 ≤ q → q ≤ 14 → D1 q = D q := fun q _ _ => f1 q (by unfold rowb; omega)
  refine w_ald0 i57_11 ?_
  refine w_ald0 i57_12 ?_
  refine w_ild1 i57_13 ?_
  refine w_ild2 i57_14 ?_
  refine w_ild3 i57_15 ?_
  refine w_vG4 i57_16 c91 (Or.inl rfl) ⟨by decide +kernel, by decide⟩ rfl ⟨rfl, Nat.le_of_ble_eq_true rfl⟩ ?_
  exact K_oW (R.fr RF) H (OutXr (set_lem (d := d + 5) (Q := fun r2 D2 => Wp (d + 8) 57 Q (19 + 3) [.ref 0, .int a, .int b, .int e] (r2.toList ++ []) D2) h1 h9 h2 h8 okF_W ha g1 f1 (OutCr h (fun a D2 hq => w_ri i57_22 r57 hq))) (fun a D2 hq => w_vG2 i57_19 c85 (Or.inl rfl) ⟨by decide +kernel, by decide⟩ rfl ⟨rfl, Nat.le_of_ble_eq_true rfl⟩ (hq a rfl)))
set_option maxHeartbeats 100000 in
theorem K_pP {d : Nat} {D : Mm} {Q : Option Value → Mm → Prop} {n nx c : Nat} {V : Nat → Int32} (R : Rel D n V) (H : HC n V) (h1 : D 155 1 = nI nx) (h9 : nx < 9) (h2 : D 155 2 = nI c) (h8 : c ≤ 8) {a b : Int32} (ha : ∀ a2 V2, (oP n V a b) = .inr (a2, V2) → 0 ≤ a2) (h : OutC (oP n V a b) D nx c n V Q) : Ct (d + 9) 59 [.ref 0, .int a, .int b] D Q := by
  refine ent m59 rfl rfl (ls := [.ref 0, .int a, .int b]) rfl ?_
  refine w_ald0 i59_0 ?_
  refine w_gfR i59_1 (by decide) s_0 rfl ?_
  refine w_ald0 i59_4 ?_
  refine w_gfR i59_5 (by decide) s_0 rfl ?_
  refine w_vG2 i59_8 c0 (Or.inl rfl) ⟨by decide +kernel, by decide⟩ rfl ⟨rfl, Nat.le_of_ble_eq_true rfl⟩ ?_
  refine K_begin R H.h12 H.ho h1 h9 (fun D1 g1 f1 => ?_)
  have RF : ∀ q, 1 ≤ q → q ≤ 14 → D1 q = D q := fun q _ _ => f1 q (by unfold rowb; omega)
  refine w_ald0 i59_11 ?_
  refine w_ald0 i59_12 ?_
  refine w_ild1 i59_13 ?_
  refine w_ild2 i59_14 ?_
  refine w_vG3 i59_15 c92 (Or.inl rfl) ⟨by decide +kernel, by decide⟩ rfl ⟨rfl, Nat.le_of_ble_eq_true rfl⟩ ?_
  exact K_oP (R.fr RF) H (OutXr (set_lem (d := d + 5) (Q := fun r2 D2 => Wp (d + 8) 59 Q (18 + 3) [.ref 0, .int a, .int b] (r2.toList ++ []) D2) h1 h9 h2 h8 okF_P ha g1 f1 (OutCr h (fun a D2 hq => w_ri i59_21 r59 hq))) (fun a D2 hq => w_vG2 i59_18 c85 (Or.inl rfl) ⟨by decide +kernel, by decide⟩ rfl ⟨rfl, Nat.le_of_ble_eq_true rfl⟩ (hq a rfl)))
set_option maxHeartbeats 100000 in
theorem K_pD {d : Nat} {D : Mm} {Q : Option Value → Mm → Prop} {n nx c : Nat} {V : Nat → Int32} (R : Rel D n V) (H : HC n V) (h1 : D 155 1 = nI nx) (h9 : nx < 9) (h2 : D 155 2 = nI c) (h8 : c ≤ 8) (ha : ∀ a2 V2, (vShares n V) = .inr (a2, V2) → 0 ≤ a2) (h : OutC (vShares n V) D nx c n V Q) : Ct (d + 9) 60 [.ref 0] D Q := by
  refine ent m60 rfl rfl (ls := [.ref 0]) rfl ?_
  refine w_ald0 i60_0 ?_
  refine w_gfR i60_1 (by decide) s_0 rfl ?_
  refine w_ald0 i60_4 ?_
  refine w_gfR i60_5 (by decide) s_0 rfl ?_
  refine w_vG2 i60_8 c0 (Or.inl rfl) ⟨by decide +kernel, by decide⟩ rfl ⟨rfl, Nat.le_of_ble_eq_true rfl⟩ ?_
  refine K_begin R H.h12 H.ho h1 h9 (fun D1 g1 f1 => ?_)
  have RF : ∀ q, 1 ≤ q → q ≤ 14 → D1 q = D q := fun q _ _ => f1 q (by unfold rowb; omega)
  refine w_ald0 i60_11 ?_
  refine w_ald0 i60_12 ?_
  refine w_vG1 i60_13 c93 (Or.inl rfl) ⟨by decide +kernel, by decide⟩ rfl ⟨rfl, Nat.le_of_ble_eq_true rfl⟩ ?_
  exact K_D (R.fr RF) H.h12 H.hn H.ho H.sh (OutXr (set_lem (d := d + 5) (Q := fun r2 D2 => Wp (d + 8) 60 Q (16 + 3) [.ref 0] (r2.toList ++ []) D2) h1 h9 h2 h8 okF_D ha g1 f1 (OutCr h (fun a D2 hq => w_ri i60_19 r60 hq))) (fun a D2 hq => w_vG2 i60_16 c85 (Or.inl rfl) ⟨by decide +kernel, by decide⟩ rfl ⟨rfl, Nat.le_of_ble_eq_true rfl⟩ (hq a rfl)))
set_option maxHeartbeats 100000 in
theorem K_pM {d : Nat} {D : Mm} {Q : Option Value → Mm → Prop} {n nx c : Nat} {V : Nat → Int32} (R : Rel D n V) (H : HC n V) (h1 : D 155 1 = nI nx) (h9 : nx < 9) (h2 : D 155 2 = nI c) (h8 : c ≤ 8) {a b e : Int32} (ha : ∀ a2 V2, (oM n V a b e) = .inr (a2, V2) → 0 ≤ a2) (h : OutC (oM n V a b e) D nx c n V Q) : Ct (d + 9) 63 [.ref 0, .int a, .int b, .int e] D Q := by
  refine ent m63 rfl rfl (ls := [.ref 0, .int a, .int b, .int e]) rfl ?_
  refine w_ald0 i63_0 ?_
  refine w_gfR i63_1 (by decide) s_0 rfl ?_
  refine w_ald0 i63_4 ?_
  refine w_gfR i63_5 (by decide) s_0 rfl ?_
  refine w_vG2 i63_8 c0 (Or.inl rfl) ⟨by decide +kernel, by decide⟩ rfl ⟨rfl, Nat.le_of_ble_eq_true rfl⟩ ?_
  refine K_begin R H.h12 H.ho h1 h9 (fun D1 g1 f1 => ?_)
  have RF : ∀ q, 1 ≤ q → q ≤ 14 → D1 q = D q := fun q _ _ => f1 q (by unfold rowb; omega)
  refine w_ald0 i63_11 ?_
  refine w_ald0 i63_12 ?_
  refine w_ild1 i63_13 ?_
  refine w_ild2 i63_14 ?_
  refine w_ild3 i63_15 ?_
  refine w_vG4 i63_16 c87 (Or.inl rfl) ⟨by decide +kernel, by decide⟩ rfl ⟨rfl, Nat.le_of_ble_eq_true rfl⟩ ?_
  exact K_oM (R.fr RF) H (OutXr (set_lem (d := d + 5) (Q := fun r2 D2 => Wp (d + 8) 63 Q (19 + 3) [.ref 0, .int a, .int b, .int e] (r2.toList ++ []) D2) h1 h9 h2 h8 okF_M ha g1 f1 (OutCr h (fun a D2 hq => w_ri i63_22 r63 hq))) (fun a D2 hq => w_vG2 i63_19 c85 (Or.inl rfl) ⟨by decide +kernel, by decide⟩ rfl ⟨rfl, Nat.le_of_ble_eq_true rfl⟩ (hq a rfl)))
set_option maxHeartbeats 100000 in
theorem K_pH {d : Nat} {D : Mm} {Q : Option Value → Mm → Prop} {n nx c : Nat} {V : Nat → Int32} (R : Rel D n V) (H : HC n V) (h1 : D 155 1 = nI nx) (h9 : nx < 9) (h2 : D 155 2 = nI c) (h8 : c ≤ 8) {a b : Int32} (ha : ∀ a2 V2, (oH V a b) = .inr (a2, V2) → 0 ≤ a2) (h : OutC (oH V a b) D nx c n V Q) : Ct (d + 9) 64 [.ref 0, .int a, .int b] D Q := by
  refine ent m64 rfl rfl (ls := [.ref 0, .int a, .int b]) rfl ?_
  refine w_ald0 i64_0 ?_
  refine w_gfR i64_1 (by decide) s_0 rfl ?_
  refine w_ald0 i64_4 ?_
  refine w_gfR i64_5 (by decide) s_0 rfl ?_
  refine w_vG2 i64_8 c0 (Or.inl rfl) ⟨by decide +kernel, by decide⟩ rfl ⟨rfl, Nat.le_of_ble_eq_true rfl⟩ ?_
  refine K_begin R H.h12 H.ho h1 h9 (fun D1 g1 f1 => ?_)
  have RF : ∀ q, 1 ≤ q → q ≤ 14 → D1 q = D q := fun q _ _ => f1 q (by unfold rowb; omega)
  refine w_ald0 i64_11 ?_
  refine w_ald0 i64_12 ?_
  refine w_ild1 i64_13 ?_
  refine w_ild2 i64_14 ?_
  refine w_vG3 i64_15 c94 (Or.inl rfl) ⟨by decide +kernel, by decide⟩ rfl ⟨rfl, Nat.le_of_ble_eq_true rfl⟩ ?_
  exact K_oH (R.fr RF) H (OutXr (set_lem (d := d + 5) (Q := fun r2 D2 => Wp (d + 8) 64 Q (18 + 3) [.ref 0, .int a, .int b] (r2.toList ++ []) D2) h1 h9 h2 h8 okF_H ha g1 f1 (OutCr h (fun a D2 hq => w_ri i64_21 r64 hq))) (fun a D2 hq => w_vG2 i64_18 c85 (Or.inl rfl) ⟨by decide +kernel, by decide⟩ rfl ⟨rfl, Nat.le_of_ble_eq_true rfl⟩ (hq a rfl)))
set_option maxHeartbeats 100000 in
theorem K_pE {d : Nat} {D : Mm} {Q : Option Value → Mm → Prop} {n nx c : Nat} {V : Nat → Int32} (R : Rel D n V) (H : HC n V) (h1 : D 155 1 = nI nx) (h9 : nx < 9) (h2 : D 155 2 = nI c) (h8 : c ≤ 8) {a : Int32} (ha : ∀ a2 V2, (oE n V a) = .inr (a2, V2) → 0 ≤ a2) (h : OutC (oE n V a) D nx c n V Q) : Ct (d + 9) 65 [.ref 0, .int a] D Q := by
  refine ent m65 rfl rfl (ls := [.ref 0, .int a]) rfl ?_
  refine w_ald0 i65_0 ?_
  refine w_gfR i65_1 (by decide) s_0 rfl ?_
  refine w_ald0 i65_4 ?_
  refine w_gfR i65_5 (by decide) s_0 rfl ?_
  refine w_vG2 i65_8 c0 (Or.inl rfl) ⟨by decide +kernel, by decide⟩ rfl ⟨rfl, Nat.le_of_ble_eq_true rfl⟩ ?_
  refine K_begin R H.h12 H.ho h1 h9 (fun D1 g1 f1 => ?_)
  have RF : ∀ q, 1 ≤ q → q ≤ 14 → D1 q = D q := fun q _ _ => f1 q (by unfold rowb; omega)
  refine w_ald0 i65_11 ?_
  refine w_ald0 i65_12 ?_
  refine w_ild1 i65_13 ?_
  refine w_vG2 i65_14 c95 (Or.inl rfl) ⟨by decide +kernel, by decide⟩ rfl ⟨rfl, Nat.le_of_ble_eq_true rfl⟩ ?_
  exact K_oE (R.fr RF) H (OutXr (set_lem (d := d + 5) (Q := fun r2 D2 => Wp (d + 8) 65 Q (17 + 3) [.ref 0, .int a] (r2.toList ++ []) D2) h1 h9 h2 h8 okF_E ha g1 f1 (OutCr h (fun a D2 hq => w_ri i65_20 r65 hq))) (fun a D2 hq => w_vG2 i65_17 c85 (Or.inl rfl) ⟨by decide +kernel, by decide⟩ rfl ⟨rfl, Nat.le_of_ble_eq_true rfl⟩ (hq a rfl)))
set_option maxHeartbeats 100000 in
theorem K_pT {d : Nat} {D : Mm} {Q : Option Value → Mm → Prop} {n nx c : Nat} {V : Nat → Int32} (R : Rel D n V) (H : HC n V) (h1 : D 155 1 = nI nx) (h9 : nx < 9) (h2 : D 155 2 = nI c) (h8 : c ≤ 8) {a : Int32} (ha : ∀ a2 V2, (vPasses n V a) = .inr (a2, V2) → 0 ≤ a2) (h : OutC (vPasses n V a) D nx c n V Q) : Ct (d + 9) 66 [.ref 0, .int a] D Q := by
  refine ent m66 rfl rfl (ls := [.ref 0, .int a]) rfl ?_
  refine w_ald0 i66_0 ?_
  refine w_gfR i66_1 (by decide) s_0 rfl ?_
  refine w_ald0 i66_4 ?_
  refine w_gfR i66_5 (by decide) s_0 rfl ?_
  refine w_vG2 i66_8 c0 (Or.inl rfl) ⟨by decide +kernel, by decide⟩ rfl ⟨rfl, Nat.le_of_ble_eq_true rfl⟩ ?_
  refine K_begin R H.h12 H.ho h1 h9 (fun D1 g1 f1 => ?_)
  have RF : ∀ q, 1 ≤ q → q ≤ 14 → D1 q = D q := fun q _ _ => f1 q (by unfold rowb; omega)
  refine w_ald0 i66_11 ?_
  refine w_ald0 i66_12 ?_
  refine w_ild1 i66_13 ?_
  refine w_vG2 i66_14 c96 (Or.inl rfl) ⟨by decide +kernel, by decide⟩ rfl ⟨rfl, Nat.le_of_ble_eq_true rfl⟩ ?_
  exact K_T (R.fr RF) H.h12 H.hn H.sd (OutXr (set_lem (d := d + 5) (Q := fun r2 D2 => Wp (d + 8) 66 Q (17 + 3) [.ref 0, .int a] (r2.toList ++ []) D2) h1 h9 h2 h8 okF_T ha g1 f1 (OutCr h (fun a D2 hq => w_ri i66_20 r66 hq))) (fun a D2 hq => w_vG2 i66_17 c85 (Or.inl rfl) ⟨by decide +kernel, by decide⟩ rfl ⟨rfl, Nat.le_of_ble_eq_true rfl⟩ (hq a rfl)))
