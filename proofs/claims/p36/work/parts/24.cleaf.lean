/-! the class, its small methods -/
/-- how the class's rows stand for the reference's row -/
def RelB (D : Mm) (b n : Nat) (V : Nat → Int32) : Prop :=
  (D (b + 1) 8 = nI n ∧ D b 5 = mPooled V ∧ D b 6 = V 1 ∧ D b 7 = V 2 ∧ D b 8 = V 3 ∧ D b 9 = V 4 ∧ D b 10 = V 5) ∧
  (∀ s, s < n → D (b + 2) s = V (30 + 8 * s + 0) ∧ D (b + 3) s = V (30 + 8 * s + 1) ∧ D (b + 4) s = V (30 + 8 * s + 2) ∧ D (b + 5) s = V (30 + 8 * s + 3) - nI 1 ∧ D (b + 6) s = V (30 + 8 * s + 4) ∧ D (b + 7) s = V (30 + 8 * s + 6) - nI 1 ∧ D (b + 8) s = V (30 + 8 * s + 5) ∧ D (b + 9) s = V (30 + 8 * s + 7)) ∧
  (∀ h, h < 6 → D (b + 10) h = V (6 + 4 * h + 0) ∧ D (b + 11) h = V (6 + 4 * h + 1) ∧ D (b + 12) h = V (6 + 4 * h + 2) ∧ D (b + 13) h = V (6 + 4 * h + 3))
def Rel (D : Mm) (n : Nat) (V : Nat → Int32) : Prop := RelB D 1 n V
theorem Rel.ct {D : Mm} {n : Nat} {V : Nat → Int32} (R : Rel D n V) : D 2 8 = nI n := R.1.1
theorem Rel.pl {D : Mm} {n : Nat} {V : Nat → Int32} (R : Rel D n V) : D 1 5 = mPooled V := R.1.2.1
theorem Rel.f6 {D : Mm} {n : Nat} {V : Nat → Int32} (R : Rel D n V) : D 1 6 = V 1 := R.1.2.2.1
theorem Rel.f7 {D : Mm} {n : Nat} {V : Nat → Int32} (R : Rel D n V) : D 1 7 = V 2 := R.1.2.2.2.1
theorem Rel.f8 {D : Mm} {n : Nat} {V : Nat → Int32} (R : Rel D n V) : D 1 8 = V 3 := R.1.2.2.2.2.1
theorem Rel.f9 {D : Mm} {n : Nat} {V : Nat → Int32} (R : Rel D n V) : D 1 9 = V 4 := R.1.2.2.2.2.2.1
theorem Rel.f10 {D : Mm} {n : Nat} {V : Nat → Int32} (R : Rel D n V) : D 1 10 = V 5 := R.1.2.2.2.2.2.2
theorem Rel.c3 {D : Mm} {n s : Nat} {V : Nat → Int32} (R : Rel D n V) (h : s < n) : D 3 s = V (30 + 8 * s + 0) := (R.2.1 s h).1
theorem Rel.c4 {D : Mm} {n s : Nat} {V : Nat → Int32} (R : Rel D n V) (h : s < n) : D 4 s = V (30 + 8 * s + 1) := (R.2.1 s h).2.1
theorem Rel.c5 {D : Mm} {n s : Nat} {V : Nat → Int32} (R : Rel D n V) (h : s < n) : D 5 s = V (30 + 8 * s + 2) := (R.2.1 s h).2.2.1
theorem Rel.c6 {D : Mm} {n s : Nat} {V : Nat → Int32} (R : Rel D n V) (h : s < n) : D 6 s = V (30 + 8 * s + 3) - nI 1 := (R.2.1 s h).2.2.2.1
theorem Rel.c7 {D : Mm} {n s : Nat} {V : Nat → Int32} (R : Rel D n V) (h : s < n) : D 7 s = V (30 + 8 * s + 4) := (R.2.1 s h).2.2.2.2.1
theorem Rel.c8 {D : Mm} {n s : Nat} {V : Nat → Int32} (R : Rel D n V) (h : s < n) : D 8 s = V (30 + 8 * s + 6) - nI 1 := (R.2.1 s h).2.2.2.2.2.1
theorem Rel.c9 {D : Mm} {n s : Nat} {V : Nat → Int32} (R : Rel D n V) (h : s < n) : D 9 s = V (30 + 8 * s + 5) := (R.2.1 s h).2.2.2.2.2.2.1
theorem Rel.c10 {D : Mm} {n s : Nat} {V : Nat → Int32} (R : Rel D n V) (h : s < n) : D 10 s = V (30 + 8 * s + 7) := (R.2.1 s h).2.2.2.2.2.2.2
theorem Rel.c11 {D : Mm} {n h : Nat} {V : Nat → Int32} (R : Rel D n V) (g : h < 6) : D 11 h = V (6 + 4 * h + 0) := (R.2.2 h g).1
theorem Rel.c12 {D : Mm} {n h : Nat} {V : Nat → Int32} (R : Rel D n V) (g : h < 6) : D 12 h = V (6 + 4 * h + 1) := (R.2.2 h g).2.1
theorem Rel.c13 {D : Mm} {n h : Nat} {V : Nat → Int32} (R : Rel D n V) (g : h < 6) : D 13 h = V (6 + 4 * h + 2) := (R.2.2 h g).2.2.1
theorem Rel.c14 {D : Mm} {n h : Nat} {V : Nat → Int32} (R : Rel D n V) (g : h < 6) : D 14 h = V (6 + 4 * h + 3) := (R.2.2 h g).2.2.2
theorem sb1 {x y : Int32} (h : x - nI 1 = y) : x = y + nI 1 := by rw [← h, Int32.sub_add_cancel]
theorem sb1r {x y : Int32} (h : x = y + nI 1) : x - nI 1 = y := by rw [h, Int32.add_sub_cancel]
theorem sb1n {x y : Int32} (h : ¬ x - nI 1 = y) : ¬ x = y + nI 1 := fun g => h (sb1r g)
theorem sbm {x : Int32} (h : x - nI 1 = -1) : x = nI 0 := by rw [sb1 h]; decide
theorem sbmn {x : Int32} (h : ¬ x - nI 1 = -1) : ¬ x = nI 0 := fun g => h (by rw [g]; decide)
/-- open or not -/
def opV (V : Nat → Int32) : Prop := ∀ h, h < 6 → V (6 + 4 * h + 0) = nI 0 ∨ V (6 + 4 * h + 0) = nI 1
theorem opV_t {V : Nat → Int32} {h : Nat} (H : opV V) (hh : h < 6) (g : ¬ V (6 + 4 * h + 0) = 0) : vOpen V h := (H h hh).resolve_left g
theorem opV_f {V : Nat → Int32} {h : Nat} (g : V (6 + 4 * h + 0) = 0) : ¬ vOpen V h := fun e => by
  have e : V (6 + 4 * h + 0) = nI 1 := e
  rw [g] at e; exact absurd e (by decide)
def byV (n : Nat) (V : Nat → Int32) : Prop := ∀ s, s < n → 0 ≤ V (30 + 8 * s + 6)
def resS (o : Option Nat) : Int32 := match o with
  | some r => nI r
  | none => -1
set_option maxHeartbeats 100000 in
theorem K_isFrom_t {d : Nat} {D : Mm} {x lo hi : Int32} (h : ¬ badR x lo hi) : Ct (d + 1) 98 [.int x, .int lo, .int hi] D (Ex (some (.int (nI 1))) D) := by
  refine ent m98 rfl rfl (ls := [.int x, .int lo, .int hi]) rfl ?_
  refine w_ild0 i98_0 ?_
  refine w_ild1 i98_1 ?_
  refine w_cltF i98_2  (Int32.not_lt.mp (fun q => h (Or.inl q))) ?_
  refine w_ild0 i98_5 ?_
  refine w_ild2 i98_6 ?_
  refine w_cgtF i98_7  (Int32.not_lt.mp (fun q => h (Or.inr q))) ?_
  refine w_const i98_10 kc_1 ?_
  refine w_goto i98_11 g98_11 ?_
  refine w_rz i98_15 r98 nar_z1 ?_
  exact ⟨rfl, rfl⟩
set_option maxHeartbeats 100000 in
theorem K_isFrom_f {d : Nat} {D : Mm} {x lo hi : Int32} (h : badR x lo hi) : Ct (d + 1) 98 [.int x, .int lo, .int hi] D (Ex (some (.int (nI 0))) D) := by
  refine ent m98 rfl rfl (ls := [.int x, .int lo, .int hi]) rfl ?_
  refine w_ild0 i98_0 ?_
  refine w_ild1 i98_1 ?_
  refine w_clt i98_2 g98_2  (fun h2 => ?_) (fun h2 => ?_)
  · skip
    refine w_const i98_14 kc_0 ?_
    refine w_rz i98_15 r98 nar_z0 ?_
    exact ⟨rfl, rfl⟩
  · skip
    refine w_ild0 i98_5 ?_
    refine w_ild2 i98_6 ?_
    refine w_cgt i98_7 g98_7  (fun h7 => ?_) (fun h7 => ?_)
    · skip
      refine w_const i98_14 kc_0 ?_
      refine w_rz i98_15 r98 nar_z0 ?_
      exact ⟨rfl, rfl⟩
    · skip
      exact absurd h (fun q => q.elim (Int32.not_lt.mpr h2) (Int32.not_lt.mpr h7))
set_option maxHeartbeats 100000 in
theorem K_isHouse_t {d : Nat} {D : Mm} {j : Nat} (hj : j < 6) : Ct (d + 2) 99 [.int (nI j)] D (Ex (some (.int (nI 1))) D) := by
  refine ent m99 rfl rfl (ls := [.int (nI j)]) rfl ?_
  refine w_ild0 i99_0 ?_
  refine w_const i99_1 kc_0 ?_
  refine w_const i99_2 kc_5 ?_
  refine w_sI3 i99_3 c98 rfl  rfl ⟨rfl, Nat.le_of_ble_eq_true rfl⟩ (K_isFrom_t (okH hj)) ?_
  refine w_rz i99_6 r99 nar_z1 ?_
  exact ⟨rfl, rfl⟩
set_option maxHeartbeats 100000 in
theorem K_isHouse_f {d : Nat} {D : Mm} {x : Int32} (h : badH x) : Ct (d + 2) 99 [.int x] D (Ex (some (.int (nI 0))) D) := by
  refine ent m99 rfl rfl (ls := [.int x]) rfl ?_
  refine w_ild0 i99_0 ?_
  refine w_const i99_1 kc_0 ?_
  refine w_const i99_2 kc_5 ?_
  refine w_sI3 i99_3 c98 rfl  rfl ⟨rfl, Nat.le_of_ble_eq_true rfl⟩ (K_isFrom_f h) ?_
  refine w_rz i99_6 r99 nar_z0 ?_
  exact ⟨rfl, rfl⟩
set_option maxHeartbeats 100000 in
theorem K_isStub_t {d : Nat} {D : Mm} {n : Nat} {V : Nat → Int32} (R : Rel D n V) (h12 : n ≤ 12) {s : Nat} (hs : s < n) : Ct (d + 2) 100 [.ref 0, .int (nI s)] D (Ex (some (.int (nI 1))) D) := by
  refine ent m100 rfl rfl (ls := [.ref 0, .int (nI s)]) rfl ?_
  refine w_ild1 i100_0 ?_
  refine w_const i100_1 kc_0 ?_
  refine w_ald0 i100_2 ?_
  refine w_gfR i100_3 (by decide) s_0 rfl ?_
  refine w_gfR i100_6 (by decide) s_1 rfl ?_
  refine w_gfI i100_9 (by decide) s_2 rfl R.ct ?_
  refine w_const i100_12 kc_1 ?_
  refine w_isub i100_13 rfl ?_
  refine w_sI3 i100_14 c98 rfl  rfl ⟨rfl, Nat.le_of_ble_eq_true rfl⟩ (K_isFrom_t (okS_R hs (by omega))) ?_
  refine w_rz i100_17 r100 nar_z1 ?_
  exact ⟨rfl, rfl⟩
set_option maxHeartbeats 100000 in
theorem K_isStub_f {d : Nat} {D : Mm} {n : Nat} {V : Nat → Int32} (R : Rel D n V) (h12 : n ≤ 12) {x : Int32} (h : badS n x) : Ct (d + 2) 100 [.ref 0, .int x] D (Ex (some (.int (nI 0))) D) := by
  refine ent m100 rfl rfl (ls := [.ref 0, .int x]) rfl ?_
  refine w_ild1 i100_0 ?_
  refine w_const i100_1 kc_0 ?_
  refine w_ald0 i100_2 ?_
  refine w_gfR i100_3 (by decide) s_0 rfl ?_
  refine w_gfR i100_6 (by decide) s_1 rfl ?_
  refine w_gfI i100_9 (by decide) s_2 rfl R.ct ?_
  refine w_const i100_12 kc_1 ?_
  refine w_isub i100_13 rfl ?_
  refine w_sI3 i100_14 c98 rfl  rfl ⟨rfl, Nat.le_of_ble_eq_true rfl⟩ (K_isFrom_f (badS_R (by omega) h)) ?_
  refine w_rz i100_17 r100 nar_z0 ?_
  exact ⟨rfl, rfl⟩
set_option maxHeartbeats 100000 in
theorem K_orN_t {d : Nat} {D : Mm} : Ct (d + 1) 101 [.int (-1)] D (Ex (some (.int (-1015))) D) := by
  refine ent m101 rfl rfl (ls := [.int (-1)]) rfl ?_
  refine w_ild0 i101_0 ?_
  refine w_const i101_1 kc_m1 ?_
  refine w_cneF i101_2  rfl ?_
  refine w_sip i101_5 ks_m1015 ?_
  refine w_goto i101_8 g101_8 ?_
  refine w_ri i101_12 r101 ?_
  exact ⟨rfl, rfl⟩
set_option maxHeartbeats 100000 in
theorem K_orN_f {d : Nat} {D : Mm} {x : Int32} (h : ¬ x = -1) : Ct (d + 1) 101 [.int x] D (Ex (some (.int (x))) D) := by
  refine ent m101 rfl rfl (ls := [.int x]) rfl ?_
  refine w_ild0 i101_0 ?_
  refine w_const i101_1 kc_m1 ?_
  refine w_cneT i101_2 g101_2  h ?_
  refine w_ild0 i101_11 ?_
  refine w_ri i101_12 r101 ?_
  exact ⟨rfl, rfl⟩
set_option maxHeartbeats 100000 in
theorem K_countOn {d : Nat} {D : Mm} {n : Nat} {V : Nat → Int32} (R : Rel D n V) (h12 : n ≤ 12) {h : Int32} : Ct (d + 1) 42 [.ref 2, .int h] D (Ex (some (.int (mCount n V h))) D) := by
  refine ent m42 rfl rfl (ls := [.ref 2, .int h, .retAddr 0, .retAddr 0]) rfl ?_
  refine w_const i42_0 kc_0 ?_
  refine w_ist2 i42_1 ?_
  refine w_const i42_2 kc_0 ?_
  refine w_ist3 i42_3 ?_
  refine down0 (n := n) (P := fun i => Wp _ _ _ 4 [.ref 2, .int h, .int (sumN i (fun s => ifp (V (30 + 8 * s + 0) = h) (nI 1) (nI 0))), .int (nI i)] [] D) ?_ ?_
  · skip
    refine w_ild3 i42_4 ?_
    refine w_ald0 i42_5 ?_
    refine w_gfI i42_6 (by decide) s_2 rfl R.ct ?_
    refine w_cgeNT i42_9 g42_9 (by omega) (by omega) (by omega) ?_
    refine w_ild2 i42_36 ?_
    refine w_ri i42_37 r42 ?_
    exact ⟨rfl, rfl⟩
  · intro i hi ih
    refine w_ild3 i42_4 ?_
    refine w_ald0 i42_5 ?_
    refine w_gfI i42_6 (by decide) s_2 rfl R.ct ?_
    refine w_cgeNF i42_9 (by omega) (by omega) (by omega) ?_
    refine w_ild2 i42_12 ?_
    refine w_ald0 i42_13 ?_
    refine w_gfR i42_14 (by decide) s_2 rfl ?_
    refine w_ild3 i42_17 ?_
    refine w_ial i42_18 s_3 (by decide) (by omega) (R.c3 (by assumption)) ?_
    refine w_ild1 i42_19 ?_
    refine w_cne i42_20 g42_20  (fun h20 => ?_) (fun h20 => ?_)
    · skip
      refine w_const i42_27 kc_0 ?_
      refine w_iadd i42_28 rfl ?_
      refine w_ist2 i42_29 ?_
      refine w_inc3 i42_30 (inc1 _) ?_
      refine w_goto i42_33 g42_33 ?_
      rw [sumS] at ih
      first | (rw [ifp_t h20] at ih; exact ih) | (rw [ifp_f h20] at ih; exact ih) | exact ih
    · skip
      refine w_const i42_23 kc_1 ?_
      refine w_goto i42_24 g42_24 ?_
      refine w_iadd i42_28 rfl ?_
      refine w_ist2 i42_29 ?_
      refine w_inc3 i42_30 (inc1 _) ?_
      refine w_goto i42_33 g42_33 ?_
      rw [sumS] at ih
      first | (rw [ifp_t h20] at ih; exact ih) | (rw [ifp_f h20] at ih; exact ih) | exact ih
set_option maxHeartbeats 100000 in
theorem K_weightOn {d : Nat} {D : Mm} {n : Nat} {V : Nat → Int32} (R : Rel D n V) (h12 : n ≤ 12) {h : Int32} : Ct (d + 1) 43 [.ref 2, .int h] D (Ex (some (.int (mTray n V h))) D) := by
  refine ent m43 rfl rfl (ls := [.ref 2, .int h, .retAddr 0, .retAddr 0]) rfl ?_
  refine w_const i43_0 kc_0 ?_
  refine w_ist2 i43_1 ?_
  refine w_const i43_2 kc_0 ?_
  refine w_ist3 i43_3 ?_
  refine down0 (n := n) (P := fun i => Wp _ _ _ 4 [.ref 2, .int h, .int (sumN i (fun s => ifp (V (30 + 8 * s + 0) = h) (V (30 + 8 * s + 1) + nI 1) (nI 0))), .int (nI i)] [] D) ?_ ?_
  · skip
    refine w_ild3 i43_4 ?_
    refine w_ald0 i43_5 ?_
    refine w_gfI i43_6 (by decide) s_2 rfl R.ct ?_
    refine w_cgeNT i43_9 g43_9 (by omega) (by omega) (by omega) ?_
    refine w_ild2 i43_43 ?_
    refine w_ri i43_44 r43 ?_
    exact ⟨rfl, rfl⟩
  · intro i hi ih
    refine w_ild3 i43_4 ?_
    refine w_ald0 i43_5 ?_
    refine w_gfI i43_6 (by decide) s_2 rfl R.ct ?_
    refine w_cgeNF i43_9 (by omega) (by omega) (by omega) ?_
    refine w_ild2 i43_12 ?_
    refine w_ald0 i43_13 ?_
    refine w_gfR i43_14 (by decide) s_2 rfl ?_
    refine w_ild3 i43_17 ?_
    refine w_ial i43_18 s_3 (by decide) (by omega) (R.c3 (by assumption)) ?_
    refine w_ild1 i43_19 ?_
    refine w_cne i43_20 g43_20  (fun h20 => ?_) (fun h20 => ?_)
    · skip
      refine w_const i43_34 kc_0 ?_
      refine w_iadd i43_35 rfl ?_
      refine w_ist2 i43_36 ?_
      refine w_inc3 i43_37 (inc1 _) ?_
      refine w_goto i43_40 g43_40 ?_
      rw [sumS] at ih
      first | (rw [ifp_t h20] at ih; exact ih) | (rw [ifp_f h20] at ih; exact ih) | exact ih
    · skip
      refine w_ald0 i43_23 ?_
      refine w_gfR i43_24 (by decide) s_2 rfl ?_
      refine w_ild3 i43_27 ?_
      refine w_ial i43_28 s_4 (by decide) (by omega) (R.c4 (by assumption)) ?_
      refine w_const i43_29 kc_1 ?_
      refine w_iadd i43_30 rfl ?_
      refine w_goto i43_31 g43_31 ?_
      refine w_iadd i43_35 rfl ?_
      refine w_ist2 i43_36 ?_
      refine w_inc3 i43_37 (inc1 _) ?_
      refine w_goto i43_40 g43_40 ?_
      rw [sumS] at ih
      first | (rw [ifp_t h20] at ih; exact ih) | (rw [ifp_f h20] at ih; exact ih) | exact ih
set_option maxHeartbeats 100000 in
theorem K_writsBy {d : Nat} {D : Mm} {n : Nat} {V : Nat → Int32} (R : Rel D n V) (h12 : n ≤ 12) {h : Int32} : Ct (d + 1) 46 [.ref 2, .int h] D (Ex (some (.int (mWritsH n V h))) D) := by
  refine ent m46 rfl rfl (ls := [.ref 2, .int h, .retAddr 0, .retAddr 0]) rfl ?_
  refine w_const i46_0 kc_0 ?_
  refine w_ist2 i46_1 ?_
  refine w_const i46_2 kc_0 ?_
  refine w_ist3 i46_3 ?_
  refine down0 (n := n) (P := fun i => Wp _ _ _ 4 [.ref 2, .int h, .int (sumN i (fun s => ifp (V (30 + 8 * s + 6) = h + nI 1) (nI 1) (nI 0))), .int (nI i)] [] D) ?_ ?_
  · skip
    refine w_ild3 i46_4 ?_
    refine w_ald0 i46_5 ?_
    refine w_gfI i46_6 (by decide) s_2 rfl R.ct ?_
    refine w_cgeNT i46_9 g46_9 (by omega) (by omega) (by omega) ?_
    refine w_ild2 i46_36 ?_
    refine w_ri i46_37 r46 ?_
    exact ⟨rfl, rfl⟩
  · intro i hi ih
    refine w_ild3 i46_4 ?_
    refine w_ald0 i46_5 ?_
    refine w_gfI i46_6 (by decide) s_2 rfl R.ct ?_
    refine w_cgeNF i46_9 (by omega) (by omega) (by omega) ?_
    refine w_ild2 i46_12 ?_
    refine w_ald0 i46_13 ?_
    refine w_gfR i46_14 (by decide) s_2 rfl ?_
    refine w_ild3 i46_17 ?_
    refine w_ial i46_18 s_8 (by decide) (by omega) (R.c8 (by assumption)) ?_
    refine w_ild1 i46_19 ?_
    refine w_cne i46_20 g46_20  (fun h20 => ?_) (fun h20 => ?_)
    · skip
      refine w_const i46_27 kc_0 ?_
      refine w_iadd i46_28 rfl ?_
      refine w_ist2 i46_29 ?_
      refine w_inc3 i46_30 (inc1 _) ?_
      refine w_goto i46_33 g46_33 ?_
      rw [sumS] at ih
      first | (rw [ifp_t (sb1 h20)] at ih; exact ih) | (rw [ifp_f (sb1n h20)] at ih; exact ih) | exact ih
    · skip
      refine w_const i46_23 kc_1 ?_
      refine w_goto i46_24 g46_24 ?_
      refine w_iadd i46_28 rfl ?_
      refine w_ist2 i46_29 ?_
      refine w_inc3 i46_30 (inc1 _) ?_
      refine w_goto i46_33 g46_33 ?_
      rw [sumS] at ih
      first | (rw [ifp_t (sb1 h20)] at ih; exact ih) | (rw [ifp_f (sb1n h20)] at ih; exact ih) | exact ih
set_option maxHeartbeats 100000 in
theorem K_owedTo {d : Nat} {D : Mm} {n : Nat} {V : Nat → Int32} (R : Rel D n V) (h12 : n ≤ 12) {h : Int32} : Ct (d + 1) 47 [.ref 2, .int h] D (Ex (some (.int (mOwed n V h))) D) := by
  refine ent m47 rfl rfl (ls := [.ref 2, .int h, .retAddr 0, .retAddr 0]) rfl ?_
  refine w_const i47_0 kc_0 ?_
  refine w_ist2 i47_1 ?_
  refine w_const i47_2 kc_0 ?_
  refine w_ist3 i47_3 ?_
  refine down0 (n := n) (P := fun i => Wp _ _ _ 4 [.ref 2, .int h, .int (sumN i (fun s => ifp (V (30 + 8 * s + 3) = h + nI 1) (V (30 + 8 * s + 4)) (nI 0))), .int (nI i)] [] D) ?_ ?_
  · skip
    refine w_ild3 i47_4 ?_
    refine w_ald0 i47_5 ?_
    refine w_gfI i47_6 (by decide) s_2 rfl R.ct ?_
    refine w_cgeNT i47_9 g47_9 (by omega) (by omega) (by omega) ?_
    refine w_ild2 i47_41 ?_
    refine w_ri i47_42 r47 ?_
    exact ⟨rfl, rfl⟩
  · intro i hi ih
    refine w_ild3 i47_4 ?_
    refine w_ald0 i47_5 ?_
    refine w_gfI i47_6 (by decide) s_2 rfl R.ct ?_
    refine w_cgeNF i47_9 (by omega) (by omega) (by omega) ?_
    refine w_ild2 i47_12 ?_
    refine w_ald0 i47_13 ?_
    refine w_gfR i47_14 (by decide) s_2 rfl ?_
    refine w_ild3 i47_17 ?_
    refine w_ial i47_18 s_6 (by decide) (by omega) (R.c6 (by assumption)) ?_
    refine w_ild1 i47_19 ?_
    refine w_cne i47_20 g47_20  (fun h20 => ?_) (fun h20 => ?_)
    · skip
      refine w_const i47_32 kc_0 ?_
      refine w_iadd i47_33 rfl ?_
      refine w_ist2 i47_34 ?_
      refine w_inc3 i47_35 (inc1 _) ?_
      refine w_goto i47_38 g47_38 ?_
      rw [sumS] at ih
      first | (rw [ifp_t (sb1 h20)] at ih; exact ih) | (rw [ifp_f (sb1n h20)] at ih; exact ih) | exact ih
    · skip
      refine w_ald0 i47_23 ?_
      refine w_gfR i47_24 (by decide) s_2 rfl ?_
      refine w_ild3 i47_27 ?_
      refine w_ial i47_28 s_7 (by decide) (by omega) (R.c7 (by assumption)) ?_
      refine w_goto i47_29 g47_29 ?_
      refine w_iadd i47_33 rfl ?_
      refine w_ist2 i47_34 ?_
      refine w_inc3 i47_35 (inc1 _) ?_
      refine w_goto i47_38 g47_38 ?_
      rw [sumS] at ih
      first | (rw [ifp_t (sb1 h20)] at ih; exact ih) | (rw [ifp_f (sb1n h20)] at ih; exact ih) | exact ih
set_option maxHeartbeats 100000 in
theorem K_owedBy {d : Nat} {D : Mm} {n : Nat} {V : Nat → Int32} (R : Rel D n V) (h12 : n ≤ 12) {h : Int32} : Ct (d + 1) 48 [.ref 2, .int h] D (Ex (some (.int (mOwes n V h))) D) := by
  refine ent m48 rfl rfl (ls := [.ref 2, .int h, .retAddr 0, .retAddr 0]) rfl ?_
  refine w_const i48_0 kc_0 ?_
  refine w_ist2 i48_1 ?_
  refine w_const i48_2 kc_0 ?_
  refine w_ist3 i48_3 ?_
  refine down0 (n := n) (P := fun i => Wp _ _ _ 4 [.ref 2, .int h, .int (sumN i (fun s => ifp (V (30 + 8 * s + 0) = h) (V (30 + 8 * s + 4)) (nI 0))), .int (nI i)] [] D) ?_ ?_
  · skip
    refine w_ild3 i48_4 ?_
    refine w_ald0 i48_5 ?_
    refine w_gfI i48_6 (by decide) s_2 rfl R.ct ?_
    refine w_cgeNT i48_9 g48_9 (by omega) (by omega) (by omega) ?_
    refine w_ild2 i48_41 ?_
    refine w_ri i48_42 r48 ?_
    exact ⟨rfl, rfl⟩
  · intro i hi ih
    refine w_ild3 i48_4 ?_
    refine w_ald0 i48_5 ?_
    refine w_gfI i48_6 (by decide) s_2 rfl R.ct ?_
    refine w_cgeNF i48_9 (by omega) (by omega) (by omega) ?_
    refine w_ild2 i48_12 ?_
    refine w_ald0 i48_13 ?_
    refine w_gfR i48_14 (by decide) s_2 rfl ?_
    refine w_ild3 i48_17 ?_
    refine w_ial i48_18 s_3 (by decide) (by omega) (R.c3 (by assumption)) ?_
    refine w_ild1 i48_19 ?_
    refine w_cne i48_20 g48_20  (fun h20 => ?_) (fun h20 => ?_)
    · skip
      refine w_const i48_32 kc_0 ?_
      refine w_iadd i48_33 rfl ?_
      refine w_ist2 i48_34 ?_
      refine w_inc3 i48_35 (inc1 _) ?_
      refine w_goto i48_38 g48_38 ?_
      rw [sumS] at ih
      first | (rw [ifp_t h20] at ih; exact ih) | (rw [ifp_f h20] at ih; exact ih) | exact ih
    · skip
      refine w_ald0 i48_23 ?_
      refine w_gfR i48_24 (by decide) s_2 rfl ?_
      refine w_ild3 i48_27 ?_
      refine w_ial i48_28 s_7 (by decide) (by omega) (R.c7 (by assumption)) ?_
      refine w_goto i48_29 g48_29 ?_
      refine w_iadd i48_33 rfl ?_
      refine w_ist2 i48_34 ?_
      refine w_inc3 i48_35 (inc1 _) ?_
      refine w_goto i48_38 g48_38 ?_
      rw [sumS] at ih
      first | (rw [ifp_t h20] at ih; exact ih) | (rw [ifp_f h20] at ih; exact ih) | exact ih
set_option maxHeartbeats 100000 in
theorem K_allWrits {d : Nat} {D : Mm} {n : Nat} {V : Nat → Int32} (R : Rel D n V) (h12 : n ≤ 12) (hb : byV n V) : Ct (d + 1) 49 [.ref 2] D (Ex (some (.int (mWrits n V))) D) := by
  refine ent m49 rfl rfl (ls := [.ref 2, .retAddr 0, .retAddr 0]) rfl ?_
  refine w_const i49_0 kc_0 ?_
  refine w_ist1 i49_1 ?_
  refine w_const i49_2 kc_0 ?_
  refine w_ist2 i49_3 ?_
  refine down0 (n := n) (P := fun i => Wp _ _ _ 4 [.ref 2, .int (sumN i (fun s => ifp (V (30 + 8 * s + 6) ≤ 0) (nI 0) (nI 1))), .int (nI i)] [] D) ?_ ?_
  · skip
    refine w_ild2 i49_4 ?_
    refine w_ald0 i49_5 ?_
    refine w_gfI i49_6 (by decide) s_2 rfl R.ct ?_
    refine w_cgeNT i49_9 g49_9 (by omega) (by omega) (by omega) ?_
    refine w_ild1 i49_36 ?_
    refine w_ri i49_37 r49 ?_
    exact ⟨rfl, rfl⟩
  · intro i hi ih
    refine w_ild2 i49_4 ?_
    refine w_ald0 i49_5 ?_
    refine w_gfI i49_6 (by decide) s_2 rfl R.ct ?_
    refine w_cgeNF i49_9 (by omega) (by omega) (by omega) ?_
    refine w_ild1 i49_12 ?_
    refine w_ald0 i49_13 ?_
    refine w_gfR i49_14 (by decide) s_2 rfl ?_
    refine w_ild2 i49_17 ?_
    refine w_ial i49_18 s_8 (by decide) (by omega) (R.c8 (by assumption)) ?_
    refine w_const i49_19 kc_m1 ?_
    refine w_cne i49_20 g49_20  (fun h20 => ?_) (fun h20 => ?_)
    · skip
      refine w_const i49_27 kc_1 ?_
      refine w_iadd i49_28 rfl ?_
      refine w_ist1 i49_29 ?_
      refine w_inc2 i49_30 (inc1 _) ?_
      refine w_goto i49_33 g49_33 ?_
      rw [sumS] at ih
      first | (rw [ifp_t (show V (30 + 8 * i + 6) ≤ 0 by rw [sbm h20]; decide)] at ih; exact ih) | (rw [ifp_f (show ¬ V (30 + 8 * i + 6) ≤ 0 from fun q => sbmn h20 (Int32.le_antisymm q (hb i hi)))] at ih; exact ih) | exact ih
    · skip
      refine w_const i49_23 kc_0 ?_
      refine w_goto i49_24 g49_24 ?_
      refine w_iadd i49_28 rfl ?_
      refine w_ist1 i49_29 ?_
      refine w_inc2 i49_30 (inc1 _) ?_
      refine w_goto i49_33 g49_33 ?_
      rw [sumS] at ih
      first | (rw [ifp_t (show V (30 + 8 * i + 6) ≤ 0 by rw [sbm h20]; decide)] at ih; exact ih) | (rw [ifp_f (show ¬ V (30 + 8 * i + 6) ≤ 0 from fun q => sbmn h20 (Int32.le_antisymm q (hb i hi)))] at ih; exact ih) | exact ih
set_option maxHeartbeats 100000 in
theorem K_allWax {d : Nat} {D : Mm} {n : Nat} {V : Nat → Int32} (R : Rel D n V) (h12 : n ≤ 12) : Ct (d + 1) 50 [.ref 2] D (Ex (some (.int (mOfAll n V 1))) D) := by
  refine ent m50 rfl rfl (ls := [.ref 2, .retAddr 0, .retAddr 0]) rfl ?_
  refine w_const i50_0 kc_0 ?_
  refine w_ist1 i50_1 ?_
  refine w_const i50_2 kc_0 ?_
  refine w_ist2 i50_3 ?_
  refine down0 (n := n) (P := fun i => Wp _ _ _ 4 [.ref 2, .int (sumN i (fun s => V (30 + 8 * s + 1))), .int (nI i)] [] D) ?_ ?_
  · skip
    refine w_ild2 i50_4 ?_
    refine w_ald0 i50_5 ?_
    refine w_gfI i50_6 (by decide) s_2 rfl R.ct ?_
    refine w_cgeNT i50_9 g50_9 (by omega) (by omega) (by omega) ?_
    refine w_ild1 i50_27 ?_
    refine w_ri i50_28 r50 ?_
    exact ⟨rfl, rfl⟩
  · intro i hi ih
    refine w_ild2 i50_4 ?_
    refine w_ald0 i50_5 ?_
    refine w_gfI i50_6 (by decide) s_2 rfl R.ct ?_
    refine w_cgeNF i50_9 (by omega) (by omega) (by omega) ?_
    refine w_ild1 i50_12 ?_
    refine w_ald0 i50_13 ?_
    refine w_gfR i50_14 (by decide) s_2 rfl ?_
    refine w_ild2 i50_17 ?_
    refine w_ial i50_18 s_4 (by decide) (by omega) (R.c4 (by assumption)) ?_
    refine w_iadd i50_19 rfl ?_
    refine w_ist1 i50_20 ?_
    refine w_inc2 i50_21 (inc1 _) ?_
    refine w_goto i50_24 g50_24 ?_
    rw [sumS] at ih; exact ih
set_option maxHeartbeats 100000 in
theorem K_allDebts {d : Nat} {D : Mm} {n : Nat} {V : Nat → Int32} (R : Rel D n V) (h12 : n ≤ 12) : Ct (d + 1) 51 [.ref 2] D (Ex (some (.int (mOfAll n V 4))) D) := by
  refine ent m51 rfl rfl (ls := [.ref 2, .retAddr 0, .retAddr 0]) rfl ?_
  refine w_const i51_0 kc_0 ?_
  refine w_ist1 i51_1 ?_
  refine w_const i51_2 kc_0 ?_
  refine w_ist2 i51_3 ?_
  refine down0 (n := n) (P := fun i => Wp _ _ _ 4 [.ref 2, .int (sumN i (fun s => V (30 + 8 * s + 4))), .int (nI i)] [] D) ?_ ?_
  · skip
    refine w_ild2 i51_4 ?_
    refine w_ald0 i51_5 ?_
    refine w_gfI i51_6 (by decide) s_2 rfl R.ct ?_
    refine w_cgeNT i51_9 g51_9 (by omega) (by omega) (by omega) ?_
    refine w_ild1 i51_27 ?_
    refine w_ri i51_28 r51 ?_
    exact ⟨rfl, rfl⟩
  · intro i hi ih
    refine w_ild2 i51_4 ?_
    refine w_ald0 i51_5 ?_
    refine w_gfI i51_6 (by decide) s_2 rfl R.ct ?_
    refine w_cgeNF i51_9 (by omega) (by omega) (by omega) ?_
    refine w_ild1 i51_12 ?_
    refine w_ald0 i51_13 ?_
    refine w_gfR i51_14 (by decide) s_2 rfl ?_
    refine w_ild2 i51_17 ?_
    refine w_ial i51_18 s_7 (by decide) (by omega) (R.c7 (by assumption)) ?_
    refine w_iadd i51_19 rfl ?_
    refine w_ist1 i51_20 ?_
    refine w_inc2 i51_21 (inc1 _) ?_
    refine w_goto i51_24 g51_24 ?_
    rw [sumS] at ih; exact ih
set_option maxHeartbeats 100000 in
theorem K_claimOf {d : Nat} {D : Mm} {n : Nat} {V : Nat → Int32} (R : Rel D n V) (h12 : n ≤ 12) (ho : opV V) {j : Nat} (hj : j < 6) : Ct (d + 2) 21 [.ref 1, .int (nI j)] D (Ex (some (.int (mClaim n V j))) D) := by
  refine ent m21 rfl rfl (ls := [.ref 1, .int (nI j)]) rfl ?_
  refine w_ald0 i21_0 ?_
  refine w_gfR i21_1 (by decide) s_1 rfl ?_
  refine w_ild1 i21_4 ?_
  refine w_zal i21_5 s_11 (by decide) (by omega) (R.c11 (by assumption)) ?_
  refine w_ieq i21_6 g21_6  (fun h6 => ?_) (fun h6 => ?_)
  · skip
    refine w_const i21_27 kc_0 ?_
    refine w_ri i21_28 r21 ?_
    unfold mClaim
    first | (rw [ifp_t (opV_t ho hj h6)]; exact ⟨rfl, rfl⟩) | (rw [ifp_f (opV_f h6)]; exact ⟨rfl, rfl⟩)
  · skip
    refine w_ald0 i21_9 ?_
    refine w_gfR i21_10 (by decide) s_1 rfl ?_
    refine w_ild1 i21_13 ?_
    refine w_ial i21_14 s_14 (by decide) (by omega) (R.c14 (by assumption)) ?_
    refine w_ald0 i21_15 ?_
    refine w_gfR i21_16 (by decide) s_1 rfl ?_
    refine w_ild1 i21_19 ?_
    refine w_vI2 i21_20 c47 (Or.inl rfl) ⟨by decide +kernel, by decide⟩ rfl ⟨rfl, Nat.le_of_ble_eq_true rfl⟩ (K_owedTo R h12) ?_
    refine w_iadd i21_23 rfl ?_
    refine w_goto i21_24 g21_24 ?_
    refine w_ri i21_28 r21 ?_
    unfold mClaim
    first | (rw [ifp_t (opV_t ho hj h6)]; exact ⟨rfl, rfl⟩) | (rw [ifp_f (opV_f h6)]; exact ⟨rfl, rfl⟩)
set_option maxHeartbeats 100000 in
theorem K_allClaims {d : Nat} {D : Mm} {n : Nat} {V : Nat → Int32} (R : Rel D n V) (h12 : n ≤ 12) (ho : opV V) : Ct (d + 3) 22 [.ref 1] D (Ex (some (.int (mClaims n V))) D) := by
  refine ent m22 rfl rfl (ls := [.ref 1, .retAddr 0, .retAddr 0]) rfl ?_
  refine w_const i22_0 kc_0 ?_
  refine w_ist1 i22_1 ?_
  refine w_const i22_2 kc_0 ?_
  refine w_ist2 i22_3 ?_
  refine down0 (n := 6) (P := fun i => Wp _ _ _ 4 [.ref 1, .int (sumN i (fun h => mClaim n V h)), .int (nI i)] [] D) ?_ ?_
  · skip
    refine w_ild2 i22_4 ?_
    refine w_bip i22_5 kb_6 ?_
    refine w_cgeNT i22_7 g22_7 (by omega) (by omega) (by omega) ?_
    refine w_ild1 i22_24 ?_
    refine w_ri i22_25 r22 ?_
    exact ⟨rfl, rfl⟩
  · intro i hi ih
    refine w_ild2 i22_4 ?_
    refine w_bip i22_5 kb_6 ?_
    refine w_cgeNF i22_7 (by omega) (by omega) (by omega) ?_
    refine w_ild1 i22_10 ?_
    refine w_ald0 i22_11 ?_
    refine w_ild2 i22_12 ?_
    refine w_vI2 i22_13 c21 (Or.inl rfl) ⟨by decide +kernel, by decide⟩ rfl ⟨rfl, Nat.le_of_ble_eq_true rfl⟩ (K_claimOf R h12 ho hi) ?_
    refine w_iadd i22_16 rfl ?_
    refine w_ist1 i22_17 ?_
    refine w_inc2 i22_18 (inc1 _) ?_
    refine w_goto i22_21 g22_21 ?_
    rw [sumS] at ih; exact ih
set_option maxHeartbeats 100000 in
theorem K_allStores {d : Nat} {D : Mm} {n : Nat} {V : Nat → Int32} (R : Rel D n V) (h12 : n ≤ 12) : Ct (d + 1) 23 [.ref 1] D (Ex (some (.int (mStores V))) D) := by
  refine ent m23 rfl rfl (ls := [.ref 1, .retAddr 0, .retAddr 0]) rfl ?_
  refine w_const i23_0 kc_0 ?_
  refine w_ist1 i23_1 ?_
  refine w_const i23_2 kc_0 ?_
  refine w_ist2 i23_3 ?_
  refine down0 (n := 6) (P := fun i => Wp _ _ _ 4 [.ref 1, .int (sumN i (fun h => V (6 + 4 * h + 2))), .int (nI i)] [] D) ?_ ?_
  · skip
    refine w_ild2 i23_4 ?_
    refine w_bip i23_5 kb_6 ?_
    refine w_cgeNT i23_7 g23_7 (by omega) (by omega) (by omega) ?_
    refine w_ild1 i23_25 ?_
    refine w_ri i23_26 r23 ?_
    exact ⟨rfl, rfl⟩
  · intro i hi ih
    refine w_ild2 i23_4 ?_
    refine w_bip i23_5 kb_6 ?_
    refine w_cgeNF i23_7 (by omega) (by omega) (by omega) ?_
    refine w_ild1 i23_10 ?_
    refine w_ald0 i23_11 ?_
    refine w_gfR i23_12 (by decide) s_1 rfl ?_
    refine w_ild2 i23_15 ?_
    refine w_ial i23_16 s_13 (by decide) (by omega) (R.c13 (by assumption)) ?_
    refine w_iadd i23_17 rfl ?_
    refine w_ist1 i23_18 ?_
    refine w_inc2 i23_19 (inc1 _) ?_
    refine w_goto i23_22 g23_22 ?_
    rw [sumS] at ih; exact ih
set_option maxHeartbeats 100000 in
theorem K_allPooled {d : Nat} {D : Mm} {n : Nat} {V : Nat → Int32} (R : Rel D n V) (h12 : n ≤ 12) : Ct (d + 1) 24 [.ref 1] D (Ex (some (.int (mPooled V))) D) := by
  refine ent m24 rfl rfl (ls := [.ref 1, .retAddr 0, .retAddr 0]) rfl ?_
  refine w_const i24_0 kc_0 ?_
  refine w_ist1 i24_1 ?_
  refine w_const i24_2 kc_0 ?_
  refine w_ist2 i24_3 ?_
  refine down0 (n := 6) (P := fun i => Wp _ _ _ 4 [.ref 1, .int (sumN i (fun h => V (6 + 4 * h + 3))), .int (nI i)] [] D) ?_ ?_
  · skip
    refine w_ild2 i24_4 ?_
    refine w_bip i24_5 kb_6 ?_
    refine w_cgeNT i24_7 g24_7 (by omega) (by omega) (by omega) ?_
    refine w_ild1 i24_25 ?_
    refine w_ri i24_26 r24 ?_
    exact ⟨rfl, rfl⟩
  · intro i hi ih
    refine w_ild2 i24_4 ?_
    refine w_bip i24_5 kb_6 ?_
    refine w_cgeNF i24_7 (by omega) (by omega) (by omega) ?_
    refine w_ild1 i24_10 ?_
    refine w_ald0 i24_11 ?_
    refine w_gfR i24_12 (by decide) s_1 rfl ?_
    refine w_ild2 i24_15 ?_
    refine w_ial i24_16 s_14 (by decide) (by omega) (R.c14 (by assumption)) ?_
    refine w_iadd i24_17 rfl ?_
    refine w_ist1 i24_18 ?_
    refine w_inc2 i24_19 (inc1 _) ?_
    refine w_goto i24_22 g24_22 ?_
    rw [sumS] at ih; exact ih
set_option maxHeartbeats 100000 in
theorem K_openHouses {d : Nat} {D : Mm} {n : Nat} {V : Nat → Int32} (R : Rel D n V) (h12 : n ≤ 12) (ho : opV V) : Ct (d + 1) 25 [.ref 1] D (Ex (some (.int (mOpens V))) D) := by
  refine ent m25 rfl rfl (ls := [.ref 1, .retAddr 0, .retAddr 0]) rfl ?_
  refine w_const i25_0 kc_0 ?_
  refine w_ist1 i25_1 ?_
  refine w_const i25_2 kc_0 ?_
  refine w_ist2 i25_3 ?_
  refine down0 (n := 6) (P := fun i => Wp _ _ _ 4 [.ref 1, .int (sumN i (fun h => V (6 + 4 * h + 0))), .int (nI i)] [] D) ?_ ?_
  · skip
    refine w_ild2 i25_4 ?_
    refine w_bip i25_5 kb_6 ?_
    refine w_cgeNT i25_7 g25_7 (by omega) (by omega) (by omega) ?_
    refine w_ild1 i25_33 ?_
    refine w_ri i25_34 r25 ?_
    exact ⟨rfl, rfl⟩
  · intro i hi ih
    refine w_ild2 i25_4 ?_
    refine w_bip i25_5 kb_6 ?_
    refine w_cgeNF i25_7 (by omega) (by omega) (by omega) ?_
    refine w_ild1 i25_10 ?_
    refine w_ald0 i25_11 ?_
    refine w_gfR i25_12 (by decide) s_1 rfl ?_
    refine w_ild2 i25_15 ?_
    refine w_zal i25_16 s_11 (by decide) (by omega) (R.c11 (by assumption)) ?_
    refine w_ieq i25_17 g25_17  (fun h17 => ?_) (fun h17 => ?_)
    · skip
      refine w_const i25_24 kc_0 ?_
      refine w_iadd i25_25 rfl ?_
      refine w_ist1 i25_26 ?_
      refine w_inc2 i25_27 (inc1 _) ?_
      refine w_goto i25_30 g25_30 ?_
      rw [sumS] at ih
      first | (rw [show V (6 + 4 * i + 0) = nI 0 from h17] at ih; exact ih) | (rw [show V (6 + 4 * i + 0) = nI 1 from opV_t ho hi h17] at ih; exact ih)
    · skip
      refine w_const i25_20 kc_1 ?_
      refine w_goto i25_21 g25_21 ?_
      refine w_iadd i25_25 rfl ?_
      refine w_ist1 i25_26 ?_
      refine w_inc2 i25_27 (inc1 _) ?_
      refine w_goto i25_30 g25_30 ?_
      rw [sumS] at ih
      first | (rw [show V (6 + 4 * i + 0) = nI 0 from h17] at ih; exact ih) | (rw [show V (6 + 4 * i + 0) = nI 1 from opV_t ho hi h17] at ih; exact ih)
set_option maxHeartbeats 100000 in
theorem K_succ_no {d : Nat} {D : Mm} {n : Nat} {V : Nat → Int32} (R : Rel D n V) (h12 : n ≤ 12) {j : Nat} (hj : j < 6) (hO : ¬ vOpen V j) (ho : opV V) : Ct (d + 1) 26 [.ref 1, .int (nI j)] D (Ex (some (.int (-1))) D) := by
  refine ent m26 rfl rfl (ls := [.ref 1, .int (nI j), .retAddr 0, .retAddr 0]) rfl ?_
  refine w_ald0 i26_0 ?_
  refine w_gfR i26_1 (by decide) s_1 rfl ?_
  refine w_ild1 i26_4 ?_
  refine w_zal i26_5 s_11 (by decide) (by omega) (R.c11 (by assumption)) ?_
  refine w_ineF i26_6  ((ho j hj).resolve_right hO) ?_
  refine w_const i26_9 kc_m1 ?_
  refine w_ri i26_10 r26 ?_
  exact ⟨rfl, rfl⟩
set_option maxHeartbeats 100000 in
theorem K_succ {d : Nat} {D : Mm} {Q : Option Value → Mm → Prop} {n : Nat} {V : Nat → Int32} (R : Rel D n V) (h12 : n ≤ 12) {j : Nat} (hj : j < 6) (hO : vOpen V j) (ho : opV V) (hh : okHr V) (hq : Q (some (.int (resS (vSucc V j)))) D) : Ct (d + 1) 26 [.ref 1, .int (nI j)] D Q := by
  have hE := okHr_eq hh hj
  refine ent m26 rfl rfl (ls := [.ref 1, .int (nI j), .retAddr 0, .retAddr 0]) rfl ?_
  refine w_ald0 i26_0 ?_
  refine w_gfR i26_1 (by decide) s_1 rfl ?_
  refine w_ild1 i26_4 ?_
  refine w_zal i26_5 s_11 (by decide) (by omega) (R.c11 (by assumption)) ?_
  refine w_ineT i26_6 g26_6  (fun q => opV_f q hO) ?_
  refine w_ald0 i26_11 ?_
  refine w_gfR i26_12 (by decide) s_1 rfl ?_
  refine w_ild1 i26_15 ?_
  refine w_ial i26_16 s_12 (by decide) (by omega) ((R.c12 hj).trans hE.1) ?_
  refine w_ist2 i26_17 ?_
  refine w_const i26_18 kc_0 ?_
  refine w_ist3 i26_19 ?_
  have L20 : ∀ k is st, st + k = 6 → is < 6 → Q (some (.int (resS (orE (chase V j k is) (firstO V j 6 0))))) D → Wp d 26 Q 20 [.ref 1, .int (nI j), .int (nI is), .int (nI st)] [] D := by
    intro k
    induction k with
    | zero =>
      intro is st hk h6 hqq
      have hqq : Q (some (.int (resS (firstO V j 6 0)))) D := hqq
      refine w_ild3 i26_20 ?_
      refine w_bip i26_21 kb_6 ?_
      refine w_cgeNT i26_23 g26_23 (by omega) (by omega) (by omega) ?_
      refine w_const i26_55 kc_0 ?_
      refine w_ist3 i26_56 ?_
      have L57 : ∀ k i, i + k = 6 → Q (some (.int (resS (firstO V j k i)))) D → Wp d 26 Q 57 [.ref 1, .int (nI j), .int (nI is), .int (nI i)] [] D := by
        intro k
        induction k with
        | zero =>
          intro i hk hqq
          refine w_ild3 i26_57 ?_
          refine w_bip i26_58 kb_6 ?_
          refine w_cgeNT i26_60 g26_60 (by omega) (by omega) (by omega) ?_
          refine w_const i26_85 kc_m1 ?_
          refine w_ri i26_86 r26 ?_
          exact hqq
        | succ k ih =>
          intro i hk hqq
          unfold firstO at hqq
          have h6i : i < 6 := by omega
          refine w_ild3 i26_57 ?_
          refine w_bip i26_58 kb_6 ?_
          refine w_cgeNF i26_60 (by omega) (by omega) (by omega) ?_
          refine w_ild3 i26_63 ?_
          refine w_ild1 i26_64 ?_
          refine w_ceqN i26_65 g26_65 (by omega) (by omega) (fun h65 => ?_) (fun h65 => ?_)
          · skip
            refine w_inc3 i26_79 (inc1 _) ?_
            refine w_goto i26_82 g26_82 ?_
            first
              | (rw [ifp_t (show i = j by omega)] at hqq; exact ih _ (by omega) hqq)
              | (rw [ifp_f h65, ifp_f (opV_f h74)] at hqq; exact ih _ (by omega) hqq)
          · skip
            refine w_ald0 i26_68 ?_
            refine w_gfR i26_69 (by decide) s_1 rfl ?_
            refine w_ild3 i26_72 ?_
            refine w_zal i26_73 s_11 (by decide) (by omega) (R.c11 (by assumption)) ?_
            refine w_ieq i26_74 g26_74  (fun h74 => ?_) (fun h74 => ?_)
            · skip
              refine w_inc3 i26_79 (inc1 _) ?_
              refine w_goto i26_82 g26_82 ?_
              first
                | (rw [ifp_t (show i = j by omega)] at hqq; exact ih _ (by omega) hqq)
                | (rw [ifp_f h65, ifp_f (opV_f h74)] at hqq; exact ih _ (by omega) hqq)
            · skip
              refine w_ild3 i26_77 ?_
              refine w_ri i26_78 r26 ?_
              rw [ifp_f h65, ifp_t (opV_t ho h6i h74)] at hqq; exact hqq
      exact L57 6 0 (by omega) hqq
    | succ k ih =>
      intro is st hk h6 hqq
      unfold chase at hqq
      refine w_ild3 i26_20 ?_
      refine w_bip i26_21 kb_6 ?_
      refine w_cgeNF i26_23 (by omega) (by omega) (by omega) ?_
      refine w_ild2 i26_26 ?_
      refine w_ild1 i26_27 ?_
      refine w_ceqN i26_28 g26_28 (by omega) (by omega) (fun h28 => ?_) (fun h28 => ?_)
      · skip
        refine w_ald0 i26_42 ?_
        refine w_gfR i26_43 (by decide) s_1 rfl ?_
        refine w_ild2 i26_46 ?_
        refine w_ial i26_47 s_12 (by decide) (by omega) ((R.c12 h6).trans (okHr_eq hh h6).1) ?_
        refine w_ist2 i26_48 ?_
        refine w_inc3 i26_49 (inc1 _) ?_
        refine w_goto i26_52 g26_52 ?_
        first
          | (rw [ifp_t (show is = j by omega)] at hqq; exact ih _ _ (by omega) (okHr_eq hh h6).2 hqq)
          | (rw [ifp_f h28, ifp_f (opV_f h37)] at hqq; exact ih _ _ (by omega) (okHr_eq hh h6).2 hqq)
      · skip
        refine w_ald0 i26_31 ?_
        refine w_gfR i26_32 (by decide) s_1 rfl ?_
        refine w_ild2 i26_35 ?_
        refine w_zal i26_36 s_11 (by decide) (by omega) (R.c11 h6) ?_
        refine w_ieq i26_37 g26_37  (fun h37 => ?_) (fun h37 => ?_)
        · skip
          refine w_ald0 i26_42 ?_
          refine w_gfR i26_43 (by decide) s_1 rfl ?_
          refine w_ild2 i26_46 ?_
          refine w_ial i26_47 s_12 (by decide) (by omega) ((R.c12 h6).trans (okHr_eq hh h6).1) ?_
          refine w_ist2 i26_48 ?_
          refine w_inc3 i26_49 (inc1 _) ?_
          refine w_goto i26_52 g26_52 ?_
          first
            | (rw [ifp_t (show is = j by omega)] at hqq; exact ih _ _ (by omega) (okHr_eq hh h6).2 hqq)
            | (rw [ifp_f h28, ifp_f (opV_f h37)] at hqq; exact ih _ _ (by omega) (okHr_eq hh h6).2 hqq)
        · skip
          refine w_ild2 i26_40 ?_
          refine w_ri i26_41 r26 ?_
          rw [ifp_f h28, ifp_t (opV_t ho h6 h37)] at hqq; exact hqq
  exact L20 6 _ 0 (by omega) hE.2 hq
