/-! what the walks need, from what holds -/
theorem firstO_none {V : Nat → Int32} {h : Nat} : ∀ k is, firstO V h k is = none → ∀ i, is ≤ i → i < is + k → i ≠ h → ¬ vOpen V i := by
  intro k
  induction k with
  | zero => intro is _ i h1 h2; omega
  | succ k ih =>
    intro is e i h1 h2 hi
    unfold firstO at e
    by_cases z : is = h
    · rw [ifp_t z] at e
      exact ih (is + 1) e i (by omega) (by omega) hi
    · rw [ifp_f z] at e
      by_cases y : vOpen V is
      · rw [ifp_t y] at e; cases e
      · rw [ifp_f y] at e
        by_cases x : i = is
        · rw [x]; exact y
        · exact ih (is + 1) e i (by omega) (by omega) hi
theorem IV.hr {n B : Nat} {V : Nat → Int32} (H : IV n V B) : okHr V := fun j hj => by
  obtain ⟨o, e, s, p, h0, h1, h2, h3, b1, b2, b3, b4⟩ := H.2.2.2.1 j hj
  exact ⟨e, b2, h1⟩
theorem succ_none {n B j : Nat} {V : Nat → Int32} (H : IV n V B) (hj : j < 6) : vSucc V j = none ↔ ∀ i, i < 6 → i ≠ j → ¬ vOpen V i := by
  constructor
  · intro e i hi hne
    have e2 : firstO V j 6 0 = none := by
      unfold vSucc orE at e
      cases hc : chase V j 6 (hrV V j) with
      | some x => rw [hc] at e; cases e
      | none => rw [hc] at e; exact e
    exact firstO_none 6 0 e2 i (Nat.zero_le _) (by omega) hne
  · intro g
    cases e : vSucc V j with
    | none => rfl
    | some r =>
      have := vSucc_lt H.hr hj e
      exact absurd this.2.2 (g r this.1 this.2.1)
def opc (V : Nat → Int32) (h : Nat) : Nat := cl (V (6 + 4 * h + 0))
theorem opc_01 {n B h : Nat} {V : Nat → Int32} (H : IV n V B) (hh : h < 6) : opc V h ≤ 1 ∧ V (6 + 4 * h + 0) = nI (opc V h) ∧ (vOpen V h ↔ opc V h = 1) := by
  obtain ⟨o, e, s, p, h0, h1, h2, h3, b1, b2, b3, b4⟩ := H.2.2.2.1 h hh
  have eo : opc V h = o := by unfold opc; rw [h0, cl_nI (by omega)]
  rw [eo]
  refine ⟨b1, h0, ?_⟩
  unfold vOpen
  rw [h0]
  exact ⟨fun q => (nI_inj (by omega) (by omega) q).symm, fun q => by rw [q]⟩
theorem opens_nat {n B : Nat} {V : Nat → Int32} (H : IV n V B) : mOpens V = nI (sN6 6 (opc V)) := sumN_nI 6 (fun h hh => (opc_01 H hh).2.1)
theorem opens_one {n B j : Nat} {V : Nat → Int32} (H : IV n V B) (hj : j < 6) (hO : vOpen V j) : (1 ≤ sN6 6 (opc V) ∧ sN6 6 (opc V) ≤ 6) ∧ (mOpens V = nI 1 ↔ vSucc V j = none) := by
  have o0 := opc_01 H (h := 0) (by decide)
  have o1 := opc_01 H (h := 1) (by decide)
  have o2 := opc_01 H (h := 2) (by decide)
  have o3 := opc_01 H (h := 3) (by decide)
  have o4 := opc_01 H (h := 4) (by decide)
  have o5 := opc_01 H (h := 5) (by decide)
  have oj := (opc_01 H hj).2.2.mp hO
  have e : sN6 6 (opc V) = opc V 0 + opc V 1 + opc V 2 + opc V 3 + opc V 4 + opc V 5 := by simp only [sN6, Nat.zero_add]
  have hsum : 1 ≤ sN6 6 (opc V) := by
    have := c_le (c := opc V) hj
    omega
  refine ⟨⟨hsum, by omega⟩, ?_⟩
  rw [opens_nat H, succ_none H hj]
  constructor
  · intro q i hi hne hOi
    have q := nI_inj (by omega) (by omega) q
    have oi := (opc_01 H hi).2.2.mp hOi
    rcases (by omega : i = 0 ∨ i = 1 ∨ i = 2 ∨ i = 3 ∨ i = 4 ∨ i = 5) with z | z | z | z | z | z <;> subst z <;> rcases (by omega : j = 0 ∨ j = 1 ∨ j = 2 ∨ j = 3 ∨ j = 4 ∨ j = 5) with y | y | y | y | y | y <;> subst y <;> first | exact absurd rfl hne | omega
  · intro g
    congr 1
    have gz : ∀ i, i < 6 → i ≠ j → opc V i = 0 := fun i hi hne => by
      have a := (opc_01 H hi).1
      have b := (opc_01 H hi).2.2
      by_cases z : opc V i = 1
      · exact absurd (b.mpr z) (g i hi hne)
      · omega
    have := sN6_n (a := opc V) (c := fun _ => 0) (j := j) 
    rcases (by omega : j = 0 ∨ j = 1 ∨ j = 2 ∨ j = 3 ∨ j = 4 ∨ j = 5) with y | y | y | y | y | y <;> subst y
    · have g1 := gz 1 (by decide) (by decide); have g2 := gz 2 (by decide) (by decide); have g3 := gz 3 (by decide) (by decide); have g4 := gz 4 (by decide) (by decide); have g5 := gz 5 (by decide) (by decide); omega
    · have g1 := gz 0 (by decide) (by decide); have g2 := gz 2 (by decide) (by decide); have g3 := gz 3 (by decide) (by decide); have g4 := gz 4 (by decide) (by decide); have g5 := gz 5 (by decide) (by decide); omega
    · have g1 := gz 0 (by decide) (by decide); have g2 := gz 1 (by decide) (by decide); have g3 := gz 3 (by decide) (by decide); have g4 := gz 4 (by decide) (by decide); have g5 := gz 5 (by decide) (by decide); omega
    · have g1 := gz 0 (by decide) (by decide); have g2 := gz 1 (by decide) (by decide); have g3 := gz 2 (by decide) (by decide); have g4 := gz 4 (by decide) (by decide); have g5 := gz 5 (by decide) (by decide); omega
    · have g1 := gz 0 (by decide) (by decide); have g2 := gz 1 (by decide) (by decide); have g3 := gz 2 (by decide) (by decide); have g4 := gz 3 (by decide) (by decide); have g5 := gz 5 (by decide) (by decide); omega
    · have g1 := gz 0 (by decide) (by decide); have g2 := gz 1 (by decide) (by decide); have g3 := gz 2 (by decide) (by decide); have g4 := gz 3 (by decide) (by decide); have g5 := gz 4 (by decide) (by decide); omega
theorem IV.op {n B : Nat} {V : Nat → Int32} (H : IV n V B) : opV V := fun h hh => by
  have := opc_01 H hh
  rw [this.2.1]
  rcases (by omega : opc V h = 0 ∨ opc V h = 1) with z | z <;> rw [z]
  · exact Or.inl rfl
  · exact Or.inr rfl
theorem IV.hc {n B : Nat} {V : Nat → Int32} (H : IV n V B) (hB : B ≤ 20000) : HC n V := by
  obtain ⟨c, hD⟩ := H.shD hB
  refine ⟨⟨H.1, H.2.1, fun s hs => ?_, fun hA => ?_, H.hr, fun j hj hO => (opens_one H hj hO).2⟩, H.op, fun s hs => ?_, fun s hs => ?_, fun h hh => ⟨_, H.2.2.2.2.2.1 h hh, mWr_nat⟩, fun s hs => ?_, ⟨_, c, hD⟩, fun j hj r he => ?_⟩
  · obtain ⟨o, w, k, t, u, z, b, h0, h1, h2, h3, h4, h5, h6, b0, b1, b2, b3, b4, b5, b6, b7, b8⟩ := H.2.2.1 s hs
    exact ⟨o, b0, h0⟩
  · have hC := hD.zero hA
    have hc := hD.2.2.2.1
    have hp := hD.2.2.2.2
    rw [hD.cl, hD.left hC]
    exact ⟨(npos hc).mpr hC, fun q => by rw [← nI_0] at q; have := (nlt (by omega) (by omega)).mp q; omega⟩
  · obtain ⟨o, w, k, t, u, z, b, h0, h1, h2, h3, h4, h5, h6, b0, b1, b2, b3, b4, b5, b6, b7, b8⟩ := H.2.2.1 s hs
    rw [h6]; exact nI_pos' (by omega)
  · obtain ⟨o, w, k, t, u, z, b, h0, h1, h2, h3, h4, h5, h6, b0, b1, b2, b3, b4, b5, b6, b7, b8⟩ := H.2.2.1 s hs
    rw [h3]; exact nI_pos' (by omega)
  · obtain ⟨o, w, k, t, u, z, b, h0, h1, h2, h3, h4, h5, h6, b0, b1, b2, b3, b4, b5, b6, b7, b8⟩ := H.2.2.1 s hs
    exact ⟨z, b5, h5⟩
  · have hr := vSucc_lt H.hr hj he
    exact (closed_all H (by omega) hj hr.1 hr.2.1 hr.2.2).2
theorem good_Do {n B k : Nat} {V : Nat → Int32} {a b c : Int32} (H : IV n V B) (hB : B ≤ 19000) : good (oDo n V k a b c) (B + 30) := by
  unfold oDo
  split; exact good_S H
  split; exact good_B H
  split; exact good_O H
  split; exact good_W H
  split; exact good_P H (by omega)
  split; exact good_D H (by omega)
  split; exact good_M H
  split; exact good_H H
  split; exact good_E H (by omega) H.hr
  exact good_T H
theorem IV.cl0 {n B : Nat} {V : Nat → Int32} (H : IV n V B) : cl (V 0) = n := by
  have := H.2.1
  rw [H.1, cl_nI (by omega)]
theorem hAllC_of : ∀ (os : List (Nat × Nat × Nat × Nat)) (n B : Nat) (V : Nat → Int32), IV n V B → B + 30 * os.length ≤ 19000 → hAllC os V := by
  intro os
  induction os with
  | nil => intro n B V _ _; trivial
  | cons o os ih =>
    intro n B V H hB
    have hB : B + 30 * (os.length + 1) ≤ 19000 := hB
    have e := H.cl0
    refine ⟨by rw [e]; exact H.hc (by omega), fun a V2 hO => ?_⟩
    have G := good_r (good_Do (k := o.1) (a := nI o.2.1) (b := nI o.2.2.1) (c := nI o.2.2.2) H (by omega)) (by rw [← e]; exact hO)
    exact ⟨G.2, ih _ (B + 30) V2 G.1 (by omega)⟩
theorem runO_IV : ∀ (os : List (Nat × Nat × Nat × Nat)) (n B i : Nat) (V : Nat → Int32), IV n V B → B + 30 * os.length ≤ 19000 → ∀ j V2, runO os i V = .inr (j, V2) → IV (cl (V2 0)) V2 (B + 30 * os.length) := by
  intro os
  induction os with
  | nil =>
    intro n B i V H hB j V2 e
    cases e
    rw [H.cl0]; exact H
  | cons o os ih =>
    intro n B i V H hB j V2 e
    have hB : B + 30 * (os.length + 1) ≤ 19000 := hB
    have e0 := H.cl0
    cases hO : oOp V o with
    | inl w =>
      obtain ⟨x, rs⟩ := w
      rw [runO_l hO] at e; cases e
    | inr w =>
      obtain ⟨a, V3⟩ := w
      rw [runO_r hO] at e
      have G := good_r (good_Do (k := o.1) (a := nI o.2.1) (b := nI o.2.2.1) (c := nI o.2.2.2) H (by omega)) (by rw [← e0]; exact hO)
      have := ih _ (B + 30) (i + 1) V3 G.1 (by omega) j V2 e
      exact this.mono (by show B + 30 + 30 * os.length ≤ B + 30 * (os.length + 1); omega)
/-! questions -/
theorem IV.clN {n B : Nat} {V : Nat → Int32} (H : IV n V B) (hB : B ≤ 20000) : clN n V := fun h hh => by
  obtain ⟨o, e, s, p, h0, h1, h2, h3, b1, b2, b3, b4⟩ := H.2.2.2.1 h hh
  obtain ⟨e2, l2⟩ := mOwed_nat (h := h) (fun s hs => (H.2.2.1 s hs).ow) H.2.1
  have epp : poc V h = p := by unfold poc; rw [h3, cl_nI (by omega)]
  have := st_le H hh
  unfold mClaim
  by_cases z : vOpen V h
  · rw [ifp_t z, h3, e2, nI_add]; exact ⟨_, by omega, rfl⟩
  · rw [ifp_f z]; exact ⟨0, by omega, rfl⟩
theorem IV.stN {n B : Nat} {V : Nat → Int32} (H : IV n V B) : stN V := fun h hh => by
  obtain ⟨o, e, s, p, h0, h1, h2, h3, b1, b2, b3, b4⟩ := H.2.2.2.1 h hh
  exact ⟨s, b3, h2⟩
theorem IV.ltN {n B : Nat} {V : Nat → Int32} (H : IV n V B) : ltN n V := fun s hs => by
  obtain ⟨o, w, k, t, u, z, b, h0, h1, h2, h3, h4, h5, h6, b0, b1, b2, b3, b4, b5, b6, b7, b8⟩ := H.2.2.1 s hs
  have hwk : w * k ≤ 30 * 9 := Nat.mul_le_mul b1 b2
  rw [h1, h2, nI_mul]
  exact ⟨⟨_, by omega, rfl⟩, u, by omega, h4⟩
theorem wx_nat {n B : Nat} {V : Nat → Int32} (H : IV n V B) {s : Nat} (hs : s < n) : V (30 + 8 * s + 1) = nI (wxc V s) ∧ wxc V s ≤ 30 := by
  obtain ⟨o, w, k, t, u, z, b, h0, h1, h2, h3, h4, h5, h6, b0, b1, b2, b3, b4, b5, b6, b7, b8⟩ := H.2.2.1 s hs
  have e : wxc V s = w := by unfold wxc; rw [h1, cl_nI (by omega)]
  rw [e]; exact ⟨h1, b1⟩
theorem ofAll_nat {n B : Nat} {V : Nat → Int32} (H : IV n V B) : mOfAll n V 1 = nI (sN6 n (wxc V)) := sumN_nI n (fun s hs => (wx_nat H hs).1)
theorem IV.bal {n B : Nat} {V : Nat → Int32} (H : IV n V B) : V 1 = mOfAll n V 1 + mStores V + mPooled V + V 2 := by
  have e2 : mStores V = nI (sN6 6 (stc V)) := sumN_nI 6 (fun h hh => by
    obtain ⟨o, e, s, p, h0, h1, h2, h3, b1, b2, b3, b4⟩ := H.2.2.2.1 h hh
    unfold stc
    rw [h2, cl_nI (by omega)])
  rw [ofAll_nat H, e2, mP_nat H, nI_add, nI_add]
  exact H.2.2.2.2.2.2.1
def trc (V : Nat → Int32) (o s : Nat) : Nat := if V (30 + 8 * s + 0) = nI o then wxc V s + 1 else 0
theorem tray_nat {n B o : Nat} {V : Nat → Int32} (H : IV n V B) : mTray n V (nI o) = nI (sN6 n (trc V o)) := sumN_nI n (fun s hs => by
  unfold trc
  by_cases z : V (30 + 8 * s + 0) = nI o
  · rw [ifp_t z, if_pos z, (wx_nat H hs).1, nI_add]
  · rw [ifp_f z, if_neg z])
theorem subN_nat {f : Nat → Int32} {g : Nat → Nat} {A : Nat} : ∀ k, (∀ o, o < k → f o = nI (g o)) → sN6 k g ≤ A → subN (nI A) f k = nI (A - sN6 k g) := by
  intro k
  induction k with
  | zero => intro _ _; rfl
  | succ k ih =>
    intro h hA
    have e : sN6 (k + 1) g = sN6 k g + g k := rfl
    rw [subN, ih (fun o ho => h o (by omega)) (by omega), h k (by omega), nI_sub (by omega)]
    congr 1
    omega
theorem sN6_add {f g : Nat → Nat} : ∀ n, sN6 n (fun s => f s + g s) = sN6 n f + sN6 n g := by
  intro n
  induction n with
  | zero => rfl
  | succ n ih => rw [sN6, sN6, sN6, ih]; omega
theorem tray_all {n B : Nat} {V : Nat → Int32} (H : IV n V B) : sN6 6 (fun o => sN6 n (trc V o)) = sN6 n (wxc V) + n := by
  have e : sN6 6 (fun o => sN6 n (trc V o)) = sN6 n (fun s => trc V 0 s + trc V 1 s + trc V 2 s + trc V 3 s + trc V 4 s + trc V 5 s) := by
    rw [sN6_add, sN6_add, sN6_add, sN6_add, sN6_add]
    simp only [sN6, Nat.zero_add]
  have e2 : sN6 n (fun s => trc V 0 s + trc V 1 s + trc V 2 s + trc V 3 s + trc V 4 s + trc V 5 s) = sN6 n (fun s => wxc V s + 1) := sN6_congr n (fun s hs => by
    obtain ⟨o, w, k, t, u, z, b, h0, h1, h2, h3, h4, h5, h6, b0, b1, b2, b3, b4, b5, b6, b7, b8⟩ := H.2.2.1 s hs
    have hq : ∀ i, i < 6 → trc V i s = if i = o then wxc V s + 1 else 0 := fun i hi => by
      unfold trc
      rw [h0]
      by_cases q : i = o
      · rw [if_pos q, if_pos (by rw [q])]
      · rw [if_neg q, if_neg (fun y => q (by have := nI_inj (by omega) (by omega) y; omega))]
    rw [hq 0 (by decide), hq 1 (by decide), hq 2 (by decide), hq 3 (by decide), hq 4 (by decide), hq 5 (by decide)]
    rcases (by omega : o = 0 ∨ o = 1 ∨ o = 2 ∨ o = 3 ∨ o = 4 ∨ o = 5) with y | y | y | y | y | y <;> subst y <;> simp)
  have e3 : ∀ m, sN6 m (fun _ => 1) = m := fun m => by
    induction m with
    | zero => rfl
    | succ m ih => rw [sN6, ih]
  rw [e, e2, sN6_add, e3]
theorem IV.wb {n B : Nat} {V : Nat → Int32} (H : IV n V B) : ∀ h, h < 6 → wbo n V (nI h) = mTray n V (nI h) := fun h hh => by
  have a := tray_all H
  unfold wbo
  rw [ofAll_nat H, nI_add, tray_nat H, Nat.mul_one]
  have g := sN6_n (a := fun o => if o = h then 0 else sN6 n (trc V o)) (c := fun o => sN6 n (trc V o)) (j := h) (fun i hi => if_neg hi) 6 hh
  have e1 : (if h = h then 0 else sN6 n (trc V h)) = 0 := if_pos rfl
  rw [subN_nat (g := fun o => if o = h then 0 else sN6 n (trc V o)) 6 (fun o ho => ?_) (by omega)]
  · congr 1; omega
  · by_cases z : o = h
    · rw [ifp_t (by rw [z]), if_pos z]
    · rw [ifp_f (fun y => z (by have := nI_inj (by omega) (by omega) y; omega)), if_neg z, tray_nat H]
theorem tmS_sk {V : Nat → Int32} {h w : Int32} {s : Nat} (e : ¬ V (30 + 8 * s + 0) = h) : tmS V h w (s + 1) = tmS V h w s := by rw [tmS_s, ifp_f e]
theorem tmS_mv {V : Nat → Int32} {h w : Int32} {s : Nat} (e : V (30 + 8 * s + 0) = h) (f : (tmS V h w s).1 + (V (30 + 8 * s + 1) + nI 1) ≤ nI 60) : tmS V h w (s + 1) = ((tmS V h w s).1 + (V (30 + 8 * s + 1) + nI 1), (tmS V h w s).2) := by rw [tmS_s, ifp_t e, ifp_t f]
theorem tmS_ml {V : Nat → Int32} {h w : Int32} {s : Nat} (e : V (30 + 8 * s + 0) = h) (f : ¬ (tmS V h w s).1 + (V (30 + 8 * s + 1) + nI 1) ≤ nI 60) : tmS V h w (s + 1) = ((tmS V h w s).1, (tmS V h w s).2 + 1) := by rw [tmS_s, ifp_t e, ifp_f f]
theorem Inh_tm {V : Nat → Int32} {h r : Nat} {w : Int32} (hh : h < 6) (hr : r < 6) (hne : r ≠ h) : ∀ k s n m (W : Nat → Int32), n ≤ 12 → s + k = n → (∀ i, i < k → W (30 + 8 * (s + i) + 0) = V (30 + 8 * (s + m + i) + 0) ∧ W (30 + 8 * (s + i) + 1) = V (30 + 8 * (s + m + i) + 1)) → mTray n W (nI r) = (tmS V (nI h) w (s + m)).1 → m = (tmS V (nI h) w (s + m)).2 → (vInh h r k s n m W).1 = (tmS V (nI h) w (s + m + k)).2 := by
  have hnr : ¬ nI h = nI r := fun e => hne (nI_inj (by omega) (by omega) e)
  intro k
  induction k with
  | zero => intro s n m W h12 hk g1 g2 g3; exact g3
  | succ k ih =>
    intro s n m W h12 hk g1 g2 g3
    have g0 : W (30 + 8 * s + 0) = V (30 + 8 * (s + m) + 0) ∧ W (30 + 8 * s + 1) = V (30 + 8 * (s + m) + 1) := g1 0 (by omega)
    rw [show s + m + (k + 1) = s + m + 1 + k by omega]
    unfold vInh
    by_cases e : W (30 + 8 * s + 0) = nI h
    · rw [ifp_t e]
      have eV : V (30 + 8 * (s + m) + 0) = nI h := g0.1.symm.trans e
      by_cases f : mTray n W (nI r) + W (30 + 8 * s + 1) + nI 1 ≤ nI 60
      · rw [ifp_t f]
        have fV : (tmS V (nI h) w (s + m)).1 + (V (30 + 8 * (s + m) + 1) + nI 1) ≤ nI 60 := by rw [← g2, ← g0.2, ← Int32.add_assoc]; exact f
        have T := tmS_mv eV fV
        have := ih (s + 1) n m (vup W (30 + 8 * s + 0) (nI r)) h12 (by omega) (fun i hi => by
          have q := g1 (i + 1) (by omega)
          rw [show s + (i + 1) = s + 1 + i by omega, show s + m + (i + 1) = s + 1 + m + i by omega] at q
          rw [updJ (by omega), updJ (by omega)]
          exact q) (by
          rw [mT_set (by omega) e hnr, show s + 1 + m = s + m + 1 by omega, T, g2, g0.2]) (by rw [show s + 1 + m = s + m + 1 by omega, T]; exact g3)
        rw [this, show s + 1 + m + k = s + m + 1 + k by omega]
      · rw [ifp_f f]
        have fV : ¬ (tmS V (nI h) w (s + m)).1 + (V (30 + 8 * (s + m) + 1) + nI 1) ≤ nI 60 := by rw [← g2, ← g0.2, ← Int32.add_assoc]; exact f
        have T := tmS_ml eV fV
        have := ih s (n - 1) (m + 1) (vGoes (vup W (6 + 4 * r + 2) (W (6 + 4 * r + 2) + W (30 + 8 * s + 1))) s) (by omega) (by omega) (fun i hi => by
          have q := g1 (i + 1) (by omega)
          rw [show s + m + (i + 1) = s + (m + 1) + i by omega] at q
          refine ⟨?_, ?_⟩
          · rw [vGoes_hi (by omega) (by omega) (by omega), updJ (by omega), ← q.1]; congr 1
          · rw [vGoes_hi (by omega) (by omega) (by omega), updJ (by omega), ← q.2]; congr 1) (by
          rw [mT_go (by omega) (by omega) (by rw [updJ (by omega), e]; exact hnr), mT_lo (by omega), show s + (m + 1) = s + m + 1 by omega, T]; exact g2) (by rw [show s + (m + 1) = s + m + 1 by omega, T]; exact congrArg (· + 1) g3)
        rw [this, show s + (m + 1) + k = s + m + 1 + k by omega]
    · rw [ifp_f e]
      have T := tmS_sk (w := w) (fun q => e (g0.1.trans q))
      have := ih (s + 1) n m W h12 (by omega) (fun i hi => by
        have q := g1 (i + 1) (by omega)
        rw [show s + (i + 1) = s + 1 + i by omega, show s + m + (i + 1) = s + 1 + m + i by omega] at q
        exact q) (by rw [show s + 1 + m = s + m + 1 by omega, T]; exact g2) (by rw [show s + 1 + m = s + m + 1 by omega, T]; exact g3)
      rw [this, show s + 1 + m + k = s + m + 1 + k by omega]
theorem Rt_wx {i h r : Nat} {W : Nat → Int32} : vRt h r i W (30 + 8 * i + 1) = W (30 + 8 * i + 1) := by
  rw [vRt_eq]
  by_cases g : W (30 + 8 * i + 3) = nI (h + 1)
  · rw [ifp_t g]
    by_cases g2 : vup W (30 + 8 * i + 3) (nI (r + 1)) (30 + 8 * i + 6) = nI (h + 1)
    · rw [ifp_t g2, updJ (by omega), updJ (by omega), updJ (by omega)]
    · rw [ifp_f g2, updJ (by omega)]
  · rw [ifp_f g]
    by_cases g2 : W (30 + 8 * i + 6) = nI (h + 1)
    · rw [ifp_t g2, updJ (by omega), updJ (by omega)]
    · rw [ifp_f g2]
theorem itrRt_01 {h r : Nat} {W : Nat → Int32} : ∀ n s, itr (vRt h r) n W (30 + 8 * s + 0) = W (30 + 8 * s + 0) ∧ itr (vRt h r) n W (30 + 8 * s + 1) = W (30 + 8 * s + 1) := by
  intro n
  induction n with
  | zero => intro s; exact ⟨rfl, rfl⟩
  | succ n ih =>
    intro s
    show vRt h r n (itr (vRt h r) n W) (30 + 8 * s + 0) = _ ∧ vRt h r n (itr (vRt h r) n W) (30 + 8 * s + 1) = _
    by_cases z : s = n
    · subst z
      rw [Rt_of, Rt_wx]; exact ih s
    · rw [own_Rt n _ _ (by omega), own_Rt n _ _ (by omega)]; exact ih s
theorem melt_eq {n h r : Nat} {V : Nat → Int32} (h12 : n ≤ 12) (hh : h < 6) (hr : r < 6) (hne : r ≠ h) : (vClosed n V h r).1 = (tmS V (nI h) (mTray n V (nI r)) n).2 := by
  have e : ∀ s, itr (vRt h r) n (vCl0 V h r) (30 + 8 * s + 0) = V (30 + 8 * s + 0) ∧ itr (vRt h r) n (vCl0 V h r) (30 + 8 * s + 1) = V (30 + 8 * s + 1) := fun s => by
    have := itrRt_01 (h := h) (r := r) (W := vCl0 V h r) n s
    rw [this.1, this.2, vCl0_eq hne]
    exact ⟨by rw [updJ (by omega), updJ (by omega), updJ (by omega), updJ (by omega), updJ (by omega)], by rw [updJ (by omega), updJ (by omega), updJ (by omega), updJ (by omega), updJ (by omega)]⟩
  have := Inh_tm (V := V) (w := mTray n V (nI r)) hh hr hne n 0 n 0 (itr (vRt h r) n (vCl0 V h r)) h12 (by omega) (fun i hi => by
    have q := e i
    rw [show 0 + i = i by omega]; exact q) (by
    show mTray n (itr (vRt h r) n (vCl0 V h r)) (nI r) = mTray n V (nI r)
    exact sum_congr (fun s _ => by rw [(e s).1, (e s).2])) rfl
  rw [show 0 + 0 + n = n by omega] at this
  exact this
