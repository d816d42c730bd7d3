/-! the changes keep it, on -/
def owc (h : Nat) (V : Nat → Int32) (s : Nat) : Nat := if V (30 + 8 * s + 3) = nI (h + 1) then cl (V (30 + 8 * s + 4)) else 0
theorem mOwed_nat {n h : Nat} {V : Nat → Int32} (H : ∀ s, s < n → ∃ u, u ≤ 90 ∧ V (30 + 8 * s + 4) = nI u) (h12 : n ≤ 12) : mOwed n V (nI h) = nI (sN6 n (owc h V)) ∧ sN6 n (owc h V) ≤ 1080 := by
  constructor
  · refine sumN_nI n (fun s hs => ?_)
    obtain ⟨u, u9, e⟩ := H s hs
    unfold owc
    rw [nI_add]
    by_cases z : V (30 + 8 * s + 3) = nI (h + 1)
    · rw [ifp_t z, if_pos z, e, cl_nI (by omega)]
    · rw [ifp_f z, if_neg z]
  · have : ∀ m, m ≤ n → sN6 m (owc h V) ≤ 90 * m := by
      intro m
      induction m with
      | zero => intro _; exact Nat.le_refl _
      | succ m ih =>
        intro hm
        obtain ⟨u, u9, e⟩ := H m (by omega)
        have := ih (by omega)
        rw [sN6]
        have e2 : owc h V m ≤ 90 := by
          unfold owc
          split
          · rw [e, cl_nI (by omega)]; exact u9
          · omega
        omega
    have := this n (Nat.le_refl _)
    omega
theorem mWr_nat {n h : Nat} {V : Nat → Int32} : mWritsH n V (nI h) = nI (sN6 n (wrc h V)) := by
  refine sumN_nI n (fun s _ => ?_)
  unfold wrc
  rw [nI_add]
  by_cases z : V (30 + 8 * s + 6) = nI (h + 1)
  · rw [ifp_t z, if_pos z]
  · rw [ifp_f z, if_neg z]
theorem cnt_nat {n : Nat} {f : Nat → Int32} (h : ∀ s, s < n → f s = nI 0 ∨ f s = nI 1) (h12 : n ≤ 12) : 0 ≤ sumN n f := by
  have : ∃ c, c ≤ n ∧ sumN n f = nI c := by
    have K : ∀ m, m ≤ n → ∃ c, c ≤ m ∧ sumN m f = nI c := by
      intro m
      induction m with
      | zero => intro _; exact ⟨0, Nat.le_refl _, rfl⟩
      | succ m ih =>
        intro hm
        obtain ⟨c, hc, e⟩ := ih (by omega)
        rcases h m (by omega) with z | z
        · exact ⟨c, by omega, by rw [sumS, e, z, add0]⟩
        · exact ⟨c + 1, by omega, by rw [sumS, e, z, nI_add]⟩
    exact K n (Nat.le_refl _)
  obtain ⟨c, hc, e⟩ := this
  rw [e]
  exact nI_pos' (by omega)
theorem stI.ow {V : Nat → Int32} {s : Nat} (h : stI V s) : ∃ u, u ≤ 90 ∧ V (30 + 8 * s + 4) = nI u := by
  obtain ⟨o, w, k, t, u, z, b, h0, h1, h2, h3, h4, h5, h6, b0, b1, b2, b3, b4, b5, b6, b7, b8⟩ := h
  exact ⟨u, b4, h4⟩
theorem mOwed_pos {n h B : Nat} {V : Nat → Int32} (H : IV n V B) : 0 ≤ mOwed n V (nI h) := by
  obtain ⟨e, l⟩ := mOwed_nat (h := h) (fun s hs => (H.2.2.1 s hs).ow) H.2.1
  rw [e]; exact nI_pos' (by omega)
theorem good_O {n B : Nat} {V : Nat → Int32} {a b x : Int32} (H : IV n V B) : good (oO n V a b x) (B + 30) := by
  have h12 := H.2.1
  refine good_if (fun _ => good_l) (fun hb => ?_)
  rcases caseS (n := n) (by omega) a with h | ⟨s, hs, rfl⟩
  · exact absurd (Or.inl h) hb
  rcases caseH b with h | ⟨j, hj, rfl⟩
  · exact absurd (Or.inr h) hb
  rw [cl_nI (by omega), cl_nI (by omega)]
  refine good_if (fun _ => good_l) (fun hR => good_if (fun _ => good_if (fun _ => good_l) (fun hne => good_if (fun _ => ?_) (fun _ => good_l))) (fun _ => good_l))
  obtain ⟨y, y1, y2, rfl⟩ := in_R hR
  obtain ⟨o, w, k, t, u, z, b, h0, h1, h2, h3, h4, h5, h6, b0, b1, b2, b3, b4, b5, b6, b7, b8⟩ := H.2.2.1 s hs
  rw [h0] at hne
  have hne := ne_in hne
  have G : IV n (vup (vup V (30 + 8 * s + 3) (nI (j + 1))) (30 + 8 * s + 4) (nI y)) (B + 30) := by
    refine (H.mono (by omega)).stub hs (fun i hi => Or.inl ((updJ (by omega)).trans (updJ (by omega)))) (fun i hi z f hf => (updJ (by omega)).trans (updJ (by omega))) ⟨o, w, k, j + 1, y, z, b, (updJ (by omega)).trans ((updJ (by omega)).trans h0), (updJ (by omega)).trans ((updJ (by omega)).trans h1), (updJ (by omega)).trans ((updJ (by omega)).trans h2), (updJ (by omega)).trans updE, updE, (updJ (by omega)).trans ((updJ (by omega)).trans h5), (updJ (by omega)).trans ((updJ (by omega)).trans h6), b0, b1, b2, by omega, by omega, b5, b6, by omega, b8⟩ ((updJ (by omega)).trans (updJ (by omega))) (fun h hh => Or.inl (Nat.le_of_eq (wrc_same ((updJ (by omega)).trans (updJ (by omega))))))
  exact good_s G (mOwed_pos G)
theorem mWrits_pos {n B : Nat} {V : Nat → Int32} (H : IV n V B) : 0 ≤ mWrits n V := cnt_nat (fun s _ => by
  by_cases z : V (30 + 8 * s + 6) ≤ 0
  · exact Or.inl (ifp_t z)
  · exact Or.inr (ifp_f z)) H.2.1
theorem good_W {n B : Nat} {V : Nat → Int32} {a b x : Int32} (H : IV n V B) : good (oW n V b a x) (B + 30) := by
  have h12 := H.2.1
  refine good_if (fun _ => good_l) (fun hb => ?_)
  rcases caseH b with h | ⟨j, hj, rfl⟩
  · exact absurd (Or.inl h) hb
  rcases caseS (n := n) (by omega) a with h | ⟨s, hs, rfl⟩
  · exact absurd (Or.inr h) hb
  rw [cl_nI (by omega), cl_nI (by omega)]
  refine good_if (fun _ => good_l) (fun hR => good_if (fun _ => good_if (fun _ => good_l) (fun hne => good_if (fun _ => good_if (fun _ => good_l) (fun h2w => ?_)) (fun _ => good_l))) (fun _ => good_l))
  obtain ⟨y, y1, y2, rfl⟩ := in_R hR
  obtain ⟨o, w, k, t, u, z, b, h0, h1, h2, h3, h4, h5, h6, b0, b1, b2, b3, b4, b5, b6, b7, b8⟩ := H.2.2.1 s hs
  rw [h0] at hne
  have hne := ne_in hne
  have hw2 := H.2.2.2.2.2.1 j hj
  rw [mWr_nat] at h2w
  have h2w := ne_in h2w
  have G : IV n (vup (vup V (30 + 8 * s + 6) (nI (j + 1))) (30 + 8 * s + 5) (nI y)) (B + 30) := by
    refine (H.mono (by omega)).stub hs (fun i hi => Or.inl ((updJ (by omega)).trans (updJ (by omega)))) (fun i hi z f hf => (updJ (by omega)).trans (updJ (by omega))) ⟨o, w, k, t, u, y, j + 1, (updJ (by omega)).trans ((updJ (by omega)).trans h0), (updJ (by omega)).trans ((updJ (by omega)).trans h1), (updJ (by omega)).trans ((updJ (by omega)).trans h2), (updJ (by omega)).trans ((updJ (by omega)).trans h3), (updJ (by omega)).trans ((updJ (by omega)).trans h4), updE, (updJ (by omega)).trans updE, b0, b1, b2, b3, b4, by omega, by omega, b7, by omega⟩ ((updJ (by omega)).trans (updJ (by omega))) (fun h hh => ?_)
    by_cases q : h = j
    · right; rw [q]; omega
    · left
      have e : vup (vup V (30 + 8 * s + 6) (nI (j + 1))) (30 + 8 * s + 5) (nI y) (30 + 8 * s + 6) = nI (j + 1) := (updJ (by omega)).trans updE
      have : wrc h (vup (vup V (30 + 8 * s + 6) (nI (j + 1))) (30 + 8 * s + 5) (nI y)) s = 0 := by
        unfold wrc
        rw [e, if_neg (fun z => q (by have := nI_inj (by omega) (by omega) z; omega))]
      omega
  exact good_s G (mWrits_pos G)
theorem mP_nat {n B : Nat} {V : Nat → Int32} (H : IV n V B) : mPooled V = nI (sN6 6 (poc V)) := sumN_nI 6 (fun h hh => by
  obtain ⟨o, e, s, p, h0, h1, h2, h3, b1, b2, b3, b4⟩ := H.2.2.2.1 h hh
  unfold poc
  rw [h3, cl_nI (by omega)])
theorem mP_pos {n B : Nat} {V : Nat → Int32} (H : IV n V B) (hB : B ≤ 100000) : 0 ≤ mPooled V := by
  have := st_le H (h := 0) (by decide)
  rw [mP_nat H]
  exact nI_pos' (by omega)
theorem good_P {n B : Nat} {V : Nat → Int32} {a x : Int32} (H : IV n V B) (hB : B ≤ 90000) : good (oP n V a x) (B + 30) := by
  have H0 := H
  have h12 := H.2.1
  refine good_if (fun _ => good_l) (fun hb => ?_)
  rcases caseS (n := n) (by omega) a with h | ⟨s, hs, rfl⟩
  · exact absurd h hb
  rw [cl_nI (by omega)]
  obtain ⟨a1, a2, a3, a4, ⟨h, hh, ho⟩, a6, a7, a8⟩ := H
  obtain ⟨o, w, k, t, u, z, b, h0, h1, h2, h3, h4, h5, h6, b0, b1, b2, b3, b4, b5, b6, b7, b8⟩ := a3 s hs
  rw [h0, cl_nI (by omega)]
  refine good_if (fun _ => good_l) (fun hR => good_if (fun hle => ?_) (fun _ => good_l))
  obtain ⟨y, y1, y2, rfl⟩ := in_R hR
  rw [h1] at hle ⊢
  have hle := (nle (by omega) (by omega)).mp hle
  obtain ⟨oo, e, ss, p, q0, q1, q2, q3, c1, c2, c3, c4⟩ := a4 o b0
  have hpB := (st_le H0 b0).2.1
  have epp : poc V o = p := by unfold poc; rw [q3, cl_nI (by omega)]
  rw [q3, nI_add, nI_sub hle]
  generalize hW : vup (vup V (6 + 4 * o + 3) (nI (p + y))) (30 + 8 * s + 1) (nI (w - y)) = W
  have ew : W (30 + 8 * s + 1) = nI (w - y) := by rw [← hW, updE]
  have el : ∀ j, j ≠ 30 + 8 * s + 1 → j ≠ 6 + 4 * o + 3 → W j = V j := fun j z1 z2 => by rw [← hW, updJ z1, updJ z2]
  have ep : W (6 + 4 * o + 3) = nI (p + y) := by rw [← hW, updJ (by omega), updE]
  have e2 : ∀ i, i < n → i ≠ s → ∀ f, f < 8 → W (30 + 8 * i + f) = V (30 + 8 * i + f) := fun i hi z f hf => el _ (by omega) (by omega)
  have sm : SM n W = SM n V := by
    have c := wx_set (V := V) (W := W) hs e2
    have q1 : wxc V s = w := by unfold wxc; rw [h1, cl_nI (by omega)]
    have q2 : wxc W s = w - y := by unfold wxc; rw [ew, cl_nI (by omega)]
    have c2 := sN6_h (f := poc) (V := V) (W := W) (j := o) (fun i hi => by unfold poc; rw [el _ (by omega) (by omega)]) 6 b0
    have q3 : poc W o = p + y := by unfold poc; rw [ep, cl_nI (by omega)]
    have c3 : sN6 6 (stc W) = sN6 6 (stc V) := sN6_congr 6 (fun i hi => by unfold stc; rw [el _ (by omega) (by omega)])
    unfold SM
    omega
  have G : IV n W (B + 30) := by
    refine (H0.mono (by omega)).stubG hs (el _ (by omega) (by omega)) e2 ⟨o, w - y, k, t, u, z, b, (el _ (by omega) (by omega)).trans h0, ew, (el _ (by omega) (by omega)).trans h2, (el _ (by omega) (by omega)).trans h3, (el _ (by omega) (by omega)).trans h4, (el _ (by omega) (by omega)).trans h5, (el _ (by omega) (by omega)).trans h6, b0, by omega, b2, b3, b4, b5, b6, b7, b8⟩ (fun i hi => ?_) ⟨h, hh, (el _ (by omega) (by omega)).trans ho⟩ (fun i hi => Nat.le_of_eq (wrc_same (el _ (by omega) (by omega)))) ?_ (by omega)
    · by_cases g : i = o
      · rw [g]; exact ⟨oo, e, ss, p + y, (el _ (by omega) (by omega)).trans q0, (el _ (by omega) (by omega)).trans q1, (el _ (by omega) (by omega)).trans q2, ep, c1, c2, c3, by omega⟩
      · exact (a4 i hi).cg (fun f hf => el _ (by omega) (by omega))
    · rw [sm, el 1 (by omega) (by omega), el 2 (by omega) (by omega)]; exact a7
  refine good_if (fun e3 => ?_) (fun _ => good_s G (mP_pos G (by omega)))
  have G2 := G.goes hs (by rw [ew]; have := nI_inj (by omega) (by omega) e3; rw [this, Nat.sub_self])
  exact good_s G2 (mP_pos G2 (by omega))
theorem good_H {n B : Nat} {V : Nat → Int32} {a b : Int32} (H : IV n V B) : good (oH V a b) (B + 30) := by
  refine good_if (fun _ => good_l) (fun hb => ?_)
  rcases caseH a with h | ⟨j, hj, rfl⟩
  · exact absurd (Or.inl h) hb
  rcases caseH b with h | ⟨i, hi, rfl⟩
  · exact absurd (Or.inr h) hb
  rw [cl_nI (by omega), cl_nI (by omega)]
  refine good_if (fun _ => good_l) (fun _ => ?_)
  obtain ⟨a1, a2, a3, a4, ⟨h, hh, ho⟩, a6, a7, a8⟩ := H
  obtain ⟨o, e, s, p, h0, h1, h2, h3, b1, b2, b3, b4⟩ := a4 j hj
  have sm : SM n (vup V (6 + 4 * j + 1) (nI i)) = SM n V := by
    have s1 : sN6 n (wxc (vup V (6 + 4 * j + 1) (nI i))) = sN6 n (wxc V) := sN6_same loc_wx (fun k hk f hf => updJ (by omega))
    have s2 : sN6 6 (stc (vup V (6 + 4 * j + 1) (nI i))) = sN6 6 (stc V) := sN6_congr 6 (fun k hk => st_up (by omega))
    have s3 : sN6 6 (poc (vup V (6 + 4 * j + 1) (nI i))) = sN6 6 (poc V) := sN6_congr 6 (fun k hk => po_up (by omega))
    unfold SM; omega
  have G : IV n (vup V (6 + 4 * j + 1) (nI i)) (B + 30) := by
    refine ⟨(updJ (by omega)).trans a1, a2, fun s hs => (a3 s hs).cg (fun f hf => updJ (by omega)), fun k hk => ?_, ⟨h, hh, (updJ (by omega)).trans ho⟩, fun k hk => by rw [sN6_same loc_wr (V := V) (fun k hk f hf => updJ (by omega))]; exact a6 k hk, by rw [sm, updJ (by omega), updJ (by omega)]; exact a7, by omega⟩
    by_cases z : k = j
    · rw [z]; exact ⟨o, i, s, p, (updJ (by omega)).trans h0, updE, (updJ (by omega)).trans h2, (updJ (by omega)).trans h3, b1, hi, b3, b4⟩
    · exact (a4 k hk).upo z (by decide)
  rw [h1]
  exact good_s G (nI_pos' (by omega))
theorem IV.pa {n B i : Nat} {V W : Nat → Int32} {x : Int32} (H : IV n W B) (hi : i < n) (hx : ∃ y, y ≤ 24 ∧ x = nI y) : IV n (vPa x i W) B := by
  obtain ⟨y, hy, rfl⟩ := hx
  obtain ⟨o, w, k, t, u, z, b, h0, h1, h2, h3, h4, h5, h6, b0, b1, b2, b3, b4, b5, b6, b7, b8⟩ := H.2.2.1 i hi
  rw [vPa_eq]
  by_cases g : W (30 + 8 * i + 6) = 0
  · rw [ifp_t g]; exact H
  · rw [ifp_f g]
    by_cases g2 : W (30 + 8 * i + 5) ≤ nI y
    · rw [ifp_t g2]
      refine H.stub hi (fun j hj => Or.inl ((updJ (by omega)).trans (updJ (by omega)))) (fun j hj z f hf => (updJ (by omega)).trans (updJ (by omega))) ⟨o, w, k, t, u, 0, 0, (updJ (by omega)).trans ((updJ (by omega)).trans h0), (updJ (by omega)).trans ((updJ (by omega)).trans h1), (updJ (by omega)).trans ((updJ (by omega)).trans h2), (updJ (by omega)).trans ((updJ (by omega)).trans h3), (updJ (by omega)).trans ((updJ (by omega)).trans h4), (updJ (by omega)).trans updE, updE, b0, b1, b2, b3, b4, by omega, by omega, b7, by omega⟩ ((updJ (by omega)).trans (updJ (by omega))) (fun h hh => Or.inl ?_)
      have : wrc h (vup (vup W (30 + 8 * i + 5) (nI 0)) (30 + 8 * i + 6) (nI 0)) i = 0 := by
        unfold wrc
        rw [updE, if_neg (fun z => by have := nI_inj (by omega) (by omega) z; omega)]
      omega
    · rw [ifp_f g2, vup_id (j := 30 + 8 * i + 6) (updJ (by omega))]
      rw [h5] at g2 ⊢
      have g2 := Nat.not_le.mp (fun q => g2 ((nle (by omega) (by omega)).mpr q))
      rw [nI_sub (by omega)]
      exact H.stub hi (fun j hj => Or.inl (updJ (by omega))) (fun j hj z f hf => updJ (by omega)) ⟨o, w, k, t, u, z - y, b, (updJ (by omega)).trans h0, (updJ (by omega)).trans h1, (updJ (by omega)).trans h2, (updJ (by omega)).trans h3, (updJ (by omega)).trans h4, updE, (updJ (by omega)).trans h6, b0, b1, b2, b3, b4, by omega, b6, b7, b8⟩ (updJ (by omega)) (fun h hh => Or.inl (Nat.le_of_eq (wrc_same (updJ (by omega)))))
theorem IV.hrs {n B : Nat} {V : Nat → Int32} {x : Int32} (H : IV n V B) : IV n (vup V 5 x) B := by
  obtain ⟨a1, a2, a3, a4, ⟨h, hh, ho⟩, a6, a7, a8⟩ := H
  refine ⟨(updJ (by omega)).trans a1, a2, fun s hs => (a3 s hs).cg (fun f hf => updJ (by omega)), fun k hk => (a4 k hk).cg (fun f hf => updJ (by omega)), ⟨h, hh, (updJ (by omega)).trans ho⟩, fun k hk => by rw [sN6_same loc_wr (V := V) (fun k hk f hf => updJ (by omega))]; exact a6 k hk, by rw [SM_lo (by decide), updJ (by decide), updJ (by decide)]; exact a7, by rw [SM_lo (by decide)]; exact a8⟩
theorem good_T {n B : Nat} {V : Nat → Int32} {x : Int32} (H : IV n V B) : good (vPasses n V x) (B + 30) := by
  refine good_if (fun _ => good_l) (fun hR => ?_)
  obtain ⟨y, y1, y2, rfl⟩ := in_R hR
  have K : ∀ i, i ≤ n → IV n (itr (vPa (nI y)) i V) B := by
    intro i
    induction i with
    | zero => intro _; exact H
    | succ i ih => intro hi; exact IV.pa (V := V) (ih (by omega)) (by omega) ⟨y, y2, rfl⟩
  refine good_s ((K n (Nat.le_refl _)).mono (by omega)).hrs (cnt_nat (fun s _ => ?_) H.2.1)
  by_cases z : V (30 + 8 * s + 6) = 0
  · exact Or.inl (ifp_t z)
  · by_cases z2 : V (30 + 8 * s + 5) ≤ nI y
    · exact Or.inr ((ifp_f z).trans (ifp_t z2))
    · exact Or.inl ((ifp_f z).trans (ifp_f z2))
/-- pool and claims as numbers -/
theorem IV.shD {n B : Nat} {V : Nat → Int32} (H : IV n V B) (hB : B ≤ 20000) : ∃ c, shD n V (sN6 6 (poc V)) c := by
  have hb := st_le H (h := 0) (by decide)
  have hcl : ∀ h, h < 6 → ∃ c, mClaim n V h = nI c ∧ c ≤ poc V h + 1080 := by
    intro h hh
    obtain ⟨o, e, s, p, h0, h1, h2, h3, b1, b2, b3, b4⟩ := H.2.2.2.1 h hh
    obtain ⟨e2, l2⟩ := mOwed_nat (h := h) (fun s hs => (H.2.2.1 s hs).ow) H.2.1
    have epp : poc V h = p := by unfold poc; rw [h3, cl_nI (by omega)]
    unfold mClaim
    by_cases z : vOpen V h
    · rw [ifp_t z, h3, e2, nI_add]; exact ⟨_, rfl, by omega⟩
    · rw [ifp_f z]; exact ⟨0, rfl, by omega⟩
  have hc0 := hcl 0 (by decide)
  have hc1 := hcl 1 (by decide)
  have hc2 := hcl 2 (by decide)
  have hc3 := hcl 3 (by decide)
  have hc4 := hcl 4 (by decide)
  have hc5 := hcl 5 (by decide)
  obtain ⟨c0, e0, l0⟩ := hc0
  obtain ⟨c1, e1, l1⟩ := hc1
  obtain ⟨c2, e2, l2⟩ := hc2
  obtain ⟨c3, e3, l3⟩ := hc3
  obtain ⟨c4, e4, l4⟩ := hc4
  obtain ⟨c5, e5, l5⟩ := hc5
  have hP : sN6 6 (poc V) = poc V 0 + poc V 1 + poc V 2 + poc V 3 + poc V 4 + poc V 5 := by simp only [sN6, Nat.zero_add]
  let c : Nat → Nat := fun h => if h = 0 then c0 else if h = 1 then c1 else if h = 2 then c2 else if h = 3 then c3 else if h = 4 then c4 else c5
  have hC : sN6 6 c = c0 + c1 + c2 + c3 + c4 + c5 := by simp only [sN6, Nat.zero_add]; rfl
  have hC2 : sN6 6 c ≤ 26480 := by omega
  refine ⟨c, mP_nat H, fun h hh => ?_, ?_, by omega, by omega⟩
  · rcases (by omega : h = 0 ∨ h = 1 ∨ h = 2 ∨ h = 3 ∨ h = 4 ∨ h = 5) with e | e | e | e | e | e <;> subst e
    · exact e0
    · exact e1
    · exact e2
    · exact e3
    · exact e4
    · exact e5
  · have : sN6 6 (poc V) * sN6 6 c ≤ 20000 * 26480 := Nat.mul_le_mul (by omega) hC2
    omega
theorem good_D {n B : Nat} {V : Nat → Int32} (H : IV n V B) (hB : B ≤ 20000) : good (vShares n V) (B + 30) := by
  have H0 := H
  refine good_if (fun _ => good_l) (fun _ => good_if (fun _ => good_l) (fun hA => ?_))
  obtain ⟨c, hD⟩ := H.shD hB
  obtain ⟨z, hz1, hz2⟩ := hD.sum (hD.zero hA)
  obtain ⟨a1, a2, a3, a4, ⟨h, hh, ho⟩, a6, a7, a8⟩ := H
  generalize hW : itr (vSh (vParts n V)) 6 V = W
  have el : ∀ j, (∀ h, h < 6 → j ≠ 6 + 4 * h + 2 ∧ j ≠ 6 + 4 * h + 3) → W j = V j := fun j hj => by rw [← hW]; exact Sh_lo 6 hj
  have es : ∀ h, h < 6 → W (6 + 4 * h + 2) = nI (stc V h + z h) := fun h hh => by
    obtain ⟨o, e, s, p, h0, h1, h2, h3, b1, b2, b3, b4⟩ := a4 h hh
    rw [← hW, Sh_s 6 hh, hz1 h hh, h2]
    unfold stc
    rw [h2, cl_nI (by omega), nI_add]
  have ep : ∀ h, h < 6 → W (6 + 4 * h + 3) = nI 0 := fun h hh => by rw [← hW]; exact Sh_p 6 hh
  have hzl : ∀ h, h < 6 → z h ≤ B := fun h hh => by
    have := c_le (c := z) hh
    have := (st_le H0 hh).2.2.1
    omega
  have s1 : sN6 n (wxc W) = sN6 n (wxc V) := sN6_same loc_wx (fun i hi f hf => el _ (fun h hh => ⟨by omega, by omega⟩))
  have s2 : sN6 6 (stc W) = sN6 6 (fun h => stc V h + z h) := sN6_congr 6 (fun i hi => by
    have := st_le H0 hi
    have := hzl i hi
    show cl (W (6 + 4 * i + 2)) = _
    rw [es i hi, cl_nI (by omega)])
  have s3 : sN6 6 (poc W) = 0 := by
    have : sN6 6 (poc W) = sN6 6 (fun _ => 0) := sN6_congr 6 (fun i hi => by unfold poc; rw [ep i hi]; rfl)
    rw [this]; rfl
  have s4 : sN6 6 (fun h => stc V h + z h) = sN6 6 (stc V) + sN6 6 z := by simp only [sN6]; omega
  have sm : SM n W = SM n V := by unfold SM; rw [s1, s2, s3, s4, hz2]; omega
  have G : IV n W (B + 30) := by
    refine ⟨(el 0 (fun h hh => ⟨by omega, by omega⟩)).trans a1, a2, fun s hs => (a3 s hs).cg (fun f hf => el _ (fun h hh => ⟨by omega, by omega⟩)), fun k hk => ?_, ⟨h, hh, (el _ (fun h hh => ⟨by omega, by omega⟩)).trans ho⟩, fun k hk => by rw [sN6_same loc_wr (V := V) (fun k hk f hf => el _ (fun h hh => ⟨by omega, by omega⟩))]; exact a6 k hk, by rw [sm, el 1 (fun h hh => ⟨by omega, by omega⟩), el 2 (fun h hh => ⟨by omega, by omega⟩)]; exact a7, by omega⟩
    obtain ⟨o, e, s, p, h0, h1, h2, h3, b1, b2, b3, b4⟩ := a4 k hk
    have := st_le H0 hk
    have := hzl k hk
    exact ⟨o, e, stc V k + z k, 0, (el _ (fun h hh => ⟨by omega, by omega⟩)).trans h0, (el _ (fun h hh => ⟨by omega, by omega⟩)).trans h1, es k hk, ep k hk, b1, b2, by omega, by omega⟩
  refine good_s G (cnt_nat (n := 6) (fun s _ => ?_) (by decide))
  by_cases z : vParts n V s ≤ 0
  · exact Or.inl (ifp_t z)
  · exact Or.inr (ifp_f z)
