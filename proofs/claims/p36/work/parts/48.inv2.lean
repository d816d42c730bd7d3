/-! the changes keep it -/
def good (o : Out) (B : Nat) : Prop := match o with
  | .inl _ => True
  | .inr (a, V2) => IV (cl (V2 0)) V2 B ∧ 0 ≤ a
theorem good_if {p : Prop} {a b : Out} {B : Nat} (h1 : p → good a B) (h2 : ¬ p → good b B) : good (ifp p a b) B := by
  by_cases h : p
  · rw [ifp_t h]; exact h1 h
  · rw [ifp_f h]; exact h2 h
theorem good_l {x : Int32 × List (Int32 × Int32)} {B : Nat} : good (.inl x) B := trivial
theorem good_s {a : Int32} {V2 : Nat → Int32} {m B : Nat} (H : IV m V2 B) (ha : 0 ≤ a) : good (.inr (a, V2)) B := by
  have h12 := H.2.1
  refine ⟨?_, ha⟩
  rw [H.1, cl_nI (by omega)]; exact H
theorem good_r {o : Out} {a : Int32} {V2 : Nat → Int32} {B : Nat} (H : good o B) (e : o = .inr (a, V2)) : IV (cl (V2 0)) V2 B ∧ 0 ≤ a := by subst e; exact H
theorem st_le {V : Nat → Int32} {n B h : Nat} (H : IV n V B) (hh : h < 6) : stc V h ≤ B ∧ poc V h ≤ B ∧ sN6 6 (poc V) ≤ B ∧ sN6 6 (stc V) ≤ B := by
  have a := c_le (c := stc V) hh
  have b := c_le (c := poc V) hh
  have c := H.2.2.2.2.2.2.2
  unfold SM at c
  omega
theorem IV.stubG {n B s : Nat} {V W : Nat → Int32} (H : IV n V B) (hs : s < n) (e0 : W 0 = V 0) (e2 : ∀ i, i < n → i ≠ s → ∀ f, f < 8 → W (30 + 8 * i + f) = V (30 + 8 * i + f)) (hst : stI W s) (hho : ∀ h, h < 6 → hoI W h) (hop : ∃ h, h < 6 ∧ vOpen W h) (hr : ∀ h, h < 6 → wrc h W s ≤ wrc h V s) (hsm : W 1 = nI (SM n W) + W 2) (hB : SM n W ≤ B) : IV n W B := by
  obtain ⟨a1, a2, a3, a4, a5, a6, a7, a8⟩ := H
  refine ⟨e0.trans a1, a2, fun i hi => ?_, hho, hop, fun i hi => ?_, hsm, hB⟩
  · by_cases z : i = s
    · rw [z]; exact hst
    · exact (a3 i hi).cg (fun f hf => e2 i hi z f (by omega))
  · have : sN6 n (wrc i W) ≤ sN6 n (wrc i V) := sN6_le n (fun k hk => by
      by_cases z : k = s
      · rw [z]; exact hr i hi
      · rw [loc_wr W V k k (fun f hf => e2 k hk z f hf)]; exact Nat.le_refl _)
    exact Nat.le_trans this (a6 i hi)
theorem wx_set {n s : Nat} {V W : Nat → Int32} (hs : s < n) (e2 : ∀ i, i < n → i ≠ s → ∀ f, f < 8 → W (30 + 8 * i + f) = V (30 + 8 * i + f)) : sN6 n (wxc W) + wxc V s = sN6 n (wxc V) + wxc W s := by
  have h1 := sN6_set loc_wx (V := V) (W := fun j => if j < 30 + 8 * n then W j else V j) (s := s) (fun i hi f hf => by
    by_cases z : i < n
    · show (if 30 + 8 * i + f < 30 + 8 * n then _ else _) = _
      rw [if_pos (by omega)]; exact e2 i z hi f hf
    · show (if 30 + 8 * i + f < 30 + 8 * n then _ else _) = _
      rw [if_neg (by omega)]) n hs
  have h2 := sN6_same loc_wx (V := W) (W := fun j => if j < 30 + 8 * n then W j else V j) (n := n) (fun i hi f hf => if_pos (by omega))
  have h3 : wxc (fun j => if j < 30 + 8 * n then W j else V j) s = wxc W s := loc_wx _ _ _ _ (fun f hf => if_pos (by omega))
  omega
theorem vMk_ge {V : Nat → Int32} {n : Nat} {h w k : Int32} : vMk V n h w k (30 + 8 * n + 3) = nI 0 ∧ vMk V n h w k (30 + 8 * n + 4) = nI 0 ∧ vMk V n h w k (30 + 8 * n + 5) = nI 0 ∧ vMk V n h w k (30 + 8 * n + 6) = nI 0 := ⟨vMk_hi (by omega) (by omega), vMk_hi (by omega) (by omega), vMk_hi (by omega) (by omega), vMk_hi (by omega) (by omega)⟩
theorem IV.mk {n B j w k : Nat} {W : Nat → Int32} (hn : n < 12) (a3 : ∀ s, s < n → stI W s) (a4 : ∀ h, h < 6 → hoI W h) (a5 : ∃ h, h < 6 ∧ vOpen W h) (a6 : ∀ h, h < 6 → sN6 n (wrc h W) ≤ 2) (a7 : W 1 = nI (SM n W + w) + W 2) (a8 : SM n W + w ≤ B) (hj : j < 6) (hw : w ≤ 30) (hk : k ≤ 9) : IV (n + 1) (vMk W n (nI j) (nI w) (nI k)) B := by
  have lo : ∀ i, 0 < i → i < 30 + 8 * n → vMk W n (nI j) (nI w) (nI k) i = W i := fun i h0 h => vMk_lo h h0
  have g := @vMk_ge W n (nI j) (nI w) (nI k)
  have s1 : sN6 (n + 1) (wxc (vMk W n (nI j) (nI w) (nI k))) = sN6 n (wxc W) + w := by
    rw [sN6, sN6_same loc_wx (V := W) (fun i hi f hf => lo _ (by omega) (by omega))]
    congr 1
    unfold wxc
    rw [vMk_b, cl_nI (by omega)]
  have s2 : sN6 6 (stc (vMk W n (nI j) (nI w) (nI k))) = sN6 6 (stc W) := sN6_congr 6 (fun i hi => by unfold stc; rw [lo _ (by omega) (by omega)])
  have s3 : sN6 6 (poc (vMk W n (nI j) (nI w) (nI k))) = sN6 6 (poc W) := sN6_congr 6 (fun i hi => by unfold poc; rw [lo _ (by omega) (by omega)])
  have sm : SM (n + 1) (vMk W n (nI j) (nI w) (nI k)) = SM n W + w := by unfold SM; rw [s1, s2, s3]; omega
  obtain ⟨h, hh, ho⟩ := a5
  refine ⟨vMk_0, by omega, fun i hi => ?_, fun i hi => (a4 i hi).cg (fun f hf => lo _ (by omega) (by omega)), ⟨h, hh, (lo _ (by omega) (by omega)).trans ho⟩, fun i hi => ?_, ?_, by rw [sm]; exact a8⟩
  · by_cases z : i = n
    · subst z
      exact ⟨j, w, k, 0, 0, 0, 0, vMk_a, vMk_b, vMk_c, g.1, g.2.1, g.2.2.1, g.2.2.2, hj, hw, hk, by omega, by omega, by omega, by omega, by omega, by omega⟩
    · exact (a3 i (by omega)).cg (fun f hf => lo _ (by omega) (by omega))
  · rw [sN6, sN6_same loc_wr (V := W) (fun k hk f hf => lo _ (by omega) (by omega))]
    have e : wrc i (vMk W n (nI j) (nI w) (nI k)) n = 0 := by
      unfold wrc
      rw [g.2.2.2, if_neg (fun z => by have := nI_inj (by omega) (by omega) z; omega)]
    have := a6 i hi
    omega
  · rw [sm, lo 1 (by decide) (by omega), lo 2 (by decide) (by omega)]; exact a7
theorem add_lr {a b c : Int32} : a + b + c = a + c + b := add_rc
theorem good_Makes {n B j w k : Nat} {W : Nat → Int32} (hn : n ≤ 12) (a3 : ∀ s, s < n → stI W s) (a4 : ∀ h, h < 6 → hoI W h) (a5 : ∃ h, h < 6 ∧ vOpen W h) (a6 : ∀ h, h < 6 → sN6 n (wrc h W) ≤ 2) (a7 : W 1 = nI (SM n W + w) + W 2) (a8 : SM n W + w ≤ B) (hj : j < 6) (hw : w ≤ 30) (hk : k ≤ 9) : good (vMakes n W (nI j) (nI w) (nI k)) B :=
  good_if (fun _ => good_if (fun _ => good_l) (fun h => good_s (IV.mk (by omega) a3 a4 a5 a6 a7 a8 hj hw hk) (nI_pos' (by omega)))) (fun _ => good_l)
theorem SM_lo {n j : Nat} {V : Nat → Int32} {x : Int32} (h : j < 6) : SM n (vup V j x) = SM n V := by
  unfold SM
  rw [sN6_same loc_wx (V := V) (fun i hi f hf => updJ (by omega)), sN6_congr 6 (fun i hi => st_up (i := i) (by omega)), sN6_congr 6 (fun i hi => po_up (i := i) (by omega))]
theorem good_S {n B : Nat} {V : Nat → Int32} {a w k : Int32} (H : IV n V B) : good (oS n V a w k) (B + 30) := by
  obtain ⟨a1, a2, a3, a4, a5, a6, a7, a8⟩ := H
  refine good_if (fun _ => good_l) (fun hb => ?_)
  rcases caseH a with h | ⟨j, hj, rfl⟩
  · exact absurd h hb
  rw [cl_nI (by omega)]
  refine good_if (fun _ => good_l) (fun hM => good_if (fun _ => ?_) (fun _ => good_l))
  obtain ⟨w, w1, w2, rfl⟩ := in_R (fun q => hM (Or.inl q))
  obtain ⟨k, k1, k2, rfl⟩ := in_R (fun q => hM (Or.inr q))
  obtain ⟨h, hh, ho⟩ := a5
  refine good_Makes a2 (fun s hs => (a3 s hs).cg (fun f hf => updJ (by omega))) (fun i hi => (a4 i hi).cg (fun f hf => updJ (by omega))) ⟨h, hh, (updJ (by omega)).trans ho⟩ (fun i hi => by rw [sN6_same loc_wr (V := V) (fun k hk f hf => updJ (by omega))]; exact a6 i hi) ?_ ?_ hj w2 k2
  · rw [SM_lo (by decide), updE, updJ (by decide), a7, ← nI_add]; exact add_rc
  · rw [SM_lo (by decide)]; omega
theorem hoI.up2 {V : Nat → Int32} {j y : Nat} (H : hoI V j) (hy : y < 1073741824) : hoI (vup V (6 + 4 * j + 2) (nI y)) j := by
  obtain ⟨o, e, s, p, h0, h1, h2, h3, b1, b2, b3, b4⟩ := H
  exact ⟨o, e, y, p, (updJ (by omega)).trans h0, (updJ (by omega)).trans h1, updE, (updJ (by omega)).trans h3, b1, b2, hy, b4⟩
theorem hoI.up3 {V : Nat → Int32} {j y : Nat} (H : hoI V j) (hy : y < 1073741824) : hoI (vup V (6 + 4 * j + 3) (nI y)) j := by
  obtain ⟨o, e, s, p, h0, h1, h2, h3, b1, b2, b3, b4⟩ := H
  exact ⟨o, e, s, y, (updJ (by omega)).trans h0, (updJ (by omega)).trans h1, (updJ (by omega)).trans h2, updE, b1, b2, b3, hy⟩
theorem hoI.upo {V : Nat → Int32} {i j f : Nat} {x : Int32} (H : hoI V i) (h : i ≠ j) (hf : f < 4) : hoI (vup V (6 + 4 * j + f) x) i := H.cg (fun g hg => updJ (by omega))
theorem good_M {n B : Nat} {V : Nat → Int32} {a w k : Int32} (H : IV n V B) : good (oM n V a w k) (B + 30) := by
  obtain ⟨a1, a2, a3, a4, a5, a6, a7, a8⟩ := H
  refine good_if (fun _ => good_l) (fun hb => ?_)
  rcases caseH a with h | ⟨j, hj, rfl⟩
  · exact absurd h hb
  rw [cl_nI (by omega)]
  refine good_if (fun _ => good_l) (fun hM => good_if (fun _ => good_if (fun hle => ?_) (fun _ => good_l)) (fun _ => good_l))
  obtain ⟨w, w1, w2, rfl⟩ := in_R (fun q => hM (Or.inl q))
  obtain ⟨k, k1, k2, rfl⟩ := in_R (fun q => hM (Or.inr q))
  obtain ⟨h, hh, ho⟩ := a5
  obtain ⟨o, e, s, p, h0, h1, h2, h3, b1, b2, b3, b4⟩ := a4 j hj
  rw [h2] at hle ⊢
  have hle := (nle (by omega) (by omega)).mp hle
  rw [nI_sub hle]
  have es : stc V j = s := by unfold stc; rw [h2, cl_nI (by omega)]
  have s2 : sN6 6 (stc (vup V (6 + 4 * j + 2) (nI (s - w)))) + w = sN6 6 (stc V) := by
    have := sN6_h (f := stc) (V := V) (W := vup V (6 + 4 * j + 2) (nI (s - w))) (j := j) (fun i hi => st_up (by omega)) 6 hj
    have e2 : stc (vup V (6 + 4 * j + 2) (nI (s - w))) j = s - w := by unfold stc; rw [updE, cl_nI (by omega)]
    omega
  have sm : SM n (vup V (6 + 4 * j + 2) (nI (s - w))) + w = SM n V := by
    have s1 : sN6 n (wxc (vup V (6 + 4 * j + 2) (nI (s - w)))) = sN6 n (wxc V) := sN6_same loc_wx (fun i hi f hf => updJ (by omega))
    have s3 : sN6 6 (poc (vup V (6 + 4 * j + 2) (nI (s - w)))) = sN6 6 (poc V) := sN6_congr 6 (fun i hi => po_up (by omega))
    unfold SM
    omega
  refine good_Makes a2 (fun s hs => (a3 s hs).cg (fun f hf => updJ (by omega))) (fun i hi => ?_) ⟨h, hh, (updJ (by omega)).trans ho⟩ (fun i hi => by rw [sN6_same loc_wr (V := V) (fun k hk f hf => updJ (by omega))]; exact a6 i hi) ?_ ?_ hj w2 k2
  · by_cases z : i = j
    · rw [z]; exact (a4 j hj).up2 (by omega)
    · exact (a4 i hi).upo z (by decide)
  · rw [sm, updJ (by omega), updJ (by omega)]; exact a7
  · rw [sm]; omega
theorem wrc_same {V W : Nat → Int32} {s h : Nat} (e : W (30 + 8 * s + 6) = V (30 + 8 * s + 6)) : wrc h W s = wrc h V s := by unfold wrc; rw [e]
/-- behind a burning or a pooling: the wax less, the sum as it must be -/
theorem good_go {n B s : Nat} {W : Nat → Int32} {a : Int32} (H : IV n W B) (hs : s < n) (ha : 0 ≤ a) : good (vBurn2 s a W) B := good_if (fun e => good_s (H.goes hs (e.trans nI_0.symm)) ha) (fun _ => good_s H ha)
theorem vB6_at {V : Nat → Int32} {s : Nat} {x l p : Int32} {j : Nat} (h1 : j ≠ 30 + 8 * s + 1) (h2 : j ≠ 2) (h3 : j ≠ 3) (h4 : j ≠ 30 + 8 * s + 7) (h5 : j ≠ 30 + 8 * s + 4) (h6 : j ≠ 4) : vB6 V s x l p j = V j := by rw [vB6_flat, updJ h6, updJ h5, updJ h4, updJ h3, updJ h2, updJ h1]
theorem vB6_2 {V : Nat → Int32} {s : Nat} {x l p : Int32} : vB6 V s x l p 2 = V 2 + x := by rw [vB6_flat, updJ (by omega), updJ (by omega), updJ (by omega), updJ (by omega), updE]
theorem IV.burn {n B s y p : Nat} {V : Nat → Int32} {l : Int32} (H : IV n V B) (hs : s < n) (hy : y ≤ 30) (hle : nI y ≤ V (30 + 8 * s + 1)) (hp : ∀ u, V (30 + 8 * s + 4) = nI u → u ≤ 90 → p ≤ u) : IV n (vB6 V s (nI y) l (nI p)) B := by
  have H0 := H
  obtain ⟨a1, a2, a3, a4, ⟨h, hh, ho⟩, a6, a7, a8⟩ := H
  obtain ⟨o, w, k, t, u, z, b, h0, h1, h2, h3, h4, h5, h6, b0, b1, b2, b3, b4, b5, b6, b7, b8⟩ := a3 s hs
  rw [h1] at hle
  have hle := (nle (by omega) (by omega)).mp hle
  have hpu := hp u h4 b4
  have ew : vB6 V s (nI y) l (nI p) (30 + 8 * s + 1) = nI (w - y) := by rw [vB6_w, h1, nI_sub hle]
  have e2 : ∀ i, i < n → i ≠ s → ∀ f, f < 8 → vB6 V s (nI y) l (nI p) (30 + 8 * i + f) = V (30 + 8 * i + f) := fun i hi z f hf => vB6_at (by omega) (by omega) (by omega) (by omega) (by omega) (by omega)
  have eh : ∀ i, i < 6 → ∀ f, f < 4 → vB6 V s (nI y) l (nI p) (6 + 4 * i + f) = V (6 + 4 * i + f) := fun i hi f hf => vB6_at (by omega) (by omega) (by omega) (by omega) (by omega) (by omega)
  have sm : SM n (vB6 V s (nI y) l (nI p)) + y = SM n V := by
    have := wx_set (V := V) (W := vB6 V s (nI y) l (nI p)) hs e2
    have q1 : wxc V s = w := by unfold wxc; rw [h1, cl_nI (by omega)]
    have q2 : wxc (vB6 V s (nI y) l (nI p)) s = w - y := by unfold wxc; rw [ew, cl_nI (by omega)]
    unfold SM
    rw [sN6_congr (f := stc (vB6 V s (nI y) l (nI p))) (g := stc V) 6 (fun i hi => by unfold stc; rw [eh i hi 2 (by decide)]), sN6_congr (f := poc (vB6 V s (nI y) l (nI p))) (g := poc V) 6 (fun i hi => by unfold poc; rw [eh i hi 3 (by decide)])]
    omega
  refine H0.stubG hs (vB6_at (by omega) (by omega) (by omega) (by omega) (by omega) (by omega)) e2 ?_ (fun i hi => (a4 i hi).cg (eh i hi)) ⟨h, hh, (eh h hh 0 (by decide)).trans ho⟩ (fun i hi => Nat.le_of_eq (wrc_same (vB6_at (by omega) (by omega) (by omega) (by omega) (by omega) (by omega)))) ?_ (by omega)
  · refine ⟨o, w - y, k, t, u - p, z, b, (vB6_at (by omega) (by omega) (by omega) (by omega) (by omega) (by omega)).trans h0, ew, (vB6_at (by omega) (by omega) (by omega) (by omega) (by omega) (by omega)).trans h2, (vB6_at (by omega) (by omega) (by omega) (by omega) (by omega) (by omega)).trans h3, ?_, (vB6_at (by omega) (by omega) (by omega) (by omega) (by omega) (by omega)).trans h5, (vB6_at (by omega) (by omega) (by omega) (by omega) (by omega) (by omega)).trans h6, b0, by omega, b2, b3, by omega, b5, b6, b7, b8⟩
    rw [vB6_o, h4, nI_sub hpu]
  · rw [vB6_at (j := 1) (by omega) (by omega) (by omega) (by omega) (by omega) (by omega), vB6_2, a7, ← sm, ← nI_add, Int32.add_assoc, Int32.add_comm (nI y)]
theorem IV.to0 {n B s : Nat} {V : Nat → Int32} (H : IV n V B) (hs : s < n) : IV n (vup V (30 + 8 * s + 3) (nI 0)) B := by
  have a3 := H.2.2.1 s hs
  obtain ⟨o, w, k, t, u, z, b, h0, h1, h2, h3, h4, h5, h6, b0, b1, b2, b3, b4, b5, b6, b7, b8⟩ := a3
  refine H.stub hs (fun j hj => Or.inl (updJ (by omega))) (fun i hi z f hf => updJ (by omega)) ⟨o, w, k, 0, u, z, b, (updJ (by omega)).trans h0, (updJ (by omega)).trans h1, (updJ (by omega)).trans h2, updE, (updJ (by omega)).trans h4, (updJ (by omega)).trans h5, (updJ (by omega)).trans h6, b0, b1, b2, by omega, b4, b5, b6, by omega, b8⟩ (updJ (by omega)) (fun h hh => Or.inl (Nat.le_of_eq (wrc_same (updJ (by omega)))))
theorem good_B1 {n B s : Nat} {W : Nat → Int32} {a : Int32} (H : IV n W B) (hs : s < n) (ha : 0 ≤ a) : good (vBurn1 s a W) B := good_if (fun _ => good_go (H.to0 hs) hs ha) (fun _ => good_go H hs ha)
theorem good_B {n B : Nat} {V : Nat → Int32} {a x : Int32} (H : IV n V B) : good (oB n V a x) (B + 30) := by
  have h12 := H.2.1
  refine good_if (fun _ => good_l) (fun hb => ?_)
  rcases caseS (n := n) (by omega) a with h | ⟨s, hs, rfl⟩
  · exact absurd h hb
  rw [cl_nI (by omega)]
  refine good_if (fun _ => good_l) (fun hR => good_if (fun _ => good_if (fun hle => ?_) (fun _ => good_l)) (fun _ => good_l))
  obtain ⟨y, y1, y2, rfl⟩ := in_R hR
  obtain ⟨o, w, k, t, u, z, b, h0, h1, h2, h3, h4, h5, h6, b0, b1, b2, b3, b4, b5, b6, b7, b8⟩ := H.2.2.1 s hs
  have hyk : y * k ≤ 30 * 9 := Nat.mul_le_mul y2 b2
  rw [h4, h2, nI_mul]
  have HB := H.mono (show B ≤ B + 30 by omega)
  refine good_if (fun hl => ?_) (fun hl => ?_)
  · exact good_B1 (HB.burn hs y2 hle (fun u2 e2 l2 => by rw [h4] at e2; have := nI_inj (by omega) (by omega) e2; omega)) hs (nI_pos' (by omega))
  · have hl := Nat.not_lt.mp (fun q => hl ((nlt (by omega) (by omega)).mpr q))
    exact good_B1 (HB.burn hs y2 hle (fun u2 e2 l2 => by rw [h4] at e2; have := nI_inj (by omega) (by omega) e2; omega)) hs (nI_pos' (by omega))
