/-! what else holds: an ending -/
def stY (P O : Nat → Prop) (V : Nat → Int32) (s : Nat) : Prop := (∀ j, j < 6 → V (30 + 8 * s + 0) = nI j → P j) ∧ (∀ j, j < 6 → V (30 + 8 * s + 3) = nI (j + 1) → O j) ∧ (∀ j, j < 6 → V (30 + 8 * s + 6) = nI (j + 1) → O j) ∧ (V (30 + 8 * s + 3) = nI 0 ↔ V (30 + 8 * s + 4) = nI 0) ∧ (V (30 + 8 * s + 6) = nI 0 ↔ V (30 + 8 * s + 5) = nI 0) ∧ ¬ V (30 + 8 * s + 1) = nI 0
theorem stY.cg {P O : Nat → Prop} {V W : Nat → Int32} {s r : Nat} (h : stY P O V s) (e : ∀ f, f < 7 → W (30 + 8 * r + f) = V (30 + 8 * s + f)) : stY P O W r := by
  unfold stY
  rw [e 0 (by decide), e 1 (by decide), e 3 (by decide), e 4 (by decide), e 5 (by decide), e 6 (by decide)]
  exact h
def hoY (O : Nat → Prop) (V : Nat → Int32) : Prop := ∀ h, h < 6 → O h ∨ (V (6 + 4 * h + 2) = nI 0 ∧ V (6 + 4 * h + 3) = nI 0)
theorem nzs {x : Nat} (h : x < 6) : ¬ nI (x + 1) = nI 0 := fun e => by have := nI_inj (by omega) (by omega) e; omega
theorem stY.rt {P O : Nat → Prop} {V : Nat → Int32} {h r i : Nat} (H : stY P P V i) (hr : r < 6) (hO : O r) (hPO : ∀ j, j < 6 → P j → j ≠ h → O j) (hh : h < 6) : stY P O (vRt h r i V) i := by
  obtain ⟨a, b, c, d, e, f⟩ := H
  have gen : ∀ W : Nat → Int32, (∀ g, g < 8 → g ≠ 3 → g ≠ 5 → g ≠ 6 → W (30 + 8 * i + g) = V (30 + 8 * i + g)) → ((W (30 + 8 * i + 3) = V (30 + 8 * i + 3) ∧ ¬ V (30 + 8 * i + 3) = nI (h + 1)) ∨ (V (30 + 8 * i + 3) = nI (h + 1) ∧ W (30 + 8 * i + 3) = nI (r + 1))) → ((W (30 + 8 * i + 6) = V (30 + 8 * i + 6) ∧ W (30 + 8 * i + 5) = V (30 + 8 * i + 5) ∧ ¬ V (30 + 8 * i + 6) = nI (h + 1)) ∨ (W (30 + 8 * i + 6) = nI 0 ∧ W (30 + 8 * i + 5) = nI 0)) → stY P O W i := by
    intro W k0 k3 k6
    refine ⟨fun j hj q => a j hj ((k0 0 (by decide) (by decide) (by decide) (by decide)).symm.trans q), fun j hj q => ?_, fun j hj q => ?_, ?_, ?_, fun q => f ((k0 1 (by decide) (by decide) (by decide) (by decide)).symm.trans q)⟩
    · rcases k3 with ⟨z1, z2⟩ | ⟨z1, z2⟩
      · rw [z1] at q
        exact hPO j hj (b j hj q) (fun y => z2 (by rw [q, y]))
      · rw [z2] at q
        have := nI_inj (by omega) (by omega) q
        rw [show j = r by omega]; exact hO
    · rcases k6 with ⟨z1, z2, z3⟩ | ⟨z1, z2⟩
      · rw [z1] at q
        exact hPO j hj (c j hj q) (fun y => z3 (by rw [q, y]))
      · rw [z1] at q
        exact absurd q.symm (nzs hj)
    · rw [k0 4 (by decide) (by decide) (by decide) (by decide)]
      rcases k3 with ⟨z1, z2⟩ | ⟨z1, z2⟩
      · rw [z1]; exact d
      · rw [z2]
        refine ⟨fun q => absurd q (nzs hr), fun q => ?_⟩
        have := d.mpr q
        rw [z1] at this
        exact absurd this (nzs hh)
    · rcases k6 with ⟨z1, z2, z3⟩ | ⟨z1, z2⟩
      · rw [z1, z2]; exact e
      · rw [z1, z2]
  unfold vRt
  by_cases h3 : V (30 + 8 * i + 3) = nI (h + 1)
  · rw [ifp_t h3]
    by_cases h6 : vup V (30 + 8 * i + 3) (nI (r + 1)) (30 + 8 * i + 6) = nI (h + 1)
    · rw [ifp_t h6]
      exact gen _ (fun g x1 x2 x3 x4 => (updJ (by omega)).trans ((updJ (by omega)).trans (updJ (by omega)))) (Or.inr ⟨h3, (updJ (by omega)).trans ((updJ (by omega)).trans updE)⟩) (Or.inr ⟨(updJ (by omega)).trans updE, updE⟩)
    · rw [ifp_f h6]
      rw [updJ (by omega)] at h6
      exact gen _ (fun g x1 x2 x3 x4 => updJ (by omega)) (Or.inr ⟨h3, updE⟩) (Or.inl ⟨updJ (by omega), updJ (by omega), h6⟩)
  · rw [ifp_f h3]
    by_cases h6 : V (30 + 8 * i + 6) = nI (h + 1)
    · rw [ifp_t h6]
      exact gen _ (fun g x1 x2 x3 x4 => (updJ (by omega)).trans (updJ (by omega))) (Or.inl ⟨(updJ (by omega)).trans (updJ (by omega)), h3⟩) (Or.inr ⟨(updJ (by omega)).trans updE, updE⟩)
    · rw [ifp_f h6]
      exact gen _ (fun g x1 x2 x3 x4 => rfl) (Or.inl ⟨rfl, h3⟩) (Or.inl ⟨rfl, rfl, h6⟩)
theorem stY.fr {P O : Nat → Prop} {V : Nat → Int32} {r i : Nat} (H : stY P O V i) (hr : r < 6) : stY P O (vFr1 r i V) i := by
  obtain ⟨a, b, c, d, e, f⟩ := H
  have gen : ∀ W : Nat → Int32, (∀ g, g < 3 → W (30 + 8 * i + g) = V (30 + 8 * i + g)) → ((W (30 + 8 * i + 3) = V (30 + 8 * i + 3) ∧ W (30 + 8 * i + 4) = V (30 + 8 * i + 4)) ∨ (W (30 + 8 * i + 3) = nI 0 ∧ W (30 + 8 * i + 4) = nI 0)) → ((W (30 + 8 * i + 6) = V (30 + 8 * i + 6) ∧ W (30 + 8 * i + 5) = V (30 + 8 * i + 5)) ∨ (W (30 + 8 * i + 6) = nI 0 ∧ W (30 + 8 * i + 5) = nI 0)) → stY P O W i := by
    intro W k0 k3 k6
    refine ⟨fun j hj q => a j hj ((k0 0 (by decide)).symm.trans q), fun j hj q => ?_, fun j hj q => ?_, ?_, ?_, fun q => f ((k0 1 (by decide)).symm.trans q)⟩
    · rcases k3 with ⟨z1, z2⟩ | ⟨z1, z2⟩
      · exact b j hj (z1.symm.trans q)
      · rw [z1] at q; exact absurd q.symm (nzs hj)
    · rcases k6 with ⟨z1, z2⟩ | ⟨z1, z2⟩
      · exact c j hj (z1.symm.trans q)
      · rw [z1] at q; exact absurd q.symm (nzs hj)
    · rcases k3 with ⟨z1, z2⟩ | ⟨z1, z2⟩
      · rw [z1, z2]; exact d
      · rw [z1, z2]
    · rcases k6 with ⟨z1, z2⟩ | ⟨z1, z2⟩
      · rw [z1, z2]; exact e
      · rw [z1, z2]
  rw [vFr1_eq]
  by_cases g0 : V (30 + 8 * i + 0) = nI r
  · rw [ifp_t g0]
    by_cases g : V (30 + 8 * i + 3) = nI (r + 1)
    · rw [ifp_t g]
      by_cases g2 : V (30 + 8 * i + 6) = nI (r + 1)
      · rw [ifp_t g2]
        exact gen _ (fun g x1 => (updJ (by omega)).trans ((updJ (by omega)).trans ((updJ (by omega)).trans (updJ (by omega))))) (Or.inr ⟨(updJ (by omega)).trans ((updJ (by omega)).trans ((updJ (by omega)).trans updE)), (updJ (by omega)).trans ((updJ (by omega)).trans updE)⟩) (Or.inr ⟨(updJ (by omega)).trans updE, updE⟩)
      · rw [ifp_f g2]
        exact gen _ (fun g x1 => (updJ (by omega)).trans (updJ (by omega))) (Or.inr ⟨(updJ (by omega)).trans updE, updE⟩) (Or.inl ⟨(updJ (by omega)).trans (updJ (by omega)), (updJ (by omega)).trans (updJ (by omega))⟩)
    · rw [ifp_f g]
      by_cases g2 : V (30 + 8 * i + 6) = nI (r + 1)
      · rw [ifp_t g2]
        exact gen _ (fun g x1 => (updJ (by omega)).trans (updJ (by omega))) (Or.inl ⟨(updJ (by omega)).trans (updJ (by omega)), (updJ (by omega)).trans (updJ (by omega))⟩) (Or.inr ⟨(updJ (by omega)).trans updE, updE⟩)
      · rw [ifp_f g2]
        exact gen _ (fun g x1 => rfl) (Or.inl ⟨rfl, rfl⟩) (Or.inl ⟨rfl, rfl⟩)
  · rw [ifp_f g0]
    exact gen _ (fun g x1 => rfl) (Or.inl ⟨rfl, rfl⟩) (Or.inl ⟨rfl, rfl⟩)
theorem Rt_7 {i h r : Nat} {W : Nat → Int32} : vRt h r i W (30 + 8 * i + 7) = W (30 + 8 * i + 7) := by
  unfold vRt
  refine own_ifp (own_ifp ((updJ (by omega)).trans ((updJ (by omega)).trans (updJ (by omega)))) (updJ (by omega))) (own_ifp ((updJ (by omega)).trans (updJ (by omega))) rfl)
theorem Fr_027 {i r f : Nat} {W : Nat → Int32} (hf : f < 3 ∨ f = 7) : vFr1 r i W (30 + 8 * i + f) = W (30 + 8 * i + f) := by
  rw [vFr1_eq]
  refine own_ifp (own_ifp (own_ifp ((updJ (by omega)).trans ((updJ (by omega)).trans ((updJ (by omega)).trans (updJ (by omega))))) ((updJ (by omega)).trans (updJ (by omega)))) (own_ifp ((updJ (by omega)).trans (updJ (by omega))) rfl)) rfl
theorem itrFr_f {r f : Nat} {W : Nat → Int32} (hf : f < 3 ∨ f = 7) : ∀ n s, itr (vFr1 r) n W (30 + 8 * s + f) = W (30 + 8 * s + f)
  | 0, _ => rfl
  | n + 1, s => by
    show vFr1 r n (itr (vFr1 r) n W) (30 + 8 * s + f) = _
    by_cases z : s = n
    · rw [z, Fr_027 hf]; exact itrFr_f hf n n
    · rw [own_Fr1 n _ _ (by omega)]; exact itrFr_f hf n s
theorem itrRt_7 {h r : Nat} {W : Nat → Int32} : ∀ n s, itr (vRt h r) n W (30 + 8 * s + 7) = W (30 + 8 * s + 7)
  | 0, _ => rfl
  | n + 1, s => by
    show vRt h r n (itr (vRt h r) n W) (30 + 8 * s + 7) = _
    by_cases z : s = n
    · rw [z, Rt_7]; exact itrRt_7 n n
    · rw [own_Rt n _ _ (by omega)]; exact itrRt_7 n s
theorem itrRt_Y {P O : Nat → Prop} {W : Nat → Int32} {h r : Nat} (hr : r < 6) (hh : h < 6) (hO : O r) (hPO : ∀ j, j < 6 → P j → j ≠ h → O j) : ∀ n, (∀ s, s < n → stY P P W s) → ∀ s, s < n → stY P O (itr (vRt h r) n W) s
  | 0, _ => fun s hs => absurd hs (Nat.not_lt_zero s)
  | n + 1, H => fun s hs => by
    show stY P O (vRt h r n (itr (vRt h r) n W)) s
    by_cases z : s = n
    · rw [z]
      exact stY.rt ((H n (by omega)).cg (fun f hf => itr_hi own_Rt (Or.inl (by omega)))) hr hO hPO hh
    · exact (itrRt_Y hr hh hO hPO n (fun s hs => H s (by omega)) s (by omega)).cg (fun f hf => own_Rt n _ _ (by omega))
theorem itrFr_Y {P O : Nat → Prop} {W : Nat → Int32} {r : Nat} (hr : r < 6) : ∀ n, (∀ s, s < n → stY P O W s) → ∀ s, s < n → stY P O (itr (vFr1 r) n W) s
  | 0, _ => fun s hs => absurd hs (Nat.not_lt_zero s)
  | n + 1, H => fun s hs => by
    show stY P O (vFr1 r n (itr (vFr1 r) n W)) s
    by_cases z : s = n
    · rw [z]
      exact stY.fr ((H n (by omega)).cg (fun f hf => itr_hi own_Fr1 (Or.inl (by omega)))) hr
    · exact (itrFr_Y hr n (fun s hs => H s (by omega)) s (by omega)).cg (fun f hf => own_Fr1 n _ _ (by omega))
/-- the stubs of the ended house go on, or melt -/
theorem Inh_Y {P O : Nat → Prop} {B h r : Nat} (hr : r < 6) (hh : h < 6) (hne : r ≠ h) (hPr : P r) (hOr : O r) : ∀ k s n m (W : Nat → Int32), s + k = n → n ≤ 12 → (∀ i, i < n → stY P O W i) → (∀ i, i < s → ¬ W (30 + 8 * i + 0) = nI h) → (∀ i, i < n → ∃ w, w ≤ 30 ∧ W (30 + 8 * i + 1) = nI w) → hoY O W → (∀ x, x < 6 → sN6 n (trc W x) ≤ 60) → GV n W B →
    (∀ i, i < n + m - (vInh h r k s n m W).1 → stY P O (vInh h r k s n m W).2 i ∧ ¬ (vInh h r k s n m W).2 (30 + 8 * i + 0) = nI h) ∧ hoY O (vInh h r k s n m W).2 ∧ (∀ x, x < 6 → sN6 (n + m - (vInh h r k s n m W).1) (trc (vInh h r k s n m W).2 x) ≤ 60) ∧ GV (n + m - (vInh h r k s n m W).1) (vInh h r k s n m W).2 B ∧ (∀ x, x < 6 → (vInh h r k s n m W).2 (6 + 4 * x + 0) = W (6 + 4 * x + 0)) := by
  have hrh : ¬ nI r = nI h := fun e => hne (nI_inj (by omega) (by omega) e).symm
  intro k
  induction k with
  | zero =>
    intro s n m W hk h12 g1 g2 g3 g4 g5 g6
    show (∀ i, i < n + m - m → stY P O W i ∧ ¬ W (30 + 8 * i + 0) = nI h) ∧ hoY O W ∧ (∀ x, x < 6 → sN6 (n + m - m) (trc W x) ≤ 60) ∧ GV (n + m - m) W B ∧ (∀ x, x < 6 → W (6 + 4 * x + 0) = W (6 + 4 * x + 0))
    rw [Nat.add_sub_cancel]
    exact ⟨fun i hi => ⟨g1 i hi, g2 i (by omega)⟩, g4, g5, g6, fun _ _ => rfl⟩
  | succ k ih =>
    intro s n m W hk h12 g1 g2 g3 g4 g5 g6
    unfold vInh
    by_cases e : W (30 + 8 * s + 0) = nI h
    · rw [ifp_t e]
      obtain ⟨w, hw, ew⟩ := g3 s (by omega)
      have xw : wxc W s = w := by unfold wxc; rw [ew, cl_nI (by omega)]
      have mt : mTray n W (nI r) = nI (sN6 n (trc W r)) := sumN_nI n (fun i hi => by
        obtain ⟨w2, hw2, ew2⟩ := g3 i hi
        unfold trc wxc
        by_cases q : W (30 + 8 * i + 0) = nI r
        · rw [ifp_t q, if_pos q, ew2, cl_nI (by omega), nI_add]
        · rw [ifp_f q, if_neg q])
      have h60 := g5 r hr
      by_cases f : mTray n W (nI r) + W (30 + 8 * s + 1) + nI 1 ≤ nI 60
      · rw [ifp_t f]
        rw [mt, ew, nI_add, nI_add] at f
        have f := (nle (by omega) (by omega)).mp f
        have c : ∀ j, j ≠ 30 + 8 * s + 0 → vup W (30 + 8 * s + 0) (nI r) j = W j := fun j hj => updJ hj
        have G := ih (s + 1) n m (vup W (30 + 8 * s + 0) (nI r)) (by omega) h12 (fun i hi => ?_) (fun i hi => ?_) (fun i hi => ?_) (fun x hx => ?_) (fun x hx => ?_) (g6.cg (fun j a b => c _ (by omega)) (fun i hi => c _ (by omega)))
        · refine ⟨G.1, G.2.1, G.2.2.1, G.2.2.2.1, fun x hx => (G.2.2.2.2 x hx).trans (c _ (by omega))⟩
        · by_cases z : i = s
          · rw [z]
            obtain ⟨a1, a2, a3, a4, a5, a6⟩ := g1 s (by omega)
            unfold stY
            rw [updE, c _ (by omega), c _ (by omega), c _ (by omega), c _ (by omega), c _ (by omega)]
            refine ⟨fun j hj q => ?_, a2, a3, a4, a5, a6⟩
            rw [show j = r from nI_inj (by omega) (by omega) q]; exact hPr
          · exact (g1 i hi).cg (fun f hf => c _ (by omega))
        · by_cases z : i = s
          · rw [z, updE]; exact hrh
          · rw [c _ (by omega)]; exact g2 i (by omega)
        · obtain ⟨w2, hw2, ew2⟩ := g3 i hi
          exact ⟨w2, hw2, (c _ (by omega)).trans ew2⟩
        · rcases g4 x hx with q | ⟨q1, q2⟩
          · exact Or.inl q
          · exact Or.inr ⟨(c _ (by omega)).trans q1, (c _ (by omega)).trans q2⟩
        · have q := sN6_n (a := trc (vup W (30 + 8 * s + 0) (nI r)) x) (c := trc W x) (j := s) (fun i hi => by unfold trc wxc; rw [c _ (by omega), c _ (by omega)]) n (by omega)
          have t1 : trc (vup W (30 + 8 * s + 0) (nI r)) x s = if x = r then w + 1 else 0 := by
            unfold trc wxc
            rw [updE, c _ (by omega), ew, cl_nI (by omega)]
            by_cases z : x = r
            · rw [z, if_pos rfl, if_pos rfl]
            · rw [if_neg (fun y => z (nI_inj (by omega) (by omega) y)), if_neg z]
          have t2 := g5 x hx
          rw [t1] at q
          by_cases z : x = r
          · rw [if_pos z] at q
            have t3 : trc W x s = 0 := by unfold trc; rw [e, z, if_neg (fun y => hrh y.symm)]
            rw [z] at q t3 ⊢
            omega
          · rw [if_neg z] at q
            have t4 := sN6_elt (f := trc W x) n (show s < n by omega)
            omega
      · rw [ifp_f f]
        obtain ⟨U, eU⟩ : ∃ U, U = vup W (6 + 4 * r + 2) (W (6 + 4 * r + 2) + W (30 + 8 * s + 1)) := ⟨_, rfl⟩
        rw [← eU]
        have c : ∀ j, j ≠ 6 + 4 * r + 2 → U j = W j := fun j hj => by rw [eU]; exact updJ hj
        have lo : ∀ j, j < 30 + 8 * s → j ≠ 0 → j ≠ 6 + 4 * r + 2 → vGoes U s j = W j := fun j a b d => (vGoes_lo a b).trans (c j d)
        have hi_ : ∀ i f, f < 8 → s ≤ i → i + 1 < n → vGoes U s (30 + 8 * i + f) = W (30 + 8 * (i + 1) + f) := fun i f a b d => (vGoes_hi (by omega) (by omega) (by omega)).trans ((c _ (by omega)).trans (congrArg W (by omega)))
        have G := ih s (n - 1) (m + 1) (vGoes U s) (by omega) (by omega) (fun i hi => ?_) (fun i hi => ?_) (fun i hi => ?_) (fun x hx => ?_) (fun x hx => ?_) (GV.go (g6.cg (fun j a b => c _ (by omega)) (fun i hi => c _ (by omega))) (by omega) h12)
        · rw [show n - 1 + (m + 1) = n + m by omega] at G
          exact ⟨G.1, G.2.1, G.2.2.1, G.2.2.2.1, fun x hx => (G.2.2.2.2 x hx).trans (lo _ (by omega) (by omega) (by omega))⟩
        · by_cases z : i < s
          · exact (g1 i (by omega)).cg (fun f hf => lo _ (by omega) (by omega) (by omega))
          · exact (g1 (i + 1) (by omega)).cg (fun f hf => hi_ i f (by omega) (by omega) (by omega))
        · rw [lo _ (by omega) (by omega) (by omega)]; exact g2 i hi
        · by_cases z : i < s
          · obtain ⟨w2, hw2, ew2⟩ := g3 i (by omega)
            exact ⟨w2, hw2, (lo _ (by omega) (by omega) (by omega)).trans ew2⟩
          · obtain ⟨w2, hw2, ew2⟩ := g3 (i + 1) (by omega)
            exact ⟨w2, hw2, (hi_ i 1 (by omega) (by omega) (by omega)).trans ew2⟩
        · by_cases z : x = r
          · rw [z]; exact Or.inl hOr
          · rcases g4 x hx with q | ⟨q1, q2⟩
            · exact Or.inl q
            · exact Or.inr ⟨(lo _ (by omega) (by omega) (by omega)).trans q1, (lo _ (by omega) (by omega) (by omega)).trans q2⟩
        · have q : sN6 (n - 1) (trc (vGoes U s) x) + trc U x s = sN6 n (trc U x) := sN6_go (loc_tr (h := x)) (V := U) (s := s) n (by omega) h12
          have q2 : sN6 n (trc U x) = sN6 n (trc W x) := sN6_same loc_tr (V := W) (fun i hi f hf => c _ (by omega))
          have := g5 x hx
          omega
    · rw [ifp_f e]
      exact ih (s + 1) n m W (by omega) h12 g1 (fun i hi => by
        by_cases z : i = s
        · rw [z]; exact e
        · exact g2 i (by omega)) g3 g4 g5 g6
theorem gx_E {n B : Nat} {V : Nat → Int32} {a : Int32} (H : IV n V B) (hB : B ≤ 90000) (X : XG n V B) : gx (oE n V a) (B + 30) := by
  refine gx_if (fun _ => gx_l) (fun hb => ?_)
  rcases caseH a with q | ⟨h, hh, rfl⟩
  · exact absurd q hb
  rw [cl_nI (by omega)]
  refine gx_if (fun hO => ?_) (fun _ => gx_l)
  cases he : vSucc V h with
  | none => exact gx_l
  | some r =>
    obtain ⟨hr, hne, hOr⟩ := vSucc_lt H.hr hh he
    have HC := (closed_all H (by omega) hh hr hne hOr).1
    have h12 := H.2.1
    have c0 : ∀ j, 30 ≤ j → vCl0 V h r j = V j := fun j hj => by rw [vCl0_eq hne, updJ (by omega), updJ (by omega), updJ (by omega), updJ (by omega), updJ (by omega)]
    have c1 : ∀ j, j < 6 → vCl0 V h r j = V j := fun j hj => by rw [vCl0_eq hne, updJ (by omega), updJ (by omega), updJ (by omega), updJ (by omega), updJ (by omega)]
    have cf : ∀ x, x < 6 → vCl0 V h r (6 + 4 * x + 0) = if x = h then nI 0 else V (6 + 4 * x + 0) := fun x hx => by
      rw [vCl0_eq hne, updJ (by omega), updJ (by omega), updJ (by omega), updJ (by omega)]
      by_cases z : x = h
      · rw [z, if_pos rfl, updE]
      · rw [if_neg z, updJ (by omega)]
    have oO : ∀ x, x < 6 → (vCl0 V h r (6 + 4 * x + 0) = nI 1 ↔ (vOpen V x ∧ x ≠ h)) := fun x hx => by
      rw [cf x hx]
      by_cases z : x = h
      · rw [if_pos z]; exact ⟨fun q => absurd q (by decide), fun q => absurd z q.2⟩
      · rw [if_neg z]; exact ⟨fun q => ⟨q, z⟩, fun q => q.1⟩
    have Y0 : ∀ s, s < n → stY (vOpen V) (vOpen V) (vCl0 V h r) s := fun s hs => by
      have := X.1.1 s hs
      have q : stY (vOpen V) (vOpen V) V s := this
      exact q.cg (fun f hf => c0 _ (by omega))
    have Y1 := itrRt_Y (P := vOpen V) (O := fun x => vOpen V x ∧ x ≠ h) (h := h) hr hh ⟨hOr, hne⟩ (fun j hj p q => ⟨p, q⟩) n Y0
    have lo1 : ∀ j, j < 30 → itr (vRt h r) n (vCl0 V h r) j = vCl0 V h r j := fun j hj => itr_hi own_Rt (Or.inr hj)
    have hoy : hoY (fun x => vOpen V x ∧ x ≠ h) (itr (vRt h r) n (vCl0 V h r)) := fun x hx => by
      rw [lo1 _ (by omega), lo1 _ (by omega)]
      by_cases z : x = h
      · right
        rw [z, vCl0_eq hne]
        exact ⟨(updJ (by omega)).trans ((updJ (by omega)).trans updE), updE⟩
      · rcases X.1.2.1 x hx with q | ⟨q1, q2⟩
        · exact Or.inl ⟨q, z⟩
        · by_cases zr : x = r
          · rw [zr]; exact Or.inl ⟨hOr, hne⟩
          · right
            rw [vCl0_eq hne]
            exact ⟨(updJ (by omega)).trans ((updJ (by omega)).trans ((updJ (by omega)).trans ((updJ (by omega)).trans ((updJ (by omega)).trans q1)))), (updJ (by omega)).trans ((updJ (by omega)).trans ((updJ (by omega)).trans ((updJ (by omega)).trans ((updJ (by omega)).trans q2))))⟩
    have wx1 : ∀ i, i < n → ∃ w, w ≤ 30 ∧ itr (vRt h r) n (vCl0 V h r) (30 + 8 * i + 1) = nI w := fun i hi => by
      rw [(itrRt_01 n i).2, c0 _ (by omega)]
      exact ⟨wxc V i, (wx_nat H hi).2, (wx_nat H hi).1⟩
    have tr1 : ∀ x, x < 6 → sN6 n (trc (itr (vRt h r) n (vCl0 V h r)) x) ≤ 60 := fun x hx => by
      have q : sN6 n (trc (itr (vRt h r) n (vCl0 V h r)) x) = sN6 n (trc V x) := sN6_congr n (fun i hi => by
        unfold trc wxc
        rw [(itrRt_01 n i).1, (itrRt_01 n i).2, c0 _ (by omega), c0 _ (by omega)])
      rw [q]; exact X.1.2.2 x hx
    have gv1 : GV n (itr (vRt h r) n (vCl0 V h r)) B := X.2.cg (fun j a b => (lo1 _ (by omega)).trans (c1 _ (by omega))) (fun s hs => (itrRt_7 n s).trans (c0 _ (by omega)))
    obtain ⟨i1, i2, i3, i4, i5⟩ := Inh_Y (P := vOpen V) (O := fun x => vOpen V x ∧ x ≠ h) (B := B) hr hh hne hOr ⟨hOr, hne⟩ n 0 n 0 _ (by omega) h12 Y1 (fun i hi => absurd hi (Nat.not_lt_zero i)) wx1 hoy tr1 gv1
    rw [Nat.add_zero] at i1 i3 i4
    have Y2 := itrFr_Y (P := vOpen V) (O := fun x => vOpen V x ∧ x ≠ h) hr _ (fun s hs => (i1 s hs).1)
    show gx (.inr (nI r, (vClosed n V h r).2)) (B + 30)
    refine gx_s HC.1 HC.2.1 ?_
    have lo2 : ∀ j, j < 30 → (vClosed n V h r).2 j = (vInh h r n 0 n 0 (itr (vRt h r) n (vCl0 V h r))).2 j := fun j hj => itr_hi own_Fr1 (Or.inr hj)
    have op : ∀ x, x < 6 → ((vClosed n V h r).2 (6 + 4 * x + 0) = nI 1 ↔ (vOpen V x ∧ x ≠ h)) := fun x hx => by
      rw [lo2 _ (by omega), i5 x hx, lo1 _ (by omega)]; exact oO x hx
    refine ⟨⟨fun s hs => ?_, fun x hx => ?_, fun x hx => ?_⟩, ?_⟩
    · obtain ⟨a1, a2, a3, a4, a5, a6⟩ := Y2 s hs
      refine ⟨fun j hj q => (op j hj).mpr ⟨a1 j hj q, fun z => ?_⟩, fun j hj q => (op j hj).mpr (a2 j hj q), fun j hj q => (op j hj).mpr (a3 j hj q), a4, a5, a6⟩
      have q2 : (vInh h r n 0 n 0 (itr (vRt h r) n (vCl0 V h r))).2 (30 + 8 * s + 0) = nI j := (itrFr_f (r := r) (f := 0) (Or.inl (by decide)) _ s).symm.trans q
      exact (i1 s hs).2 (by rw [q2, z])
    · rcases i2 x hx with q | ⟨q1, q2⟩
      · exact Or.inl ((op x hx).mpr q)
      · exact Or.inr ⟨(lo2 _ (by omega)).trans q1, (lo2 _ (by omega)).trans q2⟩
    · have q : sN6 (n - (vClosed n V h r).1) (trc (vClosed n V h r).2 x) = sN6 (n - (vClosed n V h r).1) (trc (vInh h r n 0 n 0 (itr (vRt h r) n (vCl0 V h r))).2 x) := sN6_congr _ (fun i hi => by
        unfold trc wxc
        have e0 : (vClosed n V h r).2 (30 + 8 * i + 0) = (vInh h r n 0 n 0 (itr (vRt h r) n (vCl0 V h r))).2 (30 + 8 * i + 0) := itrFr_f (Or.inl (by decide)) _ i
        have e1 : (vClosed n V h r).2 (30 + 8 * i + 1) = (vInh h r n 0 n 0 (itr (vRt h r) n (vCl0 V h r))).2 (30 + 8 * i + 1) := itrFr_f (Or.inl (by decide)) _ i
        rw [e0, e1])
      rw [q]; exact i3 x hx
    · exact (GV.mono i4 (by omega)).cg (fun j a b => lo2 _ (by omega)) (fun s hs => itrFr_f (Or.inr rfl) _ s)
