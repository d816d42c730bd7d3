/-! what else holds: owe, writ, pool, heir, pass -/
theorem gx_set {n B C s : Nat} {V W : Nat → Int32} {a : Int32} (H : IV n V B) (X : XG n V B) (hC : B ≤ C) (hs : s < n) (e0 : ∀ j, j < 30 → W j = V j) (e2 : ∀ i, i < n → i ≠ s → ∀ f, f < 8 → W (30 + 8 * i + f) = V (30 + 8 * i + f)) (e7 : W (30 + 8 * s + 7) = V (30 + 8 * s + 7)) (hst : stX W s) (ht : ∀ h, h < 6 → trc W h s ≤ trc V h s) : gx (.inr (a, W)) C :=
  gx_s ((e0 0 (by decide)).trans H.1) H.2.1 ⟨X.1.set e2 (fun j _ b => e0 j b) hst ht, (X.2.mono hC).cg (fun j _ b => e0 j (by omega)) (fun i hi => by
    by_cases z : i = s
    · rw [z]; exact e7
    · exact e2 i hi z 7 (by decide))⟩
theorem nz1' {x : Nat} (h : 1 ≤ x) (h2 : x < 2147483648) : ¬ nI x = nI 0 := fun e => by have := nI_inj (by omega) (by omega) e; omega
theorem gx_O {n B : Nat} {V : Nat → Int32} {a b x : Int32} (H : IV n V B) (X : XG n V B) : gx (oO n V a b x) (B + 30) := by
  have h12 := H.2.1
  refine gx_if (fun _ => gx_l) (fun hb => ?_)
  rcases caseS (n := n) (by omega) a with h | ⟨s, hs, rfl⟩
  · exact absurd (Or.inl h) hb
  obtain ⟨j, j1, j2, rfl⟩ := in_R (x := b) (a := 0) (b := 5) (fun q => hb (Or.inr q))
  rw [cl_nI (by omega), cl_nI (by omega)]
  refine gx_if (fun _ => gx_l) (fun hR => gx_if (fun ho => gx_if (fun _ => gx_l) (fun hne => gx_if (fun h3 => ?_) (fun _ => gx_l))) (fun _ => gx_l))
  obtain ⟨y, y1, y2, rfl⟩ := in_R hR
  obtain ⟨W, eW⟩ : ∃ W, W = vup (vup V (30 + 8 * s + 3) (nI (j + 1))) (30 + 8 * s + 4) (nI y) := ⟨_, rfl⟩
  rw [← eW]
  have c : ∀ i, i ≠ 30 + 8 * s + 3 → i ≠ 30 + 8 * s + 4 → W i = V i := fun i a1 a2 => by rw [eW]; exact (updJ a2).trans (updJ a1)
  have c3 : W (30 + 8 * s + 3) = nI (j + 1) := by rw [eW]; exact (updJ (by omega)).trans updE
  have c4 : W (30 + 8 * s + 4) = nI y := by rw [eW]; exact updE
  have oc : ∀ j, j < 6 → vOpen V j → vOpen W j := op_cg (fun j a b => c _ (by omega) (by omega))
  obtain ⟨x1, x2, x3, x4, x5, x6⟩ := X.1.1 s hs
  refine gx_set H X (by omega) hs (fun j hj => c _ (by omega) (by omega)) (fun i hi hz f hf => c _ (by omega) (by omega)) (c _ (by omega) (by omega)) ?_ (fun h hh => by unfold trc wxc; rw [c _ (by omega) (by omega), c _ (by omega) (by omega)]; exact Nat.le_refl _)
  refine ⟨fun i hi e => oc i hi (x1 i hi ((c _ (by omega) (by omega)).symm.trans e)), fun i hi e => ?_, fun i hi e => oc i hi (x3 i hi ((c _ (by omega) (by omega)).symm.trans e)), ?_, ?_, fun e => x6 ((c _ (by omega) (by omega)).symm.trans e)⟩
  · rw [c3] at e
    have := nI_inj (by omega) (by omega) e
    rw [show i = j by omega]; exact oc j (by omega) ho
  · rw [c3, c4]; exact ⟨fun e => absurd e (nz1' (by omega) (by omega)), fun e => absurd e (nz1' y1 (by omega))⟩
  · rw [c _ (by omega) (by omega), c _ (by omega) (by omega)]; exact x5
theorem gx_W {n B : Nat} {V : Nat → Int32} {a b x : Int32} (H : IV n V B) (X : XG n V B) : gx (oW n V b a x) (B + 30) := by
  have h12 := H.2.1
  refine gx_if (fun _ => gx_l) (fun hb => ?_)
  rcases caseS (n := n) (by omega) a with h | ⟨s, hs, rfl⟩
  · exact absurd (Or.inr h) hb
  obtain ⟨j, j1, j2, rfl⟩ := in_R (x := b) (a := 0) (b := 5) (fun q => hb (Or.inl q))
  rw [cl_nI (by omega), cl_nI (by omega)]
  refine gx_if (fun _ => gx_l) (fun hR => gx_if (fun ho => gx_if (fun _ => gx_l) (fun hne => gx_if (fun h3 => gx_if (fun _ => gx_l) (fun _ => ?_)) (fun _ => gx_l))) (fun _ => gx_l))
  obtain ⟨y, y1, y2, rfl⟩ := in_R hR
  obtain ⟨W, eW⟩ : ∃ W, W = vup (vup V (30 + 8 * s + 6) (nI (j + 1))) (30 + 8 * s + 5) (nI y) := ⟨_, rfl⟩
  rw [← eW]
  have c : ∀ i, i ≠ 30 + 8 * s + 6 → i ≠ 30 + 8 * s + 5 → W i = V i := fun i a1 a2 => by rw [eW]; exact (updJ a2).trans (updJ a1)
  have c3 : W (30 + 8 * s + 6) = nI (j + 1) := by rw [eW]; exact (updJ (by omega)).trans updE
  have c4 : W (30 + 8 * s + 5) = nI y := by rw [eW]; exact updE
  have oc : ∀ j, j < 6 → vOpen V j → vOpen W j := op_cg (fun j a b => c _ (by omega) (by omega))
  obtain ⟨x1, x2, x3, x4, x5, x6⟩ := X.1.1 s hs
  refine gx_set H X (by omega) hs (fun j hj => c _ (by omega) (by omega)) (fun i hi hz f hf => c _ (by omega) (by omega)) (c _ (by omega) (by omega)) ?_ (fun h hh => by unfold trc wxc; rw [c _ (by omega) (by omega), c _ (by omega) (by omega)]; exact Nat.le_refl _)
  refine ⟨fun i hi e => oc i hi (x1 i hi ((c _ (by omega) (by omega)).symm.trans e)), fun i hi e => oc i hi (x2 i hi ((c _ (by omega) (by omega)).symm.trans e)), fun i hi e => ?_, ?_, ?_, fun e => x6 ((c _ (by omega) (by omega)).symm.trans e)⟩
  · rw [c3] at e
    have := nI_inj (by omega) (by omega) e
    rw [show i = j by omega]; exact oc j (by omega) ho
  · rw [c _ (by omega) (by omega), c _ (by omega) (by omega)]; exact x4
  · rw [c3, c4]; exact ⟨fun e => absurd e (nz1' (by omega) (by omega)), fun e => absurd e (nz1' y1 (by omega))⟩
theorem gx_P {n B : Nat} {V : Nat → Int32} {a x : Int32} (H : IV n V B) (X : XG n V B) : gx (oP n V a x) (B + 30) := by
  have h12 := H.2.1
  refine gx_if (fun _ => gx_l) (fun hb => ?_)
  rcases caseS (n := n) (by omega) a with h | ⟨s, hs, rfl⟩
  · exact absurd h hb
  rw [cl_nI (by omega)]
  obtain ⟨o, w, k, t, u, z, b, h0, h1, h2, h3, h4, h5, h6, b0, b1, b2, b3, b4, b5, b6, b7, b8⟩ := H.2.2.1 s hs
  rw [h0, cl_nI (by omega)]
  obtain ⟨x1, x2, x3, x4, x5, x6⟩ := X.1.1 s hs
  have ho := x1 o b0 h0
  refine gx_if (fun _ => gx_l) (fun hR => gx_if (fun hle => ?_) (fun _ => gx_l))
  obtain ⟨y, y1, y2, rfl⟩ := in_R hR
  rw [h1] at hle
  have hle := (nle (by omega) (by omega)).mp hle
  obtain ⟨W, eW⟩ : ∃ W, W = vup (vup V (6 + 4 * o + 3) (V (6 + 4 * o + 3) + nI y)) (30 + 8 * s + 1) (V (30 + 8 * s + 1) - nI y) := ⟨_, rfl⟩
  rw [← eW]
  have c : ∀ i, i ≠ 6 + 4 * o + 3 → i ≠ 30 + 8 * s + 1 → W i = V i := fun i a1 a2 => by rw [eW]; exact (updJ a2).trans (updJ a1)
  have cw : W (30 + 8 * s + 1) = nI (w - y) := by rw [eW]; exact updE.trans (by rw [h1, nI_sub hle])
  have oc : ∀ j, j < 6 → vOpen V j → vOpen W j := fun j hj h => (c _ (by omega) (by omega)).trans h
  have W0 : W 0 = nI n := (c _ (by omega) (by omega)).trans H.1
  have hOt : ∀ i, i < n → i ≠ s → stX W i := fun i hi hz => (X.1.1 i hi).cg (fun f hf => c _ (by omega) (by omega)) oc
  have hHo : ∀ h, h < 6 → hoX W h := fun h hh => by
    by_cases q : h = o
    · rw [q]; exact Or.inl (oc o b0 ho)
    · rcases X.1.2.1 h hh with r | ⟨r1, r2⟩
      · exact Or.inl (oc h hh r)
      · exact Or.inr ⟨(c _ (by omega) (by omega)).trans r1, (c _ (by omega) (by omega)).trans r2⟩
  have hTr : ∀ h, h < 6 → sN6 n (trc W h) ≤ 60 := fun h hh => by
    refine Nat.le_trans (tr_set (s := s) (V := V) (fun i hi hz f hf => c _ (by omega) (by omega)) ?_) (X.1.2.2 h hh)
    have q1 : wxc W s = w - y := by unfold wxc; rw [cw, cl_nI (by omega)]
    have q2 : wxc V s = w := by unfold wxc; rw [h1, cl_nI (by omega)]
    unfold trc
    rw [q1, q2, c _ (by omega) (by omega)]
    split <;> omega
  have G : GV n W (B + 30) := (X.2.mono (by omega)).cg (fun j a b => c _ (by omega) (by omega)) (fun i hi => c _ (by omega) (by omega))
  refine gx_if (fun e => ?_) (fun e => ?_)
  · exact gx_s (m := n - 1) (by rw [vGoes_0, W0, nI_sub (by omega)]) (by omega) ⟨XV.go hs h12 hOt hHo hTr, G.go hs h12⟩
  · refine gx_s W0 h12 ⟨⟨fun i hi => ?_, hHo, hTr⟩, G⟩
    by_cases q : i = s
    · rw [q]
      have cf : ∀ f, f ≠ 1 → f < 8 → W (30 + 8 * s + f) = V (30 + 8 * s + f) := fun f a1 a2 => c _ (by omega) (by omega)
      refine ⟨fun i hi e => oc i hi (x1 i hi ((cf 0 (by decide) (by decide)).symm.trans e)), fun i hi e => oc i hi (x2 i hi ((cf 3 (by decide) (by decide)).symm.trans e)), fun i hi e => oc i hi (x3 i hi ((cf 6 (by decide) (by decide)).symm.trans e)), ?_, ?_, ?_⟩
      · rw [cf 3 (by decide) (by decide), cf 4 (by decide) (by decide)]; exact x4
      · rw [cf 6 (by decide) (by decide), cf 5 (by decide) (by decide)]; exact x5
      · rw [cw]
        refine nz1' ?_ (by omega)
        have : w ≠ y := fun q => e (by rw [h1, q])
        omega
    · exact hOt i hi q
theorem gx_H {n B : Nat} {V : Nat → Int32} {a b : Int32} (H : IV n V B) (X : XG n V B) : gx (oH V a b) (B + 30) := by
  refine gx_if (fun _ => gx_l) (fun hb => gx_if (fun _ => gx_l) (fun _ => ?_))
  obtain ⟨j, j1, j2, rfl⟩ := in_R (x := a) (a := 0) (b := 5) (fun q => hb (Or.inl q))
  rw [cl_nI (by omega)]
  have c : ∀ i, i ≠ 6 + 4 * j + 1 → vup V (6 + 4 * j + 1) (nI (cl b)) i = V i := fun i hi => updJ hi
  have oc : ∀ j, j < 6 → vOpen V j → vOpen (vup V (6 + 4 * j + 1) (nI (cl b))) j := fun i hi h => (updJ (by omega)).trans h
  refine gx_s ((c _ (by omega)).trans H.1) H.2.1 ⟨⟨fun s hs => (X.1.1 s hs).cg (fun f hf => c _ (by omega)) (fun i hi h => (c _ (by omega)).trans h), fun h hh => ?_, fun h hh => ?_⟩, (X.2.mono (by omega)).cg (fun i a b => c _ (by omega)) (fun i hi => c _ (by omega))⟩
  · rcases X.1.2.1 h hh with r | ⟨r1, r2⟩
    · exact Or.inl ((c _ (by omega)).trans r)
    · exact Or.inr ⟨(c _ (by omega)).trans r1, (c _ (by omega)).trans r2⟩
  · rw [sN6_same loc_tr (V := V) (fun i hi f hf => c _ (by omega))]; exact X.1.2.2 h hh
/-- one stub's writ runs on -/
theorem XG.pa {n B i : Nat} {V W : Nat → Int32} {x : Int32} (H : IV n W B) (X : XG n W B) (hi : i < n) (hx : ∃ y, y ≤ 24 ∧ x = nI y) : XG n (vPa x i W) B := by
  obtain ⟨y, hy, rfl⟩ := hx
  obtain ⟨o, w, k, t, u, z, b, h0, h1, h2, h3, h4, h5, h6, b0, b1, b2, b3, b4, b5, b6, b7, b8⟩ := H.2.2.1 i hi
  obtain ⟨x1, x2, x3, x4, x5, x6⟩ := X.1.1 i hi
  unfold vPa
  by_cases hz : W (30 + 8 * i + 6) = 0
  · rw [ifp_t hz]; exact X
  · rw [ifp_f hz]
    have gen : ∀ U : Nat → Int32, (∀ j, j ≠ 30 + 8 * i + 5 → j ≠ 30 + 8 * i + 6 → U j = W j) → (∀ j, j < 6 → U (30 + 8 * i + 6) = nI (j + 1) → vOpen W j) → (U (30 + 8 * i + 6) = nI 0 ↔ U (30 + 8 * i + 5) = nI 0) → XG n U B := fun U c g6 g5 => by
      have oc : ∀ j, j < 6 → vOpen W j → vOpen U j := fun j hj h => (c _ (by omega) (by omega)).trans h
      refine ⟨X.1.set (s := i) (fun j hj hz f hf => c _ (by omega) (by omega)) (fun j a b => c _ (by omega) (by omega)) ⟨fun j hj e => oc j hj (x1 j hj ((c _ (by omega) (by omega)).symm.trans e)), fun j hj e => oc j hj (x2 j hj ((c _ (by omega) (by omega)).symm.trans e)), fun j hj e => oc j hj (g6 j hj e), ?_, g5, fun e => x6 ((c _ (by omega) (by omega)).symm.trans e)⟩ (fun h hh => by unfold trc wxc; rw [c _ (by omega) (by omega), c _ (by omega) (by omega)]; exact Nat.le_refl _), X.2.cg (fun j a b => c _ (by omega) (by omega)) (fun j hj => c _ (by omega) (by omega))⟩
      rw [c _ (by omega) (by omega), c _ (by omega) (by omega)]; exact x4
    by_cases hl : W (30 + 8 * i + 5) ≤ nI y
    · rw [ifp_t hl]
      refine gen _ (fun j a b => (updJ b).trans (updJ a)) (fun j hj e => ?_) ?_
      · rw [updE] at e; have := nI_inj (by omega) (by omega) e; omega
      · rw [updE, updJ (by omega), updE]
    · rw [ifp_f hl]
      refine gen _ (fun j a b => (updJ b).trans (updJ a)) (fun j hj e => x3 j hj (updE.symm.trans e)) ?_
      rw [updE, updJ (by omega), updE, h5, h6]
      rw [h5] at hl
      have hl := Nat.not_le.mp (fun q => hl ((nle (by omega) (by omega)).mpr q))
      rw [nI_sub (by omega)]
      refine ⟨fun e => ?_, fun e => absurd e (nz1' (by omega) (by omega))⟩
      exact absurd (h6.trans (e.trans nI_0)) hz
theorem XG.itrPa {n B : Nat} {V : Nat → Int32} {x : Int32} (H : IV n V B) (X : XG n V B) (hx : ∃ y, y ≤ 24 ∧ x = nI y) : ∀ m, m ≤ n → IV n (itr (vPa x) m V) B ∧ XG n (itr (vPa x) m V) B
  | 0, _ => ⟨H, X⟩
  | m + 1, h => by
    obtain ⟨a, b⟩ := XG.itrPa H X hx m (by omega)
    exact ⟨a.pa (V := V) (by omega) hx, b.pa (V := V) a (by omega) hx⟩
theorem gx_T {n B : Nat} {V : Nat → Int32} {x : Int32} (H : IV n V B) (X : XG n V B) : gx (vPasses n V x) (B + 30) := by
  refine gx_if (fun _ => gx_l) (fun hR => ?_)
  obtain ⟨y, y1, y2, rfl⟩ := in_R hR
  obtain ⟨a, b⟩ := XG.itrPa H X ⟨y, by omega, rfl⟩ n (Nat.le_refl _)
  have c : ∀ j, j ≠ 5 → vup (itr (vPa (nI y)) n V) 5 (itr (vPa (nI y)) n V 5 + nI y) j = itr (vPa (nI y)) n V j := fun j hj => updJ hj
  refine gx_s ((c 0 (by decide)).trans a.1) H.2.1 ⟨b.1.lo (fun j hj => c j (by omega)), fun j p q => ?_, fun s hs => ?_⟩
  · obtain ⟨z, hz, e⟩ := b.2.1 j p q
    by_cases h5 : j = 5
    · subst h5; exact ⟨z + y, by omega, by rw [updE, e, nI_add]⟩
    · exact ⟨z, by omega, (c j h5).trans e⟩
  · obtain ⟨z, hz, e⟩ := b.2.2 s hs
    exact ⟨z, by omega, (c _ (by omega)).trans e⟩
