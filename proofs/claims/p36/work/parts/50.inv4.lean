/-! what ends keeps it -/
def stW (V : Nat → Int32) (s : Nat) : Prop := ∃ o w k t u z b : Nat, V (30 + 8 * s + 0) = nI o ∧ V (30 + 8 * s + 1) = nI w ∧ V (30 + 8 * s + 2) = nI k ∧ V (30 + 8 * s + 3) = nI t ∧ V (30 + 8 * s + 4) = nI u ∧ V (30 + 8 * s + 5) = nI z ∧ V (30 + 8 * s + 6) = nI b ∧ o < 6 ∧ w ≤ 30 ∧ k ≤ 9 ∧ t ≤ 6 ∧ u ≤ 90 ∧ z ≤ 24 ∧ b ≤ 6
def IVw (n : Nat) (V : Nat → Int32) (B : Nat) : Prop := V 0 = nI n ∧ n ≤ 12 ∧ (∀ s, s < n → stW V s) ∧ (∀ h, h < 6 → hoI V h) ∧ (∃ h, h < 6 ∧ vOpen V h) ∧ (∀ h, h < 6 → sN6 n (wrc h V) ≤ 2) ∧ V 1 = nI (SM n V) + V 2 ∧ SM n V ≤ B
theorem stW.cg {V W : Nat → Int32} {s r : Nat} (h : stW V s) (e : ∀ f, f < 7 → W (30 + 8 * r + f) = V (30 + 8 * s + f)) : stW W r := by
  obtain ⟨o, w, k, t, u, z, b, h0, h1, h2, h3, h4, h5, h6, hh⟩ := h
  exact ⟨o, w, k, t, u, z, b, (e 0 (by decide)).trans h0, (e 1 (by decide)).trans h1, (e 2 (by decide)).trans h2, (e 3 (by decide)).trans h3, (e 4 (by decide)).trans h4, (e 5 (by decide)).trans h5, (e 6 (by decide)).trans h6, hh⟩
theorem IVw.stub {n B s : Nat} {V W : Nat → Int32} (H : IVw n V B) (hs : s < n) (e : ∀ j, j < 30 → W j = V j ∨ j = 3 ∨ j = 4 ∨ j = 5) (e2 : ∀ i, i < n → i ≠ s → ∀ f, f < 8 → W (30 + 8 * i + f) = V (30 + 8 * i + f)) (hst : stW W s) (hw : W (30 + 8 * s + 1) = V (30 + 8 * s + 1)) (hr : ∀ h, h < 6 → wrc h W s ≤ wrc h V s ∨ sN6 n (wrc h V) ≤ 1) : IVw n W B := by
  obtain ⟨a1, a2, a3, a4, ⟨h, hh, ho⟩, a6, a7, a8⟩ := H
  have eh : ∀ i, i < 6 → ∀ f, f < 4 → W (6 + 4 * i + f) = V (6 + 4 * i + f) := fun i hi f hf => by
    rcases e (6 + 4 * i + f) (by omega) with z | z | z | z
    · exact z
    · omega
    · omega
    · omega
  let W2 : Nat → Int32 := fun j => if j < 30 + 8 * n then W j else V j
  have w2 : ∀ j, j < 30 + 8 * n → W2 j = W j := fun j hj => if_pos hj
  have w3 : ∀ i, i ≠ s → ∀ f, f < 8 → W2 (30 + 8 * i + f) = V (30 + 8 * i + f) := fun i hi f hf => by
    by_cases z : i < n
    · rw [w2 _ (by omega)]; exact e2 i z hi f hf
    · exact if_neg (by omega)
  have cs : ∀ {g : (Nat → Int32) → Nat → Nat}, loc g → sN6 n (g W) + g V s = sN6 n (g V) + g W s := fun {g} hg => by
    have h1 := sN6_set hg w3 n hs
    have h2 := sN6_same hg (V := W) (W := W2) (n := n) (fun i hi f hf => w2 _ (by omega))
    have h3 : g W2 s = g W s := hg _ _ _ _ (fun f hf => w2 _ (by omega))
    omega
  have s1 : sN6 n (wxc W) = sN6 n (wxc V) := by
    have := cs loc_wx
    have e3 : wxc W s = wxc V s := by unfold wxc; rw [hw]
    omega
  have s2 : sN6 6 (stc W) = sN6 6 (stc V) := sN6_congr 6 (fun i hi => by unfold stc; rw [eh i hi 2 (by decide)])
  have s3 : sN6 6 (poc W) = sN6 6 (poc V) := sN6_congr 6 (fun i hi => by unfold poc; rw [eh i hi 3 (by decide)])
  have sm : SM n W = SM n V := by unfold SM; rw [s1, s2, s3]
  have q0 : W 0 = V 0 := (e 0 (by decide)).resolve_right (by decide)
  have q1 : W 1 = V 1 := (e 1 (by decide)).resolve_right (by decide)
  have q2 : W 2 = V 2 := (e 2 (by decide)).resolve_right (by decide)
  refine ⟨q0.trans a1, a2, fun i hi => ?_, fun i hi => (a4 i hi).cg (eh i hi), ⟨h, hh, (eh h hh 0 (by decide)).trans ho⟩, fun i hi => ?_, ?_, by rw [sm]; exact a8⟩
  · by_cases z : i = s
    · rw [z]; exact hst
    · exact (a3 i hi).cg (fun f hf => e2 i hi z f (by omega))
  · have c := cs (loc_wr (h := i))
    have a := a6 i hi
    have b : wrc i W s ≤ 1 := by unfold wrc; split <;> omega
    rcases hr i hi with z | z <;> omega
  · rw [sm, q1, q2]; exact a7
def ownS (V : Nat → Int32) (s : Nat) : Prop := ¬ V (30 + 8 * s + 3) = V (30 + 8 * s + 0) + nI 1 ∧ ¬ V (30 + 8 * s + 6) = V (30 + 8 * s + 0) + nI 1
theorem ownS.cg {V W : Nat → Int32} {s r : Nat} (h : ownS V s) (e : ∀ f, f < 7 → W (30 + 8 * r + f) = V (30 + 8 * s + f)) : ownS W r := by
  unfold ownS at h ⊢
  rw [e 3 (by decide), e 0 (by decide), e 6 (by decide)]
  exact h
theorem IV.w {n B : Nat} {V : Nat → Int32} (H : IV n V B) : IVw n V B := by
  obtain ⟨a1, a2, a3, a4, a5, a6, a7, a8⟩ := H
  refine ⟨a1, a2, fun s hs => ?_, a4, a5, a6, a7, a8⟩
  obtain ⟨o, w, k, t, u, z, b, h0, h1, h2, h3, h4, h5, h6, b0, b1, b2, b3, b4, b5, b6, b7, b8⟩ := a3 s hs
  exact ⟨o, w, k, t, u, z, b, h0, h1, h2, h3, h4, h5, h6, b0, b1, b2, b3, b4, b5, b6⟩
theorem IV.own {n B : Nat} {V : Nat → Int32} (H : IV n V B) : ∀ s, s < n → ownS V s := by
  intro s hs
  obtain ⟨o, w, k, t, u, z, b, h0, h1, h2, h3, h4, h5, h6, b0, b1, b2, b3, b4, b5, b6, b7, b8⟩ := H.2.2.1 s hs
  unfold ownS
  rw [h3, h0, h6, nI_add]
  exact ⟨fun z => by have := nI_inj (by omega) (by omega) z; omega, fun z => by have := nI_inj (by omega) (by omega) z; omega⟩
theorem IVw.iv {n B : Nat} {V : Nat → Int32} (H : IVw n V B) (h : ∀ s, s < n → ownS V s) : IV n V B := by
  obtain ⟨a1, a2, a3, a4, a5, a6, a7, a8⟩ := H
  refine ⟨a1, a2, fun s hs => ?_, a4, a5, a6, a7, a8⟩
  obtain ⟨o, w, k, t, u, z, b, h0, h1, h2, h3, h4, h5, h6, b0, b1, b2, b3, b4, b5, b6⟩ := a3 s hs
  have g := h s hs
  unfold ownS at g
  rw [h3, h0, h6, nI_add] at g
  exact ⟨o, w, k, t, u, z, b, h0, h1, h2, h3, h4, h5, h6, b0, b1, b2, b3, b4, b5, b6, ne_in g.1, ne_in g.2⟩
theorem sN6_n {a c : Nat → Nat} {j : Nat} (h : ∀ i, i ≠ j → a i = c i) : ∀ n, j < n → sN6 n a + c j = sN6 n c + a j := by
  intro n
  induction n with
  | zero => intro hs; omega
  | succ n ih =>
    intro hs
    rw [sN6, sN6]
    by_cases e : j = n
    · subst e
      have := sN6_congr (f := a) (g := c) j (fun i hi => h i (by omega))
      omega
    · have := ih (by omega)
      have e2 := h n (fun z => e z.symm)
      omega
/-- a house closes, another has its wax -/
theorem IVw.cl0 {n B h r : Nat} {V : Nat → Int32} (H : IVw n V B) (hB : B ≤ 100000) (hh : h < 6) (hr : r < 6) (hne : r ≠ h) (hO : vOpen V r) : IVw n (vCl0 V h r) B := by
  obtain ⟨a1, a2, a3, a4, _, a6, a7, a8⟩ := H
  have hS : ∀ i, i < 6 → stc V i ≤ B ∧ poc V i ≤ B := fun i hi => by
    have a := c_le (c := stc V) hi
    have b := c_le (c := poc V) hi
    unfold SM at a8
    omega
  obtain ⟨oh, eh, sh, ph, p0, p1, p2, p3, b1, b2, b3, b4⟩ := a4 h hh
  obtain ⟨or_, er, sr, pr, q0, q1, q2, q3, c1, c2, c3, c4⟩ := a4 r hr
  have zsh : stc V h = sh := by unfold stc; rw [p2, cl_nI (by omega)]
  have zsr : stc V r = sr := by unfold stc; rw [q2, cl_nI (by omega)]
  have zph : poc V h = ph := by unfold poc; rw [p3, cl_nI (by omega)]
  have zpr : poc V r = pr := by unfold poc; rw [q3, cl_nI (by omega)]
  have uh := hS h hh
  have ur := hS r hr
  rw [vCl0_eq hne, p2, q2, p3, q3, nI_add, nI_add]
  generalize hW : vup (vup (vup (vup (vup V (6 + 4 * h + 0) (nI 0)) (6 + 4 * r + 2) (nI (sr + sh))) (6 + 4 * h + 2) (nI 0)) (6 + 4 * r + 3) (nI (pr + ph))) (6 + 4 * h + 3) (nI 0) = W
  have el : ∀ j, j ≠ 6 + 4 * h + 0 → j ≠ 6 + 4 * r + 2 → j ≠ 6 + 4 * h + 2 → j ≠ 6 + 4 * r + 3 → j ≠ 6 + 4 * h + 3 → W j = V j := fun j z1 z2 z3 z4 z5 => by rw [← hW, updJ z5, updJ z4, updJ z3, updJ z2, updJ z1]
  have e1 : W (6 + 4 * h + 0) = nI 0 := by rw [← hW, updJ (by omega), updJ (by omega), updJ (by omega), updJ (by omega), updE]
  have e2 : W (6 + 4 * r + 2) = nI (sr + sh) := by rw [← hW, updJ (by omega), updJ (by omega), updJ (by omega), updE]
  have e3 : W (6 + 4 * h + 2) = nI 0 := by rw [← hW, updJ (by omega), updJ (by omega), updE]
  have e4 : W (6 + 4 * r + 3) = nI (pr + ph) := by rw [← hW, updJ (by omega), updE]
  have e5 : W (6 + 4 * h + 3) = nI 0 := by rw [← hW, updE]
  have s1 : sN6 n (wxc W) = sN6 n (wxc V) := sN6_same loc_wx (fun i hi f hf => el _ (by omega) (by omega) (by omega) (by omega) (by omega))
  have two : ∀ (f : (Nat → Int32) → Nat → Nat), (∀ i, i ≠ h → i ≠ r → f W i = f V i) → f W h = 0 → f W r = f V r + f V h → sN6 6 (f W) = sN6 6 (f V) := fun f k1 k2 k3 => by
    have n1 := sN6_n (a := f W) (c := fun i => if i = h then f W h else f V i) (j := r) (fun i hi => by
      by_cases z : i = h
      · rw [if_pos z, z]
      · rw [if_neg z]; exact k1 i z hi) 6 hr
    have n2 := sN6_n (a := fun i => if i = h then f W h else f V i) (c := f V) (j := h) (fun i hi => if_neg hi) 6 hh
    have e1 : (if r = h then f W h else f V r) = f V r := if_neg hne
    have e2 : (if h = h then f W h else f V h) = f W h := if_pos rfl
    try dsimp only at n1 n2
    omega
  have s2 : sN6 6 (stc W) = sN6 6 (stc V) := two stc (fun i z1 z2 => by unfold stc; rw [el _ (by omega) (by omega) (by omega) (by omega) (by omega)]) (by unfold stc; rw [e3]; rfl) (by rw [zsr, zsh]; unfold stc; rw [e2, cl_nI (by omega)])
  have s3 : sN6 6 (poc W) = sN6 6 (poc V) := two poc (fun i z1 z2 => by unfold poc; rw [el _ (by omega) (by omega) (by omega) (by omega) (by omega)]) (by unfold poc; rw [e5]; rfl) (by rw [zpr, zph]; unfold poc; rw [e4, cl_nI (by omega)])
  have sm : SM n W = SM n V := by unfold SM; rw [s1, s2, s3]
  refine ⟨(el 0 (by omega) (by omega) (by omega) (by omega) (by omega)).trans a1, a2, fun s hs => (a3 s hs).cg (fun f hf => el _ (by omega) (by omega) (by omega) (by omega) (by omega)), fun i hi => ?_, ⟨r, hr, (el _ (by omega) (by omega) (by omega) (by omega) (by omega)).trans hO⟩, fun i hi => by rw [sN6_same loc_wr (V := V) (fun k hk f hf => el _ (by omega) (by omega) (by omega) (by omega) (by omega))]; exact a6 i hi, by rw [sm, el 1 (by omega) (by omega) (by omega) (by omega) (by omega), el 2 (by omega) (by omega) (by omega) (by omega) (by omega)]; exact a7, by rw [sm]; exact a8⟩
  by_cases z : i = h
  · rw [z]
    exact ⟨0, eh, 0, 0, e1, (el _ (by omega) (by omega) (by omega) (by omega) (by omega)).trans p1, e3, e5, by omega, b2, by omega, by omega⟩
  · by_cases y : i = r
    · rw [y]
      exact ⟨or_, er, sr + sh, pr + ph, (el _ (by omega) (by omega) (by omega) (by omega) (by omega)).trans q0, (el _ (by omega) (by omega) (by omega) (by omega) (by omega)).trans q1, e2, e4, c1, c2, by omega, by omega⟩
    · exact (a4 i hi).cg (fun f hf => el _ (by omega) (by omega) (by omega) (by omega) (by omega))
theorem IVw.rt {n B i h r : Nat} {W : Nat → Int32} (H : IVw n W B) (hi : i < n) (hr : r < 6) : IVw n (vRt h r i W) B := by
  obtain ⟨o, w, k, t, u, z, b, h0, h1, h2, h3, h4, h5, h6, b0, b1, b2, b3, b4, b5, b6⟩ := H.2.2.1 i hi
  have key : ∀ (X : Nat → Int32), IVw n X B → (∃ t2, t2 ≤ 6 ∧ X (30 + 8 * i + 3) = nI t2) → IVw n (vup (vup X (30 + 8 * i + 6) (nI 0)) (30 + 8 * i + 5) (nI 0)) B := fun X HX _ => by
    obtain ⟨o, w, k, t, u, z, b, h0, h1, h2, h3, h4, h5, h6, b0, b1, b2, b3, b4, b5, b6⟩ := HX.2.2.1 i hi
    refine HX.stub hi (fun j hj => Or.inl ((updJ (by omega)).trans (updJ (by omega)))) (fun j hj z f hf => (updJ (by omega)).trans (updJ (by omega))) ⟨o, w, k, t, u, 0, 0, (updJ (by omega)).trans ((updJ (by omega)).trans h0), (updJ (by omega)).trans ((updJ (by omega)).trans h1), (updJ (by omega)).trans ((updJ (by omega)).trans h2), (updJ (by omega)).trans ((updJ (by omega)).trans h3), (updJ (by omega)).trans ((updJ (by omega)).trans h4), updE, (updJ (by omega)).trans updE, b0, b1, b2, b3, b4, by omega, by omega⟩ ((updJ (by omega)).trans (updJ (by omega))) (fun y hy => Or.inl ?_)
    have e : vup (vup X (30 + 8 * i + 6) (nI 0)) (30 + 8 * i + 5) (nI 0) (30 + 8 * i + 6) = nI 0 := (updJ (by omega)).trans updE
    have : wrc y (vup (vup X (30 + 8 * i + 6) (nI 0)) (30 + 8 * i + 5) (nI 0)) i = 0 := by
      unfold wrc
      rw [e, if_neg (fun q => by have := nI_inj (by omega) (by omega) q; omega)]
    omega
  have kt : IVw n (vup W (30 + 8 * i + 3) (nI (r + 1))) B := H.stub hi (fun j hj => Or.inl (updJ (by omega))) (fun j hj z f hf => updJ (by omega)) ⟨o, w, k, r + 1, u, z, b, (updJ (by omega)).trans h0, (updJ (by omega)).trans h1, (updJ (by omega)).trans h2, updE, (updJ (by omega)).trans h4, (updJ (by omega)).trans h5, (updJ (by omega)).trans h6, b0, b1, b2, by omega, b4, b5, b6⟩ (updJ (by omega)) (fun y hy => Or.inl (Nat.le_of_eq (wrc_same (updJ (by omega)))))
  rw [vRt_eq]
  by_cases g : W (30 + 8 * i + 3) = nI (h + 1)
  · rw [ifp_t g]
    by_cases g2 : vup W (30 + 8 * i + 3) (nI (r + 1)) (30 + 8 * i + 6) = nI (h + 1)
    · rw [ifp_t g2]; exact key _ kt ⟨r + 1, by omega, updE⟩
    · rw [ifp_f g2]; exact kt
  · rw [ifp_f g]
    by_cases g2 : W (30 + 8 * i + 6) = nI (h + 1)
    · rw [ifp_t g2]; exact key _ H ⟨t, b3, h3⟩
    · rw [ifp_f g2]; exact H
/-- a stub of the house that ends melts into the heir's store -/
theorem IVw.melt {n B s r : Nat} {V : Nat → Int32} (H : IVw n V B) (hB : B ≤ 100000) (hs : s < n) (hr : r < 6) : IVw (n - 1) (vGoes (vup V (6 + 4 * r + 2) (V (6 + 4 * r + 2) + V (30 + 8 * s + 1))) s) B := by
  obtain ⟨a1, a2, a3, a4, ⟨h, hh, ho⟩, a6, a7, a8⟩ := H
  obtain ⟨o, w, k, t, u, z, b, h0, h1, h2, h3, h4, h5, h6, b0, b1, b2, b3, b4, b5, b6⟩ := a3 s hs
  obtain ⟨or_, er, sr, pr, q0, q1, q2, q3, c1, c2, c3, c4⟩ := a4 r hr
  have zsr : stc V r = sr := by unfold stc; rw [q2, cl_nI (by omega)]
  have hsr : sr ≤ B := by
    have := c_le (c := stc V) hr
    unfold SM at a8
    omega
  rw [q2, h1, nI_add]
  generalize hX : vup V (6 + 4 * r + 2) (nI (sr + w)) = X
  have ex : ∀ j, j ≠ 6 + 4 * r + 2 → X j = V j := fun j hj => by rw [← hX, updJ hj]
  have e2 : X (6 + 4 * r + 2) = nI (sr + w) := by rw [← hX, updE]
  have lo : ∀ j, j < 30 → j ≠ 0 → vGoes X s j = X j := fun j hj h0 => vGoes_lo (by omega) h0
  have s1 : sN6 (n - 1) (wxc (vGoes X s)) + w = sN6 n (wxc V) := by
    have c := sN6_go loc_wx (V := X) n hs a2
    have c2 := sN6_same loc_wx (V := V) (W := X) (n := n) (fun i hi f hf => ex _ (by omega))
    have c3 : wxc X s = w := by unfold wxc; rw [ex _ (by omega), h1, cl_nI (by omega)]
    omega
  have s2 : sN6 6 (stc (vGoes X s)) = sN6 6 (stc V) + w := by
    have c1 : sN6 6 (stc (vGoes X s)) = sN6 6 (stc X) := sN6_congr 6 (fun i hi => by unfold stc; rw [lo _ (by omega) (by omega)])
    have c2 := sN6_h (f := stc) (V := V) (W := X) (j := r) (fun i hi => by unfold stc; rw [ex _ (by omega)]) 6 hr
    have c3 : stc X r = sr + w := by unfold stc; rw [e2, cl_nI (by omega)]
    omega
  have s3 : sN6 6 (poc (vGoes X s)) = sN6 6 (poc V) := sN6_congr 6 (fun i hi => by unfold poc; rw [lo _ (by omega) (by omega), ex _ (by omega)])
  have sm : SM (n - 1) (vGoes X s) = SM n V := by unfold SM; rw [s2, s3]; omega
  refine ⟨vGoes_0n ((ex 0 (by omega)).trans a1) (by omega), by omega, fun i hi => ?_, fun i hi => ?_, ⟨h, hh, (lo _ (by omega) (by omega)).trans ((ex _ (by omega)).trans ho)⟩, fun i hi => ?_, ?_, by rw [sm]; exact a8⟩
  · by_cases z : i < s
    · exact (a3 i (by omega)).cg (fun f hf => (vGoes_lo (by omega) (by omega)).trans (ex _ (by omega)))
    · exact (a3 (i + 1) (by omega)).cg (fun f hf => (vGoes_hi (by omega) (by omega) (by omega)).trans ((ex _ (by omega)).trans (congrArg V (by omega))))
  · by_cases z : i = r
    · rw [z]; exact ⟨or_, er, sr + w, pr, (lo _ (by omega) (by omega)).trans ((ex _ (by omega)).trans q0), (lo _ (by omega) (by omega)).trans ((ex _ (by omega)).trans q1), (lo _ (by omega) (by omega)).trans e2, (lo _ (by omega) (by omega)).trans ((ex _ (by omega)).trans q3), c1, c2, by omega, c4⟩
    · exact (a4 i hi).cg (fun f hf => (lo _ (by omega) (by omega)).trans (ex _ (by omega)))
  · have c := sN6_go (loc_wr (h := i)) (V := X) n hs a2
    have c2 := sN6_same (loc_wr (h := i)) (V := V) (W := X) (n := n) (fun i hi f hf => ex _ (by omega))
    have := a6 i hi
    omega
  · rw [sm, lo 1 (by decide) (by decide), lo 2 (by decide) (by decide), ex 1 (by omega), ex 2 (by omega)]; exact a7
theorem IVw.mv {n B s r : Nat} {V : Nat → Int32} (H : IVw n V B) (hs : s < n) (hr : r < 6) : IVw n (vup V (30 + 8 * s + 0) (nI r)) B := by
  obtain ⟨o, w, k, t, u, z, b, h0, h1, h2, h3, h4, h5, h6, b0, b1, b2, b3, b4, b5, b6⟩ := H.2.2.1 s hs
  exact H.stub hs (fun j hj => Or.inl (updJ (by omega))) (fun j hj z f hf => updJ (by omega)) ⟨r, w, k, t, u, z, b, updE, (updJ (by omega)).trans h1, (updJ (by omega)).trans h2, (updJ (by omega)).trans h3, (updJ (by omega)).trans h4, (updJ (by omega)).trans h5, (updJ (by omega)).trans h6, hr, b1, b2, b3, b4, b5, b6⟩ (updJ (by omega)) (fun h hh => Or.inl (Nat.le_of_eq (wrc_same (updJ (by omega)))))
theorem Inh_all {B h r : Nat} (hB : B ≤ 100000) (hr : r < 6) (hh : h < 6) (hne : r ≠ h) : ∀ k s n m (V : Nat → Int32), IVw n V B → s + k = n → (∀ i, i < n → ¬ V (30 + 8 * i + 0) = nI r → ¬ V (30 + 8 * i + 0) = nI h → ownS V i) → (∀ i, i < s → ¬ V (30 + 8 * i + 0) = nI h) →
    IVw (n + m - (vInh h r k s n m V).1) (vInh h r k s n m V).2 B ∧ ownN (n + m - (vInh h r k s n m V).1) (vInh h r k s n m V).2 r := by
  have hrh : ¬ nI r = nI h := fun e => hne (nI_inj (by omega) (by omega) e).symm
  intro k
  induction k with
  | zero =>
    intro s n m V H hk g1 g2
    show IVw (n + m - m) V B ∧ ownN (n + m - m) V r
    rw [Nat.add_sub_cancel]
    exact ⟨H, fun i hi ho => g1 i hi ho (g2 i (by omega))⟩
  | succ k ih =>
    intro s n m V H hk g1 g2
    have h12 := H.2.1
    unfold vInh
    by_cases e : V (30 + 8 * s + 0) = nI h
    · rw [ifp_t e]
      by_cases f : mTray n V (nI r) + V (30 + 8 * s + 1) + nI 1 ≤ nI 60
      · rw [ifp_t f]
        refine ih (s + 1) n m _ (H.mv (by omega) hr) (by omega) (fun i hi h1 h2 => ?_) (fun i hi => ?_)
        · by_cases z : i = s
          · rw [z, updE] at h1; exact absurd rfl h1
          · rw [updJ (by omega)] at h1 h2
            exact (g1 i hi h1 h2).cg (fun f hf => updJ (by omega))
        · by_cases z : i = s
          · rw [z, updE]; exact hrh
          · rw [updJ (by omega)]; exact g2 i (by omega)
      · rw [ifp_f f]
        have G := ih s (n - 1) (m + 1) _ (H.melt hB (by omega) hr (s := s)) (by omega) (fun i hi h1 h2 => ?_) (fun i hi => ?_)
        · rw [show n - 1 + (m + 1) = n + m by omega] at G
          exact G
        · by_cases z : i < s
          · have q : ∀ f, f < 7 → vGoes (vup V (6 + 4 * r + 2) (V (6 + 4 * r + 2) + V (30 + 8 * s + 1))) s (30 + 8 * i + f) = V (30 + 8 * i + f) := fun f hf => (vGoes_lo (by omega) (by omega)).trans (updJ (by omega))
            rw [q 0 (by decide)] at h1 h2
            exact (g1 i (by omega) h1 h2).cg q
          · have q : ∀ f, f < 7 → vGoes (vup V (6 + 4 * r + 2) (V (6 + 4 * r + 2) + V (30 + 8 * s + 1))) s (30 + 8 * i + f) = V (30 + 8 * (i + 1) + f) := fun f hf => (vGoes_hi (by omega) (by omega) (by omega)).trans ((updJ (by omega)).trans (congrArg V (by omega)))
            rw [q 0 (by decide)] at h1 h2
            exact (g1 (i + 1) (by omega) h1 h2).cg q
        · rw [vGoes_lo (by omega) (by omega), updJ (by omega)]; exact g2 i hi
    · rw [ifp_f e]
      exact ih (s + 1) n m V H (by omega) g1 (fun i hi => by
        by_cases z : i = s
        · rw [z]; exact e
        · exact g2 i (by omega))
theorem IVw.fr {n B i r : Nat} {W : Nat → Int32} (H : IVw n W B) (hi : i < n) : IVw n (vFr1 r i W) B := by
  have k1 : ∀ X : Nat → Int32, IVw n X B → IVw n (vup (vup X (30 + 8 * i + 3) (nI 0)) (30 + 8 * i + 4) (nI 0)) B := fun X HX => by
    obtain ⟨o, w, k, t, u, z, b, h0, h1, h2, h3, h4, h5, h6, b0, b1, b2, b3, b4, b5, b6⟩ := HX.2.2.1 i hi
    exact HX.stub hi (fun j hj => Or.inl ((updJ (by omega)).trans (updJ (by omega)))) (fun j hj z f hf => (updJ (by omega)).trans (updJ (by omega))) ⟨o, w, k, 0, 0, z, b, (updJ (by omega)).trans ((updJ (by omega)).trans h0), (updJ (by omega)).trans ((updJ (by omega)).trans h1), (updJ (by omega)).trans ((updJ (by omega)).trans h2), (updJ (by omega)).trans updE, updE, (updJ (by omega)).trans ((updJ (by omega)).trans h5), (updJ (by omega)).trans ((updJ (by omega)).trans h6), b0, b1, b2, by omega, by omega, b5, b6⟩ ((updJ (by omega)).trans (updJ (by omega))) (fun y hy => Or.inl (Nat.le_of_eq (wrc_same ((updJ (by omega)).trans (updJ (by omega))))))
  have k2 : ∀ X : Nat → Int32, IVw n X B → IVw n (vup (vup X (30 + 8 * i + 6) (nI 0)) (30 + 8 * i + 5) (nI 0)) B := fun X HX => by
    obtain ⟨o, w, k, t, u, z, b, h0, h1, h2, h3, h4, h5, h6, b0, b1, b2, b3, b4, b5, b6⟩ := HX.2.2.1 i hi
    refine HX.stub hi (fun j hj => Or.inl ((updJ (by omega)).trans (updJ (by omega)))) (fun j hj z f hf => (updJ (by omega)).trans (updJ (by omega))) ⟨o, w, k, t, u, 0, 0, (updJ (by omega)).trans ((updJ (by omega)).trans h0), (updJ (by omega)).trans ((updJ (by omega)).trans h1), (updJ (by omega)).trans ((updJ (by omega)).trans h2), (updJ (by omega)).trans ((updJ (by omega)).trans h3), (updJ (by omega)).trans ((updJ (by omega)).trans h4), updE, (updJ (by omega)).trans updE, b0, b1, b2, b3, b4, by omega, by omega⟩ ((updJ (by omega)).trans (updJ (by omega))) (fun y hy => Or.inl ?_)
    have e : vup (vup X (30 + 8 * i + 6) (nI 0)) (30 + 8 * i + 5) (nI 0) (30 + 8 * i + 6) = nI 0 := (updJ (by omega)).trans updE
    have : wrc y (vup (vup X (30 + 8 * i + 6) (nI 0)) (30 + 8 * i + 5) (nI 0)) i = 0 := by
      unfold wrc
      rw [e, if_neg (fun q => by have := nI_inj (by omega) (by omega) q; omega)]
    omega
  rw [vFr1_eq]
  by_cases g0 : W (30 + 8 * i + 0) = nI r
  · rw [ifp_t g0]
    by_cases g : W (30 + 8 * i + 3) = nI (r + 1)
    · rw [ifp_t g]
      by_cases g2 : W (30 + 8 * i + 6) = nI (r + 1)
      · rw [ifp_t g2]; exact k2 _ (k1 _ H)
      · rw [ifp_f g2]; exact k1 _ H
    · rw [ifp_f g]
      by_cases g2 : W (30 + 8 * i + 6) = nI (r + 1)
      · rw [ifp_t g2]; exact k2 _ H
      · rw [ifp_f g2]; exact H
  · rw [ifp_f g0]; exact H
theorem nz1 {r : Nat} (h : r < 6) : ¬ nI 0 = nI (r + 1) := fun q => by have := nI_inj (by omega) (by omega) q; omega
theorem Fr_own {i r : Nat} {W : Nat → Int32} (hr : r < 6) (h : ¬ W (30 + 8 * i + 0) = nI r → ownS W i) : ownS (vFr1 r i W) i := by
  rw [vFr1_eq]
  by_cases g0 : W (30 + 8 * i + 0) = nI r
  · rw [ifp_t g0]
    unfold ownS
    by_cases g : W (30 + 8 * i + 3) = nI (r + 1)
    · rw [ifp_t g]
      by_cases g2 : W (30 + 8 * i + 6) = nI (r + 1)
      · rw [ifp_t g2, updJ (j := 30 + 8 * i + 5) (i := 30 + 8 * i + 3) (by omega), updJ (j := 30 + 8 * i + 6) (i := 30 + 8 * i + 3) (by omega), updJ (j := 30 + 8 * i + 4) (i := 30 + 8 * i + 3) (by omega), updE, updJ (j := 30 + 8 * i + 5) (i := 30 + 8 * i + 0) (by omega), updJ (j := 30 + 8 * i + 6) (i := 30 + 8 * i + 0) (by omega), updJ (j := 30 + 8 * i + 4) (i := 30 + 8 * i + 0) (by omega), updJ (j := 30 + 8 * i + 3) (i := 30 + 8 * i + 0) (by omega), updJ (j := 30 + 8 * i + 5) (i := 30 + 8 * i + 6) (by omega), updE, g0, nI_add]
        exact ⟨nz1 hr, nz1 hr⟩
      · rw [ifp_f g2, updJ (j := 30 + 8 * i + 4) (i := 30 + 8 * i + 3) (by omega), updE, updJ (j := 30 + 8 * i + 4) (i := 30 + 8 * i + 0) (by omega), updJ (j := 30 + 8 * i + 3) (i := 30 + 8 * i + 0) (by omega), updJ (j := 30 + 8 * i + 4) (i := 30 + 8 * i + 6) (by omega), updJ (j := 30 + 8 * i + 3) (i := 30 + 8 * i + 6) (by omega), g0, nI_add]
        exact ⟨nz1 hr, g2⟩
    · rw [ifp_f g]
      by_cases g2 : W (30 + 8 * i + 6) = nI (r + 1)
      · rw [ifp_t g2, updJ (j := 30 + 8 * i + 5) (i := 30 + 8 * i + 3) (by omega), updJ (j := 30 + 8 * i + 6) (i := 30 + 8 * i + 3) (by omega), updJ (j := 30 + 8 * i + 5) (i := 30 + 8 * i + 0) (by omega), updJ (j := 30 + 8 * i + 6) (i := 30 + 8 * i + 0) (by omega), updJ (j := 30 + 8 * i + 5) (i := 30 + 8 * i + 6) (by omega), updE, g0, nI_add]
        exact ⟨g, nz1 hr⟩
      · rw [ifp_f g2, g0, nI_add]
        exact ⟨g, g2⟩
  · rw [ifp_f g0]; exact h g0
theorem Fr_all {n B r : Nat} {W : Nat → Int32} (H : IVw n W B) (hr : r < 6) (ho : ownN n W r) : IV n (itr (vFr1 r) n W) B := by
  have K : ∀ i, i ≤ n → IVw n (itr (vFr1 r) i W) B ∧ ∀ s, s < i → ownS (itr (vFr1 r) i W) s := by
    intro i
    induction i with
    | zero => intro _; exact ⟨H, fun s hs => absurd hs (Nat.not_lt_zero s)⟩
    | succ i ih =>
      intro hi
      obtain ⟨k1, k2⟩ := ih (by omega)
      have e : ∀ f, f < 8 → itr (vFr1 r) i W (30 + 8 * i + f) = W (30 + 8 * i + f) := fun f hf => itr_hi own_Fr1 (Or.inl (by omega))
      refine ⟨k1.fr (by omega), fun s hs => ?_⟩
      show ownS (vFr1 r i (itr (vFr1 r) i W)) s
      by_cases z : s = i
      · rw [z]
        refine Fr_own hr (fun q => ?_)
        rw [e 0 (by decide)] at q
        exact ownS.cg (V := W) (s := i) (ho i (by omega) q) (fun f hf => e f (by omega))
      · exact (k2 s (by omega)).cg (fun f hf => own_Fr1 i _ _ (by omega))
  obtain ⟨k1, k2⟩ := K n (Nat.le_refl _)
  exact k1.iv k2
theorem Rt_own {i h r o : Nat} {W : Nat → Int32} (ho : W (30 + 8 * i + 0) = nI o) (o6 : o < 6) (hr : r < 6) (hor : o ≠ r) (H : ownS W i) : ownS (vRt h r i W) i := by
  have e : ¬ nI (r + 1) = nI (o + 1) := fun q => by have := nI_inj (by omega) (by omega) q; omega
  unfold ownS at H
  rw [ho, nI_add] at H
  rw [vRt_eq]
  unfold ownS
  by_cases g : W (30 + 8 * i + 3) = nI (h + 1)
  · rw [ifp_t g]
    by_cases g2 : vup W (30 + 8 * i + 3) (nI (r + 1)) (30 + 8 * i + 6) = nI (h + 1)
    · rw [ifp_t g2, updJ (j := 30 + 8 * i + 5) (i := 30 + 8 * i + 3) (by omega), updJ (j := 30 + 8 * i + 6) (i := 30 + 8 * i + 3) (by omega), updE, updJ (j := 30 + 8 * i + 5) (i := 30 + 8 * i + 0) (by omega), updJ (j := 30 + 8 * i + 6) (i := 30 + 8 * i + 0) (by omega), updJ (j := 30 + 8 * i + 3) (i := 30 + 8 * i + 0) (by omega), updJ (j := 30 + 8 * i + 5) (i := 30 + 8 * i + 6) (by omega), updE, ho, nI_add]
      exact ⟨e, nz1 o6⟩
    · rw [ifp_f g2, updE, updJ (j := 30 + 8 * i + 3) (i := 30 + 8 * i + 0) (by omega), updJ (j := 30 + 8 * i + 3) (i := 30 + 8 * i + 6) (by omega), ho, nI_add]
      exact ⟨e, H.2⟩
  · rw [ifp_f g]
    by_cases g2 : W (30 + 8 * i + 6) = nI (h + 1)
    · rw [ifp_t g2, updJ (j := 30 + 8 * i + 5) (i := 30 + 8 * i + 3) (by omega), updJ (j := 30 + 8 * i + 6) (i := 30 + 8 * i + 3) (by omega), updJ (j := 30 + 8 * i + 5) (i := 30 + 8 * i + 0) (by omega), updJ (j := 30 + 8 * i + 6) (i := 30 + 8 * i + 0) (by omega), updJ (j := 30 + 8 * i + 5) (i := 30 + 8 * i + 6) (by omega), updE, ho, nI_add]
      exact ⟨H.1, nz1 o6⟩
    · rw [ifp_f g2, ho, nI_add]
      exact H
theorem Rt_of {i h r : Nat} {W : Nat → Int32} : vRt h r i W (30 + 8 * i + 0) = W (30 + 8 * i + 0) := by
  rw [vRt_eq]
  by_cases g : W (30 + 8 * i + 3) = nI (h + 1)
  · rw [ifp_t g]
    by_cases g2 : vup W (30 + 8 * i + 3) (nI (r + 1)) (30 + 8 * i + 6) = nI (h + 1)
    · rw [ifp_t g2, updJ (by omega), updJ (by omega), updJ (by omega)]
    · rw [ifp_f g2, updJ (by omega)]
  · rw [ifp_f g]
    by_cases g2 : W (30 + 8 * i + 6) = nI (h + 1)
    · rw [ifp_t g2, updJ (by omega), updJ (by omega)]
    · rw [ifp_f g2]
theorem Rt_all {n B h r : Nat} {W : Nat → Int32} (H : IVw n W B) (hr : r < 6) (ho : ∀ s, s < n → ownS W s) : IVw n (itr (vRt h r) n W) B ∧ ∀ s, s < n → ¬ itr (vRt h r) n W (30 + 8 * s + 0) = nI r → ownS (itr (vRt h r) n W) s := by
  have K : ∀ i, i ≤ n → IVw n (itr (vRt h r) i W) B ∧ ∀ s, s < i → ¬ itr (vRt h r) i W (30 + 8 * s + 0) = nI r → ownS (itr (vRt h r) i W) s := by
    intro i
    induction i with
    | zero => intro _; exact ⟨H, fun s hs => absurd hs (Nat.not_lt_zero s)⟩
    | succ i ih =>
      intro hi
      obtain ⟨k1, k2⟩ := ih (by omega)
      have e : ∀ f, f < 8 → itr (vRt h r) i W (30 + 8 * i + f) = W (30 + 8 * i + f) := fun f hf => itr_hi own_Rt (Or.inl (by omega))
      refine ⟨k1.rt (by omega) hr, fun s hs => ?_⟩
      show ¬ vRt h r i (itr (vRt h r) i W) (30 + 8 * s + 0) = nI r → ownS (vRt h r i (itr (vRt h r) i W)) s
      by_cases z : s = i
      · rw [z]
        intro q
        rw [Rt_of] at q
        obtain ⟨o, w, k, t, u, z, b, h0, h1, h2, h3, h4, h5, h6, b0, b1, b2, b3, b4, b5, b6⟩ := k1.2.2.1 i (by omega)
        exact Rt_own h0 b0 hr (fun e2 => q (by rw [h0, e2])) ((ho i (by omega)).cg (fun f hf => e f (by omega)))
      · have q : ∀ f, f < 8 → vRt h r i (itr (vRt h r) i W) (30 + 8 * s + f) = itr (vRt h r) i W (30 + 8 * s + f) := fun f hf => own_Rt i _ _ (by omega)
        rw [q 0 (by decide)]
        exact fun e2 => (k2 s (by omega) e2).cg (fun f hf => q f (by omega))
  exact K n (Nat.le_refl _)
/-- the rows after the rights, and after the stubs -/
theorem closed_all {n B h r : Nat} {V : Nat → Int32} (H : IV n V B) (hB : B ≤ 100000) (hh : h < 6) (hr : r < 6) (hne : r ≠ h) (hO : vOpen V r) : IV (n - (vClosed n V h r).1) (vClosed n V h r).2 B ∧ ownN (n - (vInh h r n 0 n 0 (itr (vRt h r) n (vCl0 V h r))).1) (vInh h r n 0 n 0 (itr (vRt h r) n (vCl0 V h r))).2 r := by
  have c0 := H.w.cl0 hB hh hr hne hO
  have o0 : ∀ s, s < n → ownS (vCl0 V h r) s := fun s hs => (H.own s hs).cg (fun f hf => by rw [vCl0_eq hne, updJ (by omega), updJ (by omega), updJ (by omega), updJ (by omega), updJ (by omega)])
  obtain ⟨r1, r2⟩ := Rt_all (h := h) c0 hr o0
  obtain ⟨i1, i2⟩ := Inh_all (h := h) (r := r) hB hr hh hne n 0 n 0 _ r1 (by omega) (fun i hi a _ => r2 i hi a) (fun i hi => absurd hi (Nat.not_lt_zero i))
  exact ⟨Fr_all i1 hr i2, i2⟩
theorem good_E {n B : Nat} {V : Nat → Int32} {a : Int32} (H : IV n V B) (hB : B ≤ 90000) (hhr : okHr V) : good (oE n V a) (B + 30) := by
  refine good_if (fun _ => good_l) (fun hb => ?_)
  rcases caseH a with h | ⟨j, hj, rfl⟩
  · exact absurd h hb
  rw [cl_nI (by omega)]
  refine good_if (fun _ => ?_) (fun _ => good_l)
  cases he : vSucc V j with
  | none => exact good_l
  | some r =>
    have hr := vSucc_lt hhr hj he
    exact good_s ((closed_all H (by omega) hj hr.1 hr.2.1 hr.2.2).1.mono (by omega)) (nI_pos' (by omega))
