/-! what else holds of every state that the law reaches -/
def stX (V : Nat → Int32) (s : Nat) : Prop := (∀ j, j < 6 → V (30 + 8 * s + 0) = nI j → vOpen V j) ∧ (∀ j, j < 6 → V (30 + 8 * s + 3) = nI (j + 1) → vOpen V j) ∧ (∀ j, j < 6 → V (30 + 8 * s + 6) = nI (j + 1) → vOpen V j) ∧ (V (30 + 8 * s + 3) = nI 0 ↔ V (30 + 8 * s + 4) = nI 0) ∧ (V (30 + 8 * s + 6) = nI 0 ↔ V (30 + 8 * s + 5) = nI 0) ∧ ¬ V (30 + 8 * s + 1) = nI 0
def hoX (V : Nat → Int32) (h : Nat) : Prop := vOpen V h ∨ (V (6 + 4 * h + 2) = nI 0 ∧ V (6 + 4 * h + 3) = nI 0)
def XV (n : Nat) (V : Nat → Int32) : Prop := (∀ s, s < n → stX V s) ∧ (∀ h, h < 6 → hoX V h) ∧ ∀ h, h < 6 → sN6 n (trc V h) ≤ 60
def XG (n : Nat) (V : Nat → Int32) (B : Nat) : Prop := XV n V ∧ GV n V B
def gx (o : Out) (B : Nat) : Prop := match o with
  | .inl _ => True
  | .inr (_, V2) => XG (cl (V2 0)) V2 B
theorem gx_if {p : Prop} {a b : Out} {B : Nat} (h1 : p → gx a B) (h2 : ¬ p → gx b B) : gx (ifp p a b) B := by
  by_cases h : p
  · rw [ifp_t h]; exact h1 h
  · rw [ifp_f h]; exact h2 h
theorem gx_l {x : Int32 × List (Int32 × Int32)} {B : Nat} : gx (.inl x) B := trivial
theorem gx_s {a : Int32} {V2 : Nat → Int32} {m B : Nat} (h0 : V2 0 = nI m) (hm : m ≤ 12) (H : XG m V2 B) : gx (.inr (a, V2)) B := by
  show XG (cl (V2 0)) V2 B
  rw [h0, cl_nI (by omega)]; exact H
theorem stX.cg {V W : Nat → Int32} {s r : Nat} (h : stX V s) (e : ∀ f, f < 7 → W (30 + 8 * r + f) = V (30 + 8 * s + f)) (o : ∀ j, j < 6 → vOpen V j → vOpen W j) : stX W r := by
  obtain ⟨a, b, c, d, e1, f⟩ := h
  unfold stX
  rw [e 0 (by decide), e 1 (by decide), e 3 (by decide), e 4 (by decide), e 5 (by decide), e 6 (by decide)]
  exact ⟨fun j hj q => o j hj (a j hj q), fun j hj q => o j hj (b j hj q), fun j hj q => o j hj (c j hj q), d, e1, f⟩
theorem loc_tr {h : Nat} : loc (fun V => trc V h) := fun V W i j e => by
  show trc V h i = trc W h j
  unfold trc
  rw [e 0 (by decide), loc_wx V W i j e]
theorem op_cg {V W : Nat → Int32} (e : ∀ j, 6 ≤ j → j < 30 → W j = V j) : ∀ j, j < 6 → vOpen V j → vOpen W j := fun j hj h => (e _ (by omega) (by omega)).trans h
theorem hoX.cg {V W : Nat → Int32} {h : Nat} (H : hoX V h) (hh : h < 6) (e : ∀ j, 6 ≤ j → j < 30 → W j = V j) : hoX W h := by
  rcases H with H | ⟨H1, H2⟩
  · exact Or.inl (op_cg e h hh H)
  · exact Or.inr ⟨(e _ (by omega) (by omega)).trans H1, (e _ (by omega) (by omega)).trans H2⟩
/-- only what lies ahead of the houses is another -/
theorem XV.lo {n : Nat} {V W : Nat → Int32} (H : XV n V) (e : ∀ j, 6 ≤ j → W j = V j) : XV n W :=
  ⟨fun s hs => (H.1 s hs).cg (fun f _ => e _ (by omega)) (op_cg (fun j h _ => e j h)), fun h hh => (H.2.1 h hh).cg hh (fun j h _ => e j h), fun h hh => by
    rw [sN6_same loc_tr (V := V) (fun i hi f hf => e _ (by omega))]; exact H.2.2 h hh⟩
/-- one house's own, and it is open -/
theorem XV.ho {n j : Nat} {V W : Nat → Int32} (H : XV n V) (j6 : j < 6) (hj : vOpen V j ∨ (W (6 + 4 * j + 2) = V (6 + 4 * j + 2) ∧ W (6 + 4 * j + 3) = V (6 + 4 * j + 3))) (e : ∀ i, 6 ≤ i → (i < 6 + 4 * j + 1 ∨ 6 + 4 * j + 4 ≤ i) → W i = V i) : XV n W := by
  have ho : ∀ i, i < 6 → vOpen V i → vOpen W i := fun i hi h => (e _ (by omega) (by omega)).trans h
  refine ⟨fun s hs => ?_, fun h hh => ?_, fun h hh => ?_⟩
  · exact (H.1 s hs).cg (fun f _ => e _ (by omega) (by omega)) ho
  · by_cases z : h = j
    · subst z
      rcases hj with q | ⟨q1, q2⟩
      · exact Or.inl (ho h hh q)
      · rcases H.2.1 h hh with w | ⟨w1, w2⟩
        · exact Or.inl (ho h hh w)
        · exact Or.inr ⟨q1.trans w1, q2.trans w2⟩
    · rcases H.2.1 h hh with w | ⟨w1, w2⟩
      · exact Or.inl (ho h hh w)
      · exact Or.inr ⟨(e _ (by omega) (by omega)).trans w1, (e _ (by omega) (by omega)).trans w2⟩
  · rw [sN6_same loc_tr (V := V) (fun i hi f hf => e _ (by omega) (by omega))]; exact H.2.2 h hh
theorem tr_set {n s h : Nat} {V W : Nat → Int32} (e2 : ∀ i, i < n → i ≠ s → ∀ f, f < 8 → W (30 + 8 * i + f) = V (30 + 8 * i + f)) (ht : trc W h s ≤ trc V h s) : sN6 n (trc W h) ≤ sN6 n (trc V h) := sN6_le n (fun k hk => by
  by_cases z : k = s
  · rw [z]; exact ht
  · exact Nat.le_of_eq (loc_tr W V k k (fun f hf => e2 k hk z f hf)))
/-- one stub's own -/
theorem XV.set {n s : Nat} {V W : Nat → Int32} (H : XV n V) (e2 : ∀ i, i < n → i ≠ s → ∀ f, f < 8 → W (30 + 8 * i + f) = V (30 + 8 * i + f)) (e : ∀ j, 6 ≤ j → j < 30 → W j = V j) (hst : stX W s) (ht : ∀ h, h < 6 → trc W h s ≤ trc V h s) : XV n W := by
  refine ⟨fun i hi => ?_, fun h hh => (H.2.1 h hh).cg hh e, fun h hh => Nat.le_trans (tr_set e2 (ht h hh)) (H.2.2 h hh)⟩
  by_cases z : i = s
  · rw [z]; exact hst
  · exact (H.1 i hi).cg (fun f hf => e2 i hi z f (by omega)) (op_cg e)
/-- a stub goes -/
theorem XV.go {n s : Nat} {W : Nat → Int32} (hs : s < n) (h12 : n ≤ 12) (h1 : ∀ i, i < n → i ≠ s → stX W i) (h2 : ∀ h, h < 6 → hoX W h) (h3 : ∀ h, h < 6 → sN6 n (trc W h) ≤ 60) : XV (n - 1) (vGoes W s) := by
  have e : ∀ j, 6 ≤ j → j < 30 → vGoes W s j = W j := fun j a b => vGoes_lo (by omega) (by omega)
  refine ⟨fun i hi => ?_, fun h hh => (h2 h hh).cg hh e, fun h hh => ?_⟩
  · rcases Nat.lt_or_ge i s with z | z
    · exact (h1 i (by omega) (by omega)).cg (fun f hf => vGoes_lo (by omega) (by omega)) (op_cg e)
    · exact (h1 (i + 1) (by omega) (by omega)).cg (fun f hf => by rw [vGoes_hi (by omega) (by omega) (by omega)]; exact congrArg W (by omega)) (op_cg e)
  · have := sN6_go (loc_tr (h := h)) (V := W) (s := s) n hs h12
    have := h3 h hh
    have q : sN6 (n - 1) (trc (vGoes W s) h) + trc W h s = sN6 n (trc W h) := sN6_go (loc_tr (h := h)) (V := W) (s := s) n hs h12
    omega
theorem GV.mono {n B C : Nat} {V : Nat → Int32} (G : GV n V B) (h : B ≤ C) : GV n V C := ⟨fun j a b => by
  obtain ⟨x, hx, e⟩ := G.1 j a b; exact ⟨x, by omega, e⟩, fun s hs => by
  obtain ⟨x, hx, e⟩ := G.2 s hs; exact ⟨x, by omega, e⟩⟩
theorem GV.cg {n B : Nat} {V W : Nat → Int32} (G : GV n V B) (e : ∀ j, 2 ≤ j → j ≤ 5 → W j = V j) (e2 : ∀ s, s < n → W (30 + 8 * s + 7) = V (30 + 8 * s + 7)) : GV n W B := ⟨fun j a b => by
  obtain ⟨x, hx, q⟩ := G.1 j a b; exact ⟨x, hx, (e j a b).trans q⟩, fun s hs => by
  obtain ⟨x, hx, q⟩ := G.2 s hs; exact ⟨x, hx, (e2 s hs).trans q⟩⟩
theorem GV.go {n B s : Nat} {W : Nat → Int32} (G : GV n W B) (hs : s < n) (h12 : n ≤ 12) : GV (n - 1) (vGoes W s) B := by
  refine ⟨fun j a b => ?_, fun i hi => ?_⟩
  · obtain ⟨x, hx, q⟩ := G.1 j a b; exact ⟨x, hx, (vGoes_lo (by omega) (by omega)).trans q⟩
  · rcases Nat.lt_or_ge i s with z | z
    · obtain ⟨x, hx, q⟩ := G.2 i (by omega); exact ⟨x, hx, (vGoes_lo (by omega) (by omega)).trans q⟩
    · obtain ⟨x, hx, q⟩ := G.2 (i + 1) (by omega); exact ⟨x, hx, by rw [vGoes_hi (by omega) (by omega) (by omega), ← q]; exact congrArg W (by omega)⟩
/-- a stub is made -/
theorem XG.mk {n B j w k : Nat} {W : Nat → Int32} (hn : n < 12) (H : XG n W B) (hj : j < 6) (hw0 : 1 ≤ w) (hw : w ≤ 30) (ho : vOpen W j) (ht : sN6 n (trc W j) + w + 1 ≤ 60) : XG (n + 1) (vMk W n (nI j) (nI w) (nI k)) B := by
  have lo : ∀ i, 0 < i → i < 30 + 8 * n → vMk W n (nI j) (nI w) (nI k) i = W i := fun i h0 h => vMk_lo h h0
  have g := @vMk_ge W n (nI j) (nI w) (nI k)
  have eo : ∀ i, 6 ≤ i → i < 30 → vMk W n (nI j) (nI w) (nI k) i = W i := fun i a b => lo i (by omega) (by omega)
  have nz : ∀ i, i < 6 → ¬ nI 0 = nI (i + 1) := fun i hi e => by have := nI_inj (by omega) (by omega) e; omega
  refine ⟨⟨fun i hi => ?_, fun h hh => (H.1.2.1 h hh).cg hh eo, fun h hh => ?_⟩, fun i a b => ?_, fun i hi => ?_⟩
  · by_cases z : i = n
    · subst z
      unfold stX
      rw [vMk_a, vMk_b, g.1, g.2.1, g.2.2.1, g.2.2.2]
      refine ⟨fun i hi e => ?_, fun i hi e => absurd e (nz i hi), fun i hi e => absurd e (nz i hi), Iff.rfl, Iff.rfl, fun e => by have := nI_inj (by omega) (by omega) e; omega⟩
      have := nI_inj (by omega) (by omega) e
      rw [this]
      exact op_cg eo j hj ho
    · exact (H.1.1 i (by omega)).cg (fun f hf => lo _ (by omega) (by omega)) (op_cg eo)
  · have e1 : sN6 (n + 1) (trc (vMk W n (nI j) (nI w) (nI k)) h) = sN6 n (trc (vMk W n (nI j) (nI w) (nI k)) h) + trc (vMk W n (nI j) (nI w) (nI k)) h n := rfl
    have e2 : sN6 n (trc (vMk W n (nI j) (nI w) (nI k)) h) = sN6 n (trc W h) := sN6_same loc_tr (V := W) (fun i hi f hf => lo _ (by omega) (by omega))
    have e3 : trc (vMk W n (nI j) (nI w) (nI k)) h n ≤ if h = j then w + 1 else 0 := by
      unfold trc wxc
      rw [vMk_a, vMk_b, cl_nI (by omega)]
      by_cases z : h = j
      · rw [if_pos z, z, if_pos rfl]; exact Nat.le_refl _
      · rw [if_neg (fun e => z (nI_inj (by omega) (by omega) e)), if_neg z]; exact Nat.le_refl _
    have := H.1.2.2 h hh
    rw [e1, e2]
    by_cases z : h = j
    · subst z; rw [if_pos rfl] at e3; omega
    · rw [if_neg z] at e3; omega
  · obtain ⟨x, hx, q⟩ := H.2.1 i a b; exact ⟨x, hx, (lo i (by omega) (by omega)).trans q⟩
  · by_cases z : i = n
    · subst z; exact ⟨0, Nat.zero_le _, vMk_hi (by omega) (by omega)⟩
    · obtain ⟨x, hx, q⟩ := H.2.2 i (by omega); exact ⟨x, hx, (lo _ (by omega) (by omega)).trans q⟩
theorem gx_Makes {n B j w k : Nat} {W : Nat → Int32} (hn : n ≤ 12) (H : XG n W B) (hI : mTray n W (nI j) = nI (sN6 n (trc W j))) (hj : j < 6) (hw0 : 1 ≤ w) (hw : w ≤ 30) (ho : vOpen W j) : gx (vMakes n W (nI j) (nI w) (nI k)) B := by
  have h60 := H.1.2.2 j hj
  refine gx_if (fun h => gx_if (fun _ => gx_l) (fun h12 => gx_s vMk_0 (by omega) (H.mk (by omega) hj hw0 hw ho ?_))) (fun _ => gx_l)
  rw [hI, nI_add, nI_add] at h
  exact (nle (by omega) (by omega)).mp h
theorem XG.mono {n B C : Nat} {V : Nat → Int32} (H : XG n V B) (h : B ≤ C) : XG n V C := ⟨H.1, H.2.mono h⟩
theorem gx_S {n B : Nat} {V : Nat → Int32} {a w k : Int32} (H : IV n V B) (X : XG n V B) : gx (oS n V a w k) (B + 30) := by
  refine gx_if (fun _ => gx_l) (fun hb => ?_)
  obtain ⟨j, j1, j2, rfl⟩ := in_R hb
  rw [cl_nI (by omega)]
  refine gx_if (fun _ => gx_l) (fun hm => gx_if (fun ho => ?_) (fun _ => gx_l))
  have hm1 : ¬ badR w (nI 1) (nI 30) := fun q => hm (Or.inl q)
  have hm2 : ¬ badR k (nI 1) (nI 9) := fun q => hm (Or.inr q)
  obtain ⟨w', w1, w2, rfl⟩ := in_R hm1
  obtain ⟨k', k1, k2, rfl⟩ := in_R hm2
  have e : ∀ i, i ≠ 1 → vup V 1 (V 1 + nI w') i = V i := fun i hi => updJ hi
  have X2 : XG n (vup V 1 (V 1 + nI w')) B := ⟨X.1.lo (fun i hi => e i (by omega)), X.2.cg (fun i a b => e i (by omega)) (fun i hi => e _ (by omega))⟩
  refine gx_Makes H.2.1 (X2.mono (by omega)) ?_ (by omega) w1 w2 (op_cg (fun i a b => e i (by omega)) j (by omega) ho)
  rw [sN6_same loc_tr (V := V) (fun i hi f hf => e _ (by omega)), ← tray_nat H]
  exact mT_lo (by omega)
theorem gx_M {n B : Nat} {V : Nat → Int32} {a w k : Int32} (H : IV n V B) (X : XG n V B) : gx (oM n V a w k) (B + 30) := by
  refine gx_if (fun _ => gx_l) (fun hb => ?_)
  obtain ⟨j, j1, j2, rfl⟩ := in_R hb
  rw [cl_nI (by omega)]
  refine gx_if (fun _ => gx_l) (fun hm => gx_if (fun ho => gx_if (fun hs => ?_) (fun _ => gx_l)) (fun _ => gx_l))
  have hm1 : ¬ badR w (nI 1) (nI 30) := fun q => hm (Or.inl q)
  have hm2 : ¬ badR k (nI 1) (nI 9) := fun q => hm (Or.inr q)
  obtain ⟨w', w1, w2, rfl⟩ := in_R hm1
  obtain ⟨k', k1, k2, rfl⟩ := in_R hm2
  have e : ∀ i, i ≠ 6 + 4 * j + 2 → vup V (6 + 4 * j + 2) (V (6 + 4 * j + 2) - nI w') i = V i := fun i hi => updJ hi
  have X2 : XG n (vup V (6 + 4 * j + 2) (V (6 + 4 * j + 2) - nI w')) B := ⟨X.1.ho (j := j) (by omega) (Or.inl ho) (fun i hi h => e i (by omega)), X.2.cg (fun i a b => e i (by omega)) (fun i hi => e _ (by omega))⟩
  refine gx_Makes H.2.1 (X2.mono (by omega)) ?_ (by omega) w1 w2 ((e _ (by omega)).trans ho)
  rw [sN6_same loc_tr (V := V) (fun i hi f hf => e _ (by omega)), ← tray_nat H]
  exact mT_lo (by omega)
theorem gx_B2 {n B s : Nat} {W : Nat → Int32} {p : Int32} (h0 : W 0 = nI n) (hs : s < n) (h12 : n ≤ 12) (h1 : ∀ i, i < n → i ≠ s → stX W i) (h2 : ∀ h, h < 6 → hoX W h) (h3 : ∀ h, h < 6 → sN6 n (trc W h) ≤ 60) (h4 : ¬ W (30 + 8 * s + 1) = nI 0 → stX W s) (G : GV n W B) : gx (vBurn2 s p W) B :=
  gx_if (fun _ => gx_s (m := n - 1) (by rw [vGoes_0, h0, nI_sub (by omega)]) (by omega) ⟨XV.go hs h12 h1 h2 h3, G.go hs h12⟩) (fun e => gx_s h0 h12 ⟨⟨fun i hi => by
    by_cases z : i = s
    · rw [z]; exact h4 e
    · exact h1 i hi z, h2, h3⟩, G⟩)
theorem gx_B {n B : Nat} {V : Nat → Int32} {a x : Int32} (H : IV n V B) (X : XG n V B) : gx (oB n V a x) (B + 30) := by
  have h12 := H.2.1
  refine gx_if (fun _ => gx_l) (fun hb => ?_)
  rcases caseS (n := n) (by omega) a with h | ⟨s, hs, rfl⟩
  · exact absurd h hb
  rw [cl_nI (by omega)]
  refine gx_if (fun _ => gx_l) (fun hR => gx_if (fun hsn => gx_if (fun hle => ?_) (fun _ => gx_l)) (fun _ => gx_l))
  obtain ⟨y, y1, y2, rfl⟩ := in_R hR
  obtain ⟨o, w, k, t, u, z, b, h0, h1, h2, h3, h4, h5, h6, b0, b1, b2, b3, b4, b5, b6, b7, b8⟩ := H.2.2.1 s hs
  have hyk : y * k ≤ 30 * 9 := Nat.mul_le_mul y2 b2
  rw [h4, h2, nI_mul]
  rw [h1] at hle
  have hle := (nle (by omega) (by omega)).mp hle
  have key : ∀ p, p ≤ u → p ≤ y * k → gx (vBurn1 s (nI p) (vB6 V s (nI y) (nI (y * k)) (nI p))) (B + 30) := by
    intro p hp hpy
    obtain ⟨W, eW⟩ : ∃ W, W = vB6 V s (nI y) (nI (y * k)) (nI p) := ⟨_, rfl⟩
    have at_ : ∀ j, j ≠ 30 + 8 * s + 1 → j ≠ 2 → j ≠ 3 → j ≠ 30 + 8 * s + 7 → j ≠ 30 + 8 * s + 4 → j ≠ 4 → W j = V j := fun j a1 a2 a3 a4 a5 a6 => by rw [eW]; exact vB6_at a1 a2 a3 a4 a5 a6
    have ew : W (30 + 8 * s + 1) = nI (w - y) := by rw [eW, vB6_w, h1, nI_sub hle]
    have eu : W (30 + 8 * s + 4) = nI (u - p) := by rw [eW, vB6_o, h4, nI_sub hp]
    have g2 : W 2 = V 2 + nI y := by rw [eW, vB6_2]
    have g3 : W 3 = V 3 + nI (y * k) := by
      rw [eW]; unfold vB6
      rw [updJ (by omega), updJ (by omega), updJ (by omega), updE, updJ (by omega), updJ (by omega)]
    have g4 : W 4 = V 4 + nI p := by
      rw [eW]; unfold vB6
      rw [updE, updJ (by omega), updJ (by omega), updJ (by omega), updJ (by omega), updJ (by omega)]
    have g7 : W (30 + 8 * s + 7) = V (30 + 8 * s + 7) + nI (y * k) := by
      rw [eW]; unfold vB6
      rw [updJ (by omega), updJ (by omega), updE, updJ (by omega), updJ (by omega), updJ (by omega)]
    rw [← eW]
    have hO : ∀ i, i < n → i ≠ s → ∀ f, f < 8 → W (30 + 8 * i + f) = V (30 + 8 * i + f) := fun i hi hz f hf => at_ _ (by omega) (by omega) (by omega) (by omega) (by omega) (by omega)
    have hH : ∀ j, 6 ≤ j → j < 30 → W j = V j := fun j a b => at_ _ (by omega) (by omega) (by omega) (by omega) (by omega) (by omega)
    have hT : ∀ h, h < 6 → trc W h s ≤ trc V h s := fun h hh => by
      have q1 : wxc W s = w - y := by unfold wxc; rw [ew, cl_nI (by omega)]
      have q2 : wxc V s = w := by unfold wxc; rw [h1, cl_nI (by omega)]
      have q3 : W (30 + 8 * s + 0) = V (30 + 8 * s + 0) := at_ _ (by omega) (by omega) (by omega) (by omega) (by omega) (by omega)
      unfold trc
      rw [q1, q2, q3]
      split <;> omega
    have G : GV n W (B + 30) := by
      refine ⟨fun j a c => ?_, fun i hi => ?_⟩
      · obtain ⟨x, hx, q⟩ := X.2.1 j a c
        match j, a, c with
        | 2, _, _ => exact ⟨x + y, by omega, by rw [g2, q, nI_add]⟩
        | 3, _, _ => exact ⟨x + y * k, by omega, by rw [g3, q, nI_add]⟩
        | 4, _, _ => exact ⟨x + p, by omega, by rw [g4, q, nI_add]⟩
        | 5, _, _ => exact ⟨x, by omega, by rw [at_ _ (by omega) (by omega) (by omega) (by omega) (by omega) (by omega)]; exact q⟩
        | j + 6, _, _ => omega
      · obtain ⟨x, hx, q⟩ := X.2.2 i hi
        by_cases hz : i = s
        · subst hz; exact ⟨x + y * k, by omega, by rw [g7, q, nI_add]⟩
        · exact ⟨x, by omega, (hO i hi hz 7 (by decide)).trans q⟩
    have hX := X.1.1 s hs
    have W0 : W 0 = nI n := (at_ _ (by omega) (by omega) (by omega) (by omega) (by omega) (by omega)).trans H.1
    have at3 : ∀ j, j ≠ 30 + 8 * s + 3 → vup W (30 + 8 * s + 3) (nI 0) j = W j := fun j hj => updJ hj
    refine gx_if (fun e0 => ?_) (fun e0 => ?_)
    · refine gx_B2 (W := vup W (30 + 8 * s + 3) (nI 0)) ((at3 _ (by omega)).trans W0) hs h12 (fun i hi hz => (X.1.1 i hi).cg (fun f hf => (at3 _ (by omega)).trans (hO i hi hz f (by omega))) (op_cg (fun j a b => (at3 _ (by omega)).trans (hH j a b)))) (fun h hh => (X.1.2.1 h hh).cg hh (fun j a b => (at3 _ (by omega)).trans (hH j a b))) (fun h hh => ?_) (fun hw => ?_) (G.cg (fun j a b => at3 _ (by omega)) (fun i hi => at3 _ (by omega)))
      · have q : sN6 n (trc (vup W (30 + 8 * s + 3) (nI 0)) h) = sN6 n (trc W h) := sN6_congr n (fun i hi => by unfold trc wxc; rw [at3 _ (by omega), at3 _ (by omega)])
        rw [q]; exact Nat.le_trans (tr_set hO (hT h hh)) (X.1.2.2 h hh)
      · obtain ⟨x1, x2, x3, x4, x5, x6⟩ := hX
        have c : ∀ f, f ≠ 3 → f < 8 → f ≠ 1 → f ≠ 4 → f ≠ 7 → vup W (30 + 8 * s + 3) (nI 0) (30 + 8 * s + f) = V (30 + 8 * s + f) := fun f a1 a2 a3 a4 a5 => (at3 _ (by omega)).trans (at_ _ (by omega) (by omega) (by omega) (by omega) (by omega) (by omega))
        have oc : ∀ j, j < 6 → vOpen V j → vOpen (vup W (30 + 8 * s + 3) (nI 0)) j := op_cg (fun j a b => (at3 _ (by omega)).trans (hH j a b))
        refine ⟨fun j hj e => oc j hj (x1 j hj ((c 0 (by decide) (by decide) (by decide) (by decide) (by decide)).symm.trans e)), fun j hj e => ?_, fun j hj e => oc j hj (x3 j hj ((c 6 (by decide) (by decide) (by decide) (by decide) (by decide)).symm.trans e)), ?_, ?_, hw⟩
        · rw [updE] at e; have := nI_inj (by omega) (by omega) e; omega
        · rw [updE, at3 _ (by omega)]; exact ⟨fun _ => e0, fun _ => rfl⟩
        · rw [c 6 (by decide) (by decide) (by decide) (by decide) (by decide), c 5 (by decide) (by decide) (by decide) (by decide) (by decide)]; exact x5
    · refine gx_B2 W0 hs h12 (fun i hi hz => (X.1.1 i hi).cg (fun f hf => hO i hi hz f (by omega)) (op_cg hH)) (fun h hh => (X.1.2.1 h hh).cg hh hH) (fun h hh => Nat.le_trans (tr_set hO (hT h hh)) (X.1.2.2 h hh)) (fun hw => ?_) G
      obtain ⟨x1, x2, x3, x4, x5, x6⟩ := hX
      have c : ∀ f, f < 8 → f ≠ 1 → f ≠ 4 → f ≠ 7 → W (30 + 8 * s + f) = V (30 + 8 * s + f) := fun f a2 a3 a4 a5 => at_ _ (by omega) (by omega) (by omega) (by omega) (by omega) (by omega)
      refine ⟨fun j hj e => op_cg hH j hj (x1 j hj ((c 0 (by decide) (by decide) (by decide) (by decide)).symm.trans e)), fun j hj e => op_cg hH j hj (x2 j hj ((c 3 (by decide) (by decide) (by decide) (by decide)).symm.trans e)), fun j hj e => op_cg hH j hj (x3 j hj ((c 6 (by decide) (by decide) (by decide) (by decide)).symm.trans e)), ?_, ?_, hw⟩
      · rw [c 3 (by decide) (by decide) (by decide) (by decide)]
        refine ⟨fun e => ?_, fun e => absurd e e0⟩
        have := x4.mp e
        rw [h4] at this
        have q := nI_inj (by omega) (by omega) this
        rw [eu, show u - p = 0 by omega]
      · rw [c 6 (by decide) (by decide) (by decide) (by decide), c 5 (by decide) (by decide) (by decide) (by decide)]; exact x5
  refine gx_if (fun hl => ?_) (fun hl => ?_)
  · have hl := (nlt (by omega) (by omega)).mp hl
    exact key u (Nat.le_refl _) (by omega)
  · have hl := Nat.not_lt.mp (fun q => hl ((nlt (by omega) (by omega)).mpr q))
    exact key (y * k) hl (Nat.le_refl _)
