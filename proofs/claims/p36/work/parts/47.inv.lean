/-! what holds of every row that is reached -/
def stI (V : Nat → Int32) (s : Nat) : Prop := ∃ o w k t u z b : Nat, V (30 + 8 * s + 0) = nI o ∧ V (30 + 8 * s + 1) = nI w ∧ V (30 + 8 * s + 2) = nI k ∧ V (30 + 8 * s + 3) = nI t ∧ V (30 + 8 * s + 4) = nI u ∧ V (30 + 8 * s + 5) = nI z ∧ V (30 + 8 * s + 6) = nI b ∧ o < 6 ∧ w ≤ 30 ∧ k ≤ 9 ∧ t ≤ 6 ∧ u ≤ 90 ∧ z ≤ 24 ∧ b ≤ 6 ∧ t ≠ o + 1 ∧ b ≠ o + 1
def hoI (V : Nat → Int32) (h : Nat) : Prop := ∃ o e s p : Nat, V (6 + 4 * h + 0) = nI o ∧ V (6 + 4 * h + 1) = nI e ∧ V (6 + 4 * h + 2) = nI s ∧ V (6 + 4 * h + 3) = nI p ∧ o ≤ 1 ∧ e < 6 ∧ s < 1073741824 ∧ p < 1073741824
def wxc (V : Nat → Int32) (s : Nat) : Nat := cl (V (30 + 8 * s + 1))
def stc (V : Nat → Int32) (h : Nat) : Nat := cl (V (6 + 4 * h + 2))
def poc (V : Nat → Int32) (h : Nat) : Nat := cl (V (6 + 4 * h + 3))
def wrc (h : Nat) (V : Nat → Int32) (s : Nat) : Nat := if V (30 + 8 * s + 6) = nI (h + 1) then 1 else 0
def SM (n : Nat) (V : Nat → Int32) : Nat := sN6 n (wxc V) + sN6 6 (stc V) + sN6 6 (poc V)
def IV (n : Nat) (V : Nat → Int32) (B : Nat) : Prop := V 0 = nI n ∧ n ≤ 12 ∧ (∀ s, s < n → stI V s) ∧ (∀ h, h < 6 → hoI V h) ∧ (∃ h, h < 6 ∧ vOpen V h) ∧ (∀ h, h < 6 → sN6 n (wrc h V) ≤ 2) ∧ V 1 = nI (SM n V) + V 2 ∧ SM n V ≤ B
/-- a count of stubs that looks at one stub at a time -/
def loc (g : (Nat → Int32) → Nat → Nat) : Prop := ∀ V W i j, (∀ f, f < 8 → V (30 + 8 * i + f) = W (30 + 8 * j + f)) → g V i = g W j
theorem loc_wx : loc wxc := fun V W i j h => by unfold wxc; rw [h 1 (by decide)]
theorem loc_wr {h : Nat} : loc (wrc h) := fun V W i j e => by unfold wrc; rw [e 6 (by decide)]
theorem sN6_same {g : (Nat → Int32) → Nat → Nat} (hg : loc g) {V W : Nat → Int32} {n : Nat} (h : ∀ i, i < n → ∀ f, f < 8 → W (30 + 8 * i + f) = V (30 + 8 * i + f)) : sN6 n (g W) = sN6 n (g V) := sN6_congr n (fun i hi => hg _ _ _ _ (h i hi))
theorem sN6_set {g : (Nat → Int32) → Nat → Nat} (hg : loc g) {V W : Nat → Int32} {s : Nat} (h : ∀ i, i ≠ s → ∀ f, f < 8 → W (30 + 8 * i + f) = V (30 + 8 * i + f)) : ∀ n, s < n → sN6 n (g W) + g V s = sN6 n (g V) + g W s := by
  intro n
  induction n with
  | zero => intro hs; omega
  | succ n ih =>
    intro hs
    rw [sN6, sN6]
    by_cases e : s = n
    · subst e
      have := sN6_same hg (V := V) (W := W) (n := s) (fun i hi => h i (by omega))
      omega
    · have := ih (by omega)
      have e2 := hg _ _ n n (h n (fun z => e z.symm))
      omega
theorem sN6_go {g : (Nat → Int32) → Nat → Nat} (hg : loc g) {V : Nat → Int32} {s : Nat} : ∀ n, s < n → n ≤ 12 → sN6 (n - 1) (g (vGoes V s)) + g V s = sN6 n (g V) := by
  intro n
  induction n with
  | zero => intro hs; omega
  | succ n ih =>
    intro hs h12
    rw [Nat.add_sub_cancel]
    by_cases e : s = n
    · subst e
      rw [sN6]
      have := sN6_same hg (V := V) (W := vGoes V s) (n := s) (fun i hi f hf => vGoes_lo (by omega) (by omega))
      omega
    · obtain ⟨q, rfl⟩ : ∃ q, n = q + 1 := ⟨n - 1, by omega⟩
      rw [sN6, sN6]
      have := ih (by omega) (by omega)
      rw [Nat.add_sub_cancel] at this
      have e2 : g (vGoes V s) q = g V (q + 1) := hg _ _ _ _ (fun f hf => (vGoes_hi (by omega) (by omega) (by omega)).trans (congrArg V (by omega)))
      omega
theorem sN6_h {f : (Nat → Int32) → Nat → Nat} {V W : Nat → Int32} {j : Nat} (h : ∀ i, i ≠ j → f W i = f V i) : ∀ n, j < n → sN6 n (f W) + f V j = sN6 n (f V) + f W j := by
  intro n
  induction n with
  | zero => intro hs; omega
  | succ n ih =>
    intro hs
    rw [sN6, sN6]
    by_cases e : j = n
    · subst e
      have := sN6_congr (f := f W) (g := f V) j (fun i hi => h i (by omega))
      omega
    · have := ih (by omega)
      have e2 := h n (fun z => e z.symm)
      omega
theorem st_up {V : Nat → Int32} {i j : Nat} {x : Int32} (h : j ≠ 6 + 4 * i + 2) : stc (vup V j x) i = stc V i := by unfold stc; rw [updJ (fun z => h z.symm)]
theorem po_up {V : Nat → Int32} {i j : Nat} {x : Int32} (h : j ≠ 6 + 4 * i + 3) : poc (vup V j x) i = poc V i := by unfold poc; rw [updJ (fun z => h z.symm)]
theorem stI.cg {V W : Nat → Int32} {s r : Nat} (h : stI V s) (e : ∀ f, f < 7 → W (30 + 8 * r + f) = V (30 + 8 * s + f)) : stI W r := by
  obtain ⟨o, w, k, t, u, z, b, h0, h1, h2, h3, h4, h5, h6, hh⟩ := h
  exact ⟨o, w, k, t, u, z, b, (e 0 (by decide)).trans h0, (e 1 (by decide)).trans h1, (e 2 (by decide)).trans h2, (e 3 (by decide)).trans h3, (e 4 (by decide)).trans h4, (e 5 (by decide)).trans h5, (e 6 (by decide)).trans h6, hh⟩
theorem hoI.cg {V W : Nat → Int32} {h : Nat} (H : hoI V h) (e : ∀ f, f < 4 → W (6 + 4 * h + f) = V (6 + 4 * h + f)) : hoI W h := by
  obtain ⟨o, x, s, p, h0, h1, h2, h3, hh⟩ := H
  exact ⟨o, x, s, p, (e 0 (by decide)).trans h0, (e 1 (by decide)).trans h1, (e 2 (by decide)).trans h2, (e 3 (by decide)).trans h3, hh⟩
theorem IV.ext {n B : Nat} {V W : Nat → Int32} (H : IV n V B) (e : ∀ j, j < 126 → W j = V j) : IV n W B := by
  obtain ⟨a1, a2, a3, a4, ⟨h, hh, ho⟩, a6, a7, a8⟩ := H
  have s1 : sN6 n (wxc W) = sN6 n (wxc V) := sN6_same loc_wx (fun i hi f hf => e _ (by omega))
  have s2 : sN6 6 (stc W) = sN6 6 (stc V) := sN6_congr 6 (fun i hi => by unfold stc; rw [e _ (by omega)])
  have s3 : sN6 6 (poc W) = sN6 6 (poc V) := sN6_congr 6 (fun i hi => by unfold poc; rw [e _ (by omega)])
  have sm : SM n W = SM n V := by unfold SM; rw [s1, s2, s3]
  refine ⟨(e 0 (by decide)).trans a1, a2, fun s hs => (a3 s hs).cg (fun f hf => e _ (by omega)), fun i hi => (a4 i hi).cg (fun f hf => e _ (by omega)), ⟨h, hh, (e _ (by omega)).trans ho⟩, fun i hi => ?_, ?_, by rw [sm]; exact a8⟩
  · rw [sN6_same loc_wr (fun i hi f hf => e _ (by omega))]; exact a6 i hi
  · rw [sm, e 1 (by decide), e 2 (by decide)]; exact a7
theorem IV.mono {n B C : Nat} {V : Nat → Int32} (H : IV n V B) (h : B ≤ C) : IV n V C := ⟨H.1, H.2.1, H.2.2.1, H.2.2.2.1, H.2.2.2.2.1, H.2.2.2.2.2.1, H.2.2.2.2.2.2.1, Nat.le_trans H.2.2.2.2.2.2.2 h⟩
/-- changes of one stub's debts, writs, light: the wax stands -/
theorem IV.stub {n B s : Nat} {V W : Nat → Int32} (H : IV n V B) (hs : s < n) (e : ∀ j, j < 30 → W j = V j ∨ j = 3 ∨ j = 4 ∨ j = 5) (e2 : ∀ i, i < n → i ≠ s → ∀ f, f < 8 → W (30 + 8 * i + f) = V (30 + 8 * i + f)) (hst : stI W s) (hw : W (30 + 8 * s + 1) = V (30 + 8 * s + 1)) (hr : ∀ h, h < 6 → wrc h W s ≤ wrc h V s ∨ sN6 n (wrc h V) ≤ 1) : IV n W B := by
  obtain ⟨a1, a2, a3, a4, ⟨h, hh, ho⟩, a6, a7, a8⟩ := H
  have eh : ∀ i, i < 6 → ∀ f, f < 4 → W (6 + 4 * i + f) = V (6 + 4 * i + f) := fun i hi f hf => by
    rcases e (6 + 4 * i + f) (by omega) with z | z | z | z
    · exact z
    · omega
    · omega
    · omega
  let W2 : Nat → Int32 := fun j => if j < 30 + 8 * n then W j else V j
  have w2 : ∀ j, j < 30 + 8 * n → W2 j = W j := fun j hj => if_pos hj
  have w3 : ∀ i, i ≠ s → ∀ f, f < 8 → W2 (30 + 8 * i + f) = V (30 + 8 * i + f) := fun i hi f hf => by
    by_cases z : i < n
    · rw [w2 _ (by omega)]; exact e2 i z hi f hf
    · exact if_neg (by omega)
  have cs : ∀ {g : (Nat → Int32) → Nat → Nat}, loc g → sN6 n (g W) + g V s = sN6 n (g V) + g W s := fun {g} hg => by
    have h1 := sN6_set hg w3 n hs
    have h2 := sN6_same hg (V := W) (W := W2) (n := n) (fun i hi f hf => w2 _ (by omega))
    have h3 : g W2 s = g W s := hg _ _ _ _ (fun f hf => w2 _ (by omega))
    omega
  have s1 : sN6 n (wxc W) = sN6 n (wxc V) := by
    have := cs loc_wx
    have e3 : wxc W s = wxc V s := by unfold wxc; rw [hw]
    omega
  have s2 : sN6 6 (stc W) = sN6 6 (stc V) := sN6_congr 6 (fun i hi => by unfold stc; rw [eh i hi 2 (by decide)])
  have s3 : sN6 6 (poc W) = sN6 6 (poc V) := sN6_congr 6 (fun i hi => by unfold poc; rw [eh i hi 3 (by decide)])
  have sm : SM n W = SM n V := by unfold SM; rw [s1, s2, s3]
  have q0 : W 0 = V 0 := (e 0 (by decide)).resolve_right (by decide)
  have q1 : W 1 = V 1 := (e 1 (by decide)).resolve_right (by decide)
  have q2 : W 2 = V 2 := (e 2 (by decide)).resolve_right (by decide)
  refine ⟨q0.trans a1, a2, fun i hi => ?_, fun i hi => (a4 i hi).cg (eh i hi), ⟨h, hh, (eh h hh 0 (by decide)).trans ho⟩, fun i hi => ?_, ?_, by rw [sm]; exact a8⟩
  · by_cases z : i = s
    · rw [z]; exact hst
    · exact (a3 i hi).cg (fun f hf => e2 i hi z f (by omega))
  · have c := cs (loc_wr (h := i))
    have a := a6 i hi
    have b : wrc i W s ≤ 1 := by unfold wrc; split <;> omega
    rcases hr i hi with z | z <;> omega
  · rw [sm, q1, q2]; exact a7
theorem nI_sb {a b : Nat} (h : b ≤ a) (hb : a < 2147483648) : cl (nI a - nI b) = a - b := by rw [nI_sub h, cl_nI (by omega)]
/-- a stub whose wax is out goes -/
theorem IV.goes {n B s : Nat} {V : Nat → Int32} (H : IV n V B) (hs : s < n) (hw : V (30 + 8 * s + 1) = nI 0) : IV (n - 1) (vGoes V s) B := by
  obtain ⟨a1, a2, a3, a4, ⟨h, hh, ho⟩, a6, a7, a8⟩ := H
  have lo : ∀ j, j < 30 → j ≠ 0 → vGoes V s j = V j := fun j hj h0 => vGoes_lo (by omega) h0
  have s1 : sN6 (n - 1) (wxc (vGoes V s)) = sN6 n (wxc V) := by
    have := sN6_go loc_wx (V := V) n hs a2
    have e3 : wxc V s = 0 := by unfold wxc; rw [hw, cl_nI (by decide)]
    omega
  have s2 : sN6 6 (stc (vGoes V s)) = sN6 6 (stc V) := sN6_congr 6 (fun i hi => by unfold stc; rw [lo _ (by omega) (by omega)])
  have s3 : sN6 6 (poc (vGoes V s)) = sN6 6 (poc V) := sN6_congr 6 (fun i hi => by unfold poc; rw [lo _ (by omega) (by omega)])
  have sm : SM (n - 1) (vGoes V s) = SM n V := by unfold SM; rw [s1, s2, s3]
  refine ⟨vGoes_0n a1 (by omega), by omega, fun i hi => ?_, fun i hi => (a4 i hi).cg (fun f hf => lo _ (by omega) (by omega)), ⟨h, hh, (lo _ (by omega) (by omega)).trans ho⟩, fun i hi => ?_, ?_, by rw [sm]; exact a8⟩
  · by_cases z : i < s
    · exact (a3 i (by omega)).cg (fun f hf => vGoes_lo (by omega) (by omega))
    · exact (a3 (i + 1) (by omega)).cg (fun f hf => (vGoes_hi (by omega) (by omega) (by omega)).trans (congrArg V (by omega)))
  · have := sN6_go (loc_wr (h := i)) (V := V) n hs a2
    have := a6 i hi
    omega
  · rw [sm, lo 1 (by decide) (by decide), lo 2 (by decide) (by decide)]; exact a7
theorem ne_in {a b : Nat} (h : ¬ nI a = nI b) : a ≠ b := fun e => h (by rw [e])
theorem in_R {x : Int32} {a b : Nat} (h : ¬ badR x (nI a) (nI b)) (hb : b < 2147483648 := by decide) (hab : a ≤ b := by decide) : ∃ j, a ≤ j ∧ j ≤ b ∧ x = nI j := nI_bounds hb h hab
