/-! what the methods mean, as functions of a row of 126 numbers -/
noncomputable def ifp {α : Type} (p : Prop) (a b : α) : α := @ite α p (Classical.propDecidable p) a b
theorem ifp_t {α : Type} {p : Prop} {a b : α} (h : p) : ifp p a b = a := by unfold ifp; rw [if_pos h]
theorem ifp_f {α : Type} {p : Prop} {a b : α} (h : ¬ p) : ifp p a b = b := by unfold ifp; rw [if_neg h]
/-- the reference's pieces, over its row of ints -/
def vOpen (V : Nat → Int32) (h : Nat) : Prop := V (6 + 4 * h + 0) = nI 1
noncomputable def mOpens (V : Nat → Int32) : Int32 := sumN 6 (fun h => V (6 + 4 * h + 0))
noncomputable def mPooled (V : Nat → Int32) : Int32 := sumN 6 (fun h => V (6 + 4 * h + 3))
noncomputable def mStores (V : Nat → Int32) : Int32 := sumN 6 (fun h => V (6 + 4 * h + 2))
noncomputable def mTray (n : Nat) (V : Nat → Int32) (h : Int32) : Int32 := sumN n (fun s => ifp (V (30 + 8 * s + 0) = h) (V (30 + 8 * s + 1) + nI 1) (nI 0))
noncomputable def mOwed (n : Nat) (V : Nat → Int32) (h : Int32) : Int32 := sumN n (fun s => ifp (V (30 + 8 * s + 3) = h + nI 1) (V (30 + 8 * s + 4)) (nI 0))
noncomputable def mWritsH (n : Nat) (V : Nat → Int32) (h : Int32) : Int32 := sumN n (fun s => ifp (V (30 + 8 * s + 6) = h + nI 1) (nI 1) (nI 0))
noncomputable def mWrits (n : Nat) (V : Nat → Int32) : Int32 := sumN n (fun s => ifp (V (30 + 8 * s + 6) ≤ 0) (nI 0) (nI 1))
noncomputable def mOfAll (n : Nat) (V : Nat → Int32) (w : Nat) : Int32 := sumN n (fun s => V (30 + 8 * s + w))
noncomputable def mCount (n : Nat) (V : Nat → Int32) (h : Int32) : Int32 := sumN n (fun s => ifp (V (30 + 8 * s + 0) = h) (nI 1) (nI 0))
noncomputable def mOwes (n : Nat) (V : Nat → Int32) (h : Int32) : Int32 := sumN n (fun s => ifp (V (30 + 8 * s + 0) = h) (V (30 + 8 * s + 4)) (nI 0))
noncomputable def mClaim (n : Nat) (V : Nat → Int32) (h : Nat) : Int32 := ifp (vOpen V h) (V (6 + 4 * h + 3) + mOwed n V (nI h)) (nI 0)
noncomputable def mClaims (n : Nat) (V : Nat → Int32) : Int32 := sumN 6 (fun h => mClaim n V h)
def badR (x : Int32) (lo hi : Int32) : Prop := x < lo ∨ hi < x
theorem inR_of {x lo hi : Int32} (h : ¬ badR x lo hi) : lo ≤ x ∧ x ≤ hi := ⟨i_nlt (fun q => h (Or.inl q)), i_nlt (fun q => h (Or.inr q))⟩
theorem nI_inR {j a b : Nat} (h1 : a ≤ j) (h2 : j ≤ b) (hb : b < 2147483648) : ¬ badR (nI j) (nI a) (nI b) := by
  rintro (h | h)
  · exact absurd ((nI_ltI (by omega) (by omega)).mp h) (by omega)
  · exact absurd ((nI_ltI (by omega) (by omega)).mp h) (by omega)
theorem nI_bounds {x : Int32} {a b : Nat} (hb : b < 2147483648) (h : ¬ badR x (nI a) (nI b)) (hab : a ≤ b) : ∃ j, a ≤ j ∧ j ≤ b ∧ x = nI j := by
  obtain ⟨h1, h2⟩ := inR_of h
  have h0 : ¬ x < 0 := by
    intro q
    exact nI_pos (n := a) (by omega) (Int32.lt_of_le_of_lt h1 q)
  obtain ⟨j, hj, rfl⟩ := nI_of h0
  exact ⟨j, (nI_leI (by omega) (by omega)).mp h1, (nI_leI (by omega) (by omega)).mp h2, rfl⟩
def badH (x : Int32) : Prop := badR x (nI 0) (nI 5)
theorem caseH (x : Int32) : badH x ∨ ∃ j, j < 6 ∧ x = nI j := by
  by_cases h : badH x
  · exact Or.inl h
  · obtain ⟨j, _, hj, rfl⟩ := nI_bounds (by omega) h (by omega)
    exact Or.inr ⟨j, by omega, rfl⟩
theorem okH {j : Nat} (h : j < 6) : ¬ badH (nI j) := nI_inR (Nat.zero_le _) (by omega) (by omega)
def badS (n : Nat) (x : Int32) : Prop := x < nI 0 ∨ nI n ≤ x
theorem caseS {n : Nat} (hn : n < 2147483648) (x : Int32) : badS n x ∨ ∃ j, j < n ∧ x = nI j := by
  by_cases h : badS n x
  · exact Or.inl h
  · have h1 : ¬ x < nI 0 := fun q => h (Or.inl q)
    have h2 : ¬ nI n ≤ x := fun q => h (Or.inr q)
    obtain ⟨j, hj, rfl⟩ := nI_of h1
    exact Or.inr ⟨j, by have := mt (nI_leI (a := n) (b := j) (by omega) (by omega)).mpr h2; omega, rfl⟩
theorem okS {n j : Nat} (h : j < n) (hn : n < 2147483648) : ¬ badS n (nI j) := by
  rintro (q | q)
  · exact nI_pos (by omega) q
  · exact absurd ((nI_leI (by omega) (by omega)).mp q) (by omega)
theorem badS_R {n : Nat} {x : Int32} (hn : n < 2147483648) (h : badS n x) : badR x (nI 0) (nI n - nI 1) := by
  rcases h with h | h
  · exact Or.inl h
  · cases n with
    | zero =>
      by_cases h0 : x < nI 0
      · exact Or.inl h0
      · exact Or.inr (Int32.lt_of_lt_of_le (show nI 0 - nI 1 < nI 0 by decide) h)
    | succ n =>
      refine Or.inr ?_
      rw [nI_sub (by omega), Nat.add_sub_cancel]
      exact Int32.lt_of_lt_of_le (nI_lt (by omega) (by omega)) h
theorem okS_R {n j : Nat} (h : j < n) (hn : n < 2147483648) : ¬ badR (nI j) (nI 0) (nI n - nI 1) := by
  rw [nI_sub (by omega)]
  exact nI_inR (by omega) (by omega) (by omega)
def badM (wax wick : Int32) : Prop := badR wax (nI 1) (nI 30) ∨ badR wick (nI 1) (nI 9)
theorem wpD {d k : Nat} {Q : Option Value → Mm → Prop} {pc : Nat} {ls st : List Value} {D D2 : Mm} (e : D = D2) (h : Wp d k Q pc ls st D2) : Wp d k Q pc ls st D := e ▸ h
abbrev Out : Type := (Int32 × List (Int32 × Int32)) ⊕ (Int32 × (Nat → Int32))
def setc (D : Mm) (c : Nat) (V : Nat → Int32) : Mm := fun q => if q = c then V else D q
theorem setc_self {D : Mm} {c : Nat} : setc D c (D c) = D := by
  funext q
  unfold setc
  by_cases h : q = c
  · rw [if_pos h, h]
  · rw [if_neg h]
theorem setcF {D : Mm} {c q : Nat} {V : Nat → Int32} (h : q ≠ c) : setc D c V q = D q := by unfold setc; rw [if_neg h]
theorem setcE {D : Mm} {c : Nat} {V : Nat → Int32} : setc D c V c = V := by unfold setc; rw [if_pos rfl]
theorem mup_setc {D : Mm} {c j : Nat} {V : Nat → Int32} {x : Int32} : mup (setc D c V) c j x = setc D c (vup V j x) := by
  funext q i
  unfold mup setc vup
  by_cases h : q = c
  · rw [if_pos h, if_pos h, if_pos h]
  · rw [if_neg h, if_neg h, if_neg h]
theorem add0 (x : Int32) : x + nI 0 = x := Int32.add_zero x
def clr (V : Nat → Int32) (n i : Nat) : Nat → Int32 := fun j => if 30 + 8 * n ≤ j ∧ j < 30 + 8 * n + i then nI 0 else V j
def shf (V : Nat → Int32) (s i : Nat) : Nat → Int32 := fun j => if 30 + 8 * s ≤ j ∧ j < 30 + 8 * s + i then (if j + 8 < 126 then V (j + 8) else nI 0) else V j
def vGoes (V : Nat → Int32) (s : Nat) : Nat → Int32 := vup (shf V s (96 - 8 * s)) 0 (V 0 - nI 1)
def vMk (V : Nat → Int32) (n : Nat) (h w k : Int32) : Nat → Int32 := vup (vup (vup (vup (clr V n 8) (30 + 8 * n + 0) h) (30 + 8 * n + 1) w) (30 + 8 * n + 2) k) 0 (nI (n + 1))
noncomputable def vMakes (n : Nat) (V : Nat → Int32) (h w k : Int32) : Out :=
  ifp (mTray n V h + w + nI 1 ≤ nI 60) (ifp (n = 12) (.inl (-1014, [(nI 1, nI 12)])) (.inr (nI n, vMk V n h w k))) (.inl (-1014, [(nI 3, mTray n V h + w + nI 1)]))
noncomputable def vComes (n : Nat) (V : Nat → Int32) (j : Nat) (w k : Int32) : Out :=
  ifp (badM w k) (.inl (-1012, [])) (ifp (vOpen V j) (vMakes n (vup V 1 (V 1 + w)) (nI j) w k) (.inl (-1014, [(nI 2, nI j)])))
noncomputable def vMoulds (n : Nat) (V : Nat → Int32) (j : Nat) (w k : Int32) : Out :=
  ifp (badM w k) (.inl (-1012, [])) (ifp (vOpen V j) (ifp (w ≤ V (6 + 4 * j + 2)) (vMakes n (vup V (6 + 4 * j + 2) (V (6 + 4 * j + 2) - w)) (nI j) w k) (.inl (-1014, [(nI 13, V (6 + 4 * j + 2))]))) (.inl (-1014, [(nI 2, nI j)])))
noncomputable def vBurn2 (s : Nat) (p : Int32) (V : Nat → Int32) : Out := ifp (V (30 + 8 * s + 1) = 0) (.inr (p, vGoes V s)) (.inr (p, V))
def vB6 (V : Nat → Int32) (s : Nat) (x l p : Int32) : Nat → Int32 :=
  let V1 := vup V (30 + 8 * s + 1) (V (30 + 8 * s + 1) - x)
  let V2 := vup V1 2 (V1 2 + x)
  let V3 := vup V2 3 (V2 3 + l)
  let V4 := vup V3 (30 + 8 * s + 7) (V3 (30 + 8 * s + 7) + l)
  let V5 := vup V4 (30 + 8 * s + 4) (V4 (30 + 8 * s + 4) - p)
  vup V5 4 (V5 4 + p)
noncomputable def vBurn1 (s : Nat) (p : Int32) (V : Nat → Int32) : Out := ifp (V (30 + 8 * s + 4) = 0) (vBurn2 s p (vup V (30 + 8 * s + 3) (nI 0))) (vBurn2 s p V)
noncomputable def vBurns (V : Nat → Int32) (s : Nat) (x : Int32) : Out :=
  ifp (badR x (nI 1) (nI 30)) (.inl (-1012, [])) (ifp (V (30 + 8 * s + 6) ≤ 0)
    (ifp (x ≤ V (30 + 8 * s + 1)) (ifp (V (30 + 8 * s + 4) < x * V (30 + 8 * s + 2)) (vBurn1 s (V (30 + 8 * s + 4)) (vB6 V s x (x * V (30 + 8 * s + 2)) (V (30 + 8 * s + 4)))) (vBurn1 s (x * V (30 + 8 * s + 2)) (vB6 V s x (x * V (30 + 8 * s + 2)) (x * V (30 + 8 * s + 2)))))
      (.inl (-1014, [(nI 4, nI s), (nI 6, V (30 + 8 * s + 1))])))
    (.inl (-1014, [(nI 4, nI s), (nI 5, V (30 + 8 * s + 5))])))
noncomputable def vOwes (n : Nat) (V : Nat → Int32) (s j : Nat) (x : Int32) : Out :=
  ifp (badR x (nI 1) (nI 90)) (.inl (-1012, [])) (ifp (vOpen V j) (ifp (V (30 + 8 * s + 0) = nI j) (.inl (-1014, [(nI 8, nI j)]))
    (ifp (V (30 + 8 * s + 3) ≤ 0) (.inr (mOwed n (vup (vup V (30 + 8 * s + 3) (nI (j + 1))) (30 + 8 * s + 4) x) (nI j), vup (vup V (30 + 8 * s + 3) (nI (j + 1))) (30 + 8 * s + 4) x))
      (.inl (-1014, [(nI 7, V (30 + 8 * s + 3) - nI 1)])))) (.inl (-1014, [(nI 2, nI j)])))
noncomputable def vSnuffs (n : Nat) (V : Nat → Int32) (j s : Nat) (x : Int32) : Out :=
  ifp (badR x (nI 1) (nI 24)) (.inl (-1012, [])) (ifp (vOpen V j) (ifp (V (30 + 8 * s + 0) = nI j) (.inl (-1014, [(nI 8, nI j)]))
    (ifp (V (30 + 8 * s + 6) ≤ 0) (ifp (mWritsH n V (nI j) = nI 2) (.inl (-1014, [(nI 1, nI 2)])) (.inr (mWrits n (vup (vup V (30 + 8 * s + 6) (nI (j + 1))) (30 + 8 * s + 5) x), vup (vup V (30 + 8 * s + 6) (nI (j + 1))) (30 + 8 * s + 5) x)))
      (.inl (-1014, [(nI 9, V (30 + 8 * s + 5))])))) (.inl (-1014, [(nI 2, nI j)])))
noncomputable def vPools (V : Nat → Int32) (s o : Nat) (x : Int32) : Out :=
  ifp (badR x (nI 1) (nI 30)) (.inl (-1012, [])) (ifp (x ≤ V (30 + 8 * s + 1))
    (ifp (V (30 + 8 * s + 1) = x) (.inr (mPooled (vGoes (vup (vup V (6 + 4 * o + 3) (V (6 + 4 * o + 3) + x)) (30 + 8 * s + 1) (V (30 + 8 * s + 1) - x)) s), vGoes (vup (vup V (6 + 4 * o + 3) (V (6 + 4 * o + 3) + x)) (30 + 8 * s + 1) (V (30 + 8 * s + 1) - x)) s))
      (.inr (mPooled (vup (vup V (6 + 4 * o + 3) (V (6 + 4 * o + 3) + x)) (30 + 8 * s + 1) (V (30 + 8 * s + 1) - x)), vup (vup V (6 + 4 * o + 3) (V (6 + 4 * o + 3) + x)) (30 + 8 * s + 1) (V (30 + 8 * s + 1) - x))))
    (.inl (-1014, [(nI 10, V (30 + 8 * s + 1))])))
noncomputable def vTells (V : Nat → Int32) (j i : Nat) : Out := ifp (V (6 + 4 * j + 1) = nI i) (.inl (-1014, [(nI 14, nI i)])) (.inr (V (6 + 4 * j + 1), vup V (6 + 4 * j + 1) (nI i)))
theorem nv_nil : ([] : List Value).all nvB = true := rfl
theorem nv_cons {v : Value} {l : List Value} (h : nvB v = true) (t : l.all nvB = true) : (v :: l).all nvB = true := by rw [List.all_cons, h, t]; rfl
def hrV (V : Nat → Int32) (j : Nat) : Nat := (V (6 + 4 * j + 1)).toNatClampNeg
def okHr (V : Nat → Int32) : Prop := ∀ j, j < 6 → ∃ i, i < 6 ∧ V (6 + 4 * j + 1) = nI i
theorem okHr_eq {V : Nat → Int32} (h : okHr V) {j : Nat} (hj : j < 6) : V (6 + 4 * j + 1) = nI (hrV V j) ∧ hrV V j < 6 := by
  obtain ⟨i, hi, e⟩ := h j hj
  have e2 : hrV V j = i := by unfold hrV; rw [e, nI_clamp (by omega)]
  rw [e2]
  exact ⟨e, hi⟩
noncomputable def chase (V : Nat → Int32) (h : Nat) : Nat → Nat → Option Nat
  | 0, _ => none
  | k + 1, is => ifp (is = h) (chase V h k (hrV V is)) (ifp (vOpen V is) (some is) (chase V h k (hrV V is)))
noncomputable def firstO (V : Nat → Int32) (h : Nat) : Nat → Nat → Option Nat
  | 0, _ => none
  | k + 1, is => ifp (is = h) (firstO V h k (is + 1)) (ifp (vOpen V is) (some is) (firstO V h k (is + 1)))
noncomputable def orE (a b : Option Nat) : Option Nat := match a with
  | some x => some x
  | none => b
noncomputable def vSucc (V : Nat → Int32) (h : Nat) : Option Nat := orE (chase V h 6 (hrV V h)) (firstO V h 6 0)
theorem firstO_lt {V : Nat → Int32} {h r : Nat} : ∀ k is, firstO V h k is = some r → r < is + k ∧ r ≠ h ∧ vOpen V r := by
  intro k
  induction k with
  | zero => intro is e; cases e
  | succ k ih =>
    intro is e
    unfold firstO at e
    by_cases g : is = h
    · rw [ifp_t g] at e
      have := ih _ e
      exact ⟨by omega, this.2⟩
    · rw [ifp_f g] at e
      by_cases o : vOpen V is
      · rw [ifp_t o] at e
        cases e
        exact ⟨by omega, g, o⟩
      · rw [ifp_f o] at e
        have := ih _ e
        exact ⟨by omega, this.2⟩
theorem chase_lt {V : Nat → Int32} {h r : Nat} (hh : okHr V) : ∀ k is, is < 6 → chase V h k is = some r → r < 6 ∧ r ≠ h ∧ vOpen V r := by
  intro k
  induction k with
  | zero => intro is _ e; cases e
  | succ k ih =>
    intro is hi e
    unfold chase at e
    by_cases g : is = h
    · rw [ifp_t g] at e
      exact ih _ (okHr_eq hh hi).2 e
    · rw [ifp_f g] at e
      by_cases o : vOpen V is
      · rw [ifp_t o] at e
        cases e
        exact ⟨hi, g, o⟩
      · rw [ifp_f o] at e
        exact ih _ (okHr_eq hh hi).2 e
theorem vSucc_lt {V : Nat → Int32} {h r : Nat} (hh : okHr V) (h6 : h < 6) (e : vSucc V h = some r) : r < 6 ∧ r ≠ h ∧ vOpen V r := by
  unfold vSucc orE at e
  split at e
  · next x hx => cases e; exact chase_lt hh _ _ (okHr_eq hh h6).2 hx
  · exact firstO_lt _ _ e
def itr {α : Type} (f : Nat → α → α) : Nat → α → α
  | 0, a => a
  | n + 1, a => f n (itr f n a)
noncomputable def vInh (h r : Nat) : Nat → Nat → Nat → Nat → (Nat → Int32) → Nat × (Nat → Int32)
  | 0, _, _, m, V => (m, V)
  | k + 1, s, n, m, V => ifp (V (30 + 8 * s + 0) = nI h)
      (ifp (mTray n V (nI r) + V (30 + 8 * s + 1) + nI 1 ≤ nI 60) (vInh h r k (s + 1) n m (vup V (30 + 8 * s + 0) (nI r)))
        (vInh h r k s (n - 1) (m + 1) (vGoes (vup V (6 + 4 * r + 2) (V (6 + 4 * r + 2) + V (30 + 8 * s + 1))) s)))
      (vInh h r k (s + 1) n m V)
theorem vGoes_0 {V : Nat → Int32} {s : Nat} : vGoes V s 0 = V 0 - nI 1 := by unfold vGoes; rw [updE]
theorem vGoes_lo {V : Nat → Int32} {s j : Nat} (h : j < 30 + 8 * s) (h0 : j ≠ 0) : vGoes V s j = V j := by unfold vGoes shf; rw [updJ h0, if_neg (by omega)]
theorem vGoes_hi {V : Nat → Int32} {s j : Nat} (h : 30 + 8 * s ≤ j) (hj : j + 8 < 126) (hs : s < 12) : vGoes V s j = V (j + 8) := by
  unfold vGoes shf
  rw [updJ (by omega), if_pos (by omega), if_pos hj]

theorem vInh_n {h r : Nat} : ∀ k s n m V, V 0 = nI n → s + k = n → (vInh h r k s n m V).2 0 = nI (n + m - (vInh h r k s n m V).1) ∧ m ≤ (vInh h r k s n m V).1 ∧ (vInh h r k s n m V).1 ≤ m + k ∧ (vInh h r k s n m V).1 ≤ n + m := by
  intro k
  induction k with
  | zero => intro s n m V hn hk; exact ⟨by show V 0 = nI (n + m - m); rw [Nat.add_sub_cancel]; exact hn, Nat.le_refl _, Nat.le_refl _, by show m ≤ n + m; omega⟩
  | succ k ih =>
    intro s n m V hn hk
    unfold vInh
    by_cases h1 : V (30 + 8 * s + 0) = nI h
    · rw [ifp_t h1]
      by_cases h2 : mTray n V (nI r) + V (30 + 8 * s + 1) + nI 1 ≤ nI 60
      · rw [ifp_t h2]
        have := ih (s + 1) n m (vup V (30 + 8 * s + 0) (nI r)) ((updJ (by omega)).trans hn) (by omega)
        exact ⟨this.1, this.2.1, by omega, this.2.2.2⟩
      · rw [ifp_f h2]
        have := ih s (n - 1) (m + 1) (vGoes (vup V (6 + 4 * r + 2) (V (6 + 4 * r + 2) + V (30 + 8 * s + 1))) s) (by rw [vGoes_0, updJ (by omega), hn, nI_sub (by omega)]) (by omega)
        refine ⟨this.1.trans ?_, by omega, by omega, by omega⟩
        rw [show n - 1 + (m + 1) = n + m by omega]
    · rw [ifp_f h1]
      have := ih (s + 1) n m V hn (by omega)
      exact ⟨this.1, this.2.1, by omega, this.2.2.2⟩
noncomputable def vFr1 (h s : Nat) (V : Nat → Int32) : Nat → Int32 := ifp (V (30 + 8 * s + 0) = nI h)
  (ifp (V (30 + 8 * s + 3) = nI (h + 1))
    (ifp (V (30 + 8 * s + 6) = nI (h + 1)) (vup (vup (vup (vup V (30 + 8 * s + 3) (nI 0)) (30 + 8 * s + 4) (nI 0)) (30 + 8 * s + 6) (nI 0)) (30 + 8 * s + 5) (nI 0)) (vup (vup V (30 + 8 * s + 3) (nI 0)) (30 + 8 * s + 4) (nI 0)))
    (ifp (V (30 + 8 * s + 6) = nI (h + 1)) (vup (vup V (30 + 8 * s + 6) (nI 0)) (30 + 8 * s + 5) (nI 0)) V)) V
noncomputable def vRt (h r s : Nat) (V : Nat → Int32) : Nat → Int32 :=
  ifp (V (30 + 8 * s + 3) = nI (h + 1))
    (ifp (vup V (30 + 8 * s + 3) (nI (r + 1)) (30 + 8 * s + 6) = nI (h + 1)) (vup (vup (vup V (30 + 8 * s + 3) (nI (r + 1))) (30 + 8 * s + 6) (nI 0)) (30 + 8 * s + 5) (nI 0)) (vup V (30 + 8 * s + 3) (nI (r + 1))))
    (ifp (V (30 + 8 * s + 6) = nI (h + 1)) (vup (vup V (30 + 8 * s + 6) (nI 0)) (30 + 8 * s + 5) (nI 0)) V)
noncomputable def vPa (x : Int32) (s : Nat) (V : Nat → Int32) : Nat → Int32 :=
  ifp (V (30 + 8 * s + 6) = 0) V (ifp (V (30 + 8 * s + 5) ≤ x) (vup (vup V (30 + 8 * s + 5) (nI 0)) (30 + 8 * s + 6) (nI 0))
    (vup (vup V (30 + 8 * s + 5) (V (30 + 8 * s + 5) - x)) (30 + 8 * s + 6) (V (30 + 8 * s + 6))))
theorem vFr1_eq {h s : Nat} {V : Nat → Int32} : vFr1 h s V = ifp (V (30 + 8 * s + 0) = nI h)
  (ifp (V (30 + 8 * s + 3) = nI (h + 1))
    (ifp (V (30 + 8 * s + 6) = nI (h + 1)) (vup (vup (vup (vup V (30 + 8 * s + 3) (nI 0)) (30 + 8 * s + 4) (nI 0)) (30 + 8 * s + 6) (nI 0)) (30 + 8 * s + 5) (nI 0)) (vup (vup V (30 + 8 * s + 3) (nI 0)) (30 + 8 * s + 4) (nI 0)))
    (ifp (V (30 + 8 * s + 6) = nI (h + 1)) (vup (vup V (30 + 8 * s + 6) (nI 0)) (30 + 8 * s + 5) (nI 0)) V)) V := rfl
theorem vRt_eq {h r s : Nat} {V : Nat → Int32} : vRt h r s V =
  ifp (V (30 + 8 * s + 3) = nI (h + 1))
    (ifp (vup V (30 + 8 * s + 3) (nI (r + 1)) (30 + 8 * s + 6) = nI (h + 1)) (vup (vup (vup V (30 + 8 * s + 3) (nI (r + 1))) (30 + 8 * s + 6) (nI 0)) (30 + 8 * s + 5) (nI 0)) (vup V (30 + 8 * s + 3) (nI (r + 1))))
    (ifp (V (30 + 8 * s + 6) = nI (h + 1)) (vup (vup V (30 + 8 * s + 6) (nI 0)) (30 + 8 * s + 5) (nI 0)) V) := rfl
theorem vPa_eq {x : Int32} {s : Nat} {V : Nat → Int32} : vPa x s V =
  ifp (V (30 + 8 * s + 6) = 0) V (ifp (V (30 + 8 * s + 5) ≤ x) (vup (vup V (30 + 8 * s + 5) (nI 0)) (30 + 8 * s + 6) (nI 0))
    (vup (vup V (30 + 8 * s + 5) (V (30 + 8 * s + 5) - x)) (30 + 8 * s + 6) (V (30 + 8 * s + 6)))) := rfl
/-- a step that touches its own stub alone -/
def own (f : Nat → (Nat → Int32) → (Nat → Int32)) : Prop := ∀ s V j, ¬ (30 + 8 * s ≤ j ∧ j < 38 + 8 * s) → f s V j = V j
theorem own_vup {V W : Nat → Int32} {s j i : Nat} {x : Int32} (h : W j = V j) (hj : ¬ (30 + 8 * s ≤ j ∧ j < 38 + 8 * s)) (hi : 30 + 8 * s ≤ i ∧ i < 38 + 8 * s) : vup W i x j = V j := (updJ (by omega)).trans h
theorem own_ifp {V : Nat → Int32} {p : Prop} {a b : Nat → Int32} {j : Nat} (h1 : a j = V j) (h2 : b j = V j) : ifp p a b j = V j := by
  by_cases h : p
  · rw [ifp_t h]; exact h1
  · rw [ifp_f h]; exact h2
theorem own_Fr1 {h : Nat} : own (vFr1 h) := by
  intro s V j hj
  unfold vFr1
  refine own_ifp (own_ifp (own_ifp ?_ ?_) (own_ifp ?_ rfl)) rfl
  · exact own_vup (own_vup (own_vup (own_vup rfl hj (by omega)) hj (by omega)) hj (by omega)) hj (by omega)
  · exact own_vup (own_vup rfl hj (by omega)) hj (by omega)
  · exact own_vup (own_vup rfl hj (by omega)) hj (by omega)
theorem own_Rt {h r : Nat} : own (vRt h r) := by
  intro s V j hj
  unfold vRt
  refine own_ifp (own_ifp ?_ ?_) (own_ifp ?_ rfl)
  · exact own_vup (own_vup (own_vup rfl hj (by omega)) hj (by omega)) hj (by omega)
  · exact own_vup rfl hj (by omega)
  · exact own_vup (own_vup rfl hj (by omega)) hj (by omega)
theorem own_Pa {x : Int32} : own (vPa x) := by
  intro s V j hj
  unfold vPa
  refine own_ifp rfl (own_ifp ?_ ?_)
  · exact own_vup (own_vup rfl hj (by omega)) hj (by omega)
  · exact own_vup (own_vup rfl hj (by omega)) hj (by omega)
theorem itr_hi {f : Nat → (Nat → Int32) → (Nat → Int32)} (hf : own f) {n j : Nat} {V : Nat → Int32} (h : 30 + 8 * n ≤ j ∨ j < 30) : itr f n V j = V j := by
  induction n with
  | zero => rfl
  | succ n ih =>
    show f n (itr f n V) j = V j
    rw [hf n _ j (by omega)]
    exact ih (by omega)
def vCl0 (V : Nat → Int32) (h r : Nat) : Nat → Int32 :=
  let V1 := vup V (6 + 4 * h + 0) (nI 0)
  let V2 := vup V1 (6 + 4 * r + 2) (V1 (6 + 4 * r + 2) + V1 (6 + 4 * h + 2))
  let V3 := vup V2 (6 + 4 * r + 3) (V2 (6 + 4 * r + 3) + V2 (6 + 4 * h + 3))
  vup (vup V3 (6 + 4 * h + 2) (nI 0)) (6 + 4 * h + 3) (nI 0)
theorem vCl0_0 {V : Nat → Int32} {h r : Nat} : vCl0 V h r 0 = V 0 := by unfold vCl0; exact (updJ (by omega)).trans ((updJ (by omega)).trans ((updJ (by omega)).trans ((updJ (by omega)).trans (updJ (by omega)))))
noncomputable def vClosed (n : Nat) (V : Nat → Int32) (h r : Nat) : Nat × (Nat → Int32) :=
  ((vInh h r n 0 n 0 (itr (vRt h r) n (vCl0 V h r))).1, itr (vFr1 r) (n - (vInh h r n 0 n 0 (itr (vRt h r) n (vCl0 V h r))).1) (vInh h r n 0 n 0 (itr (vRt h r) n (vCl0 V h r))).2)
noncomputable def vCloses (n : Nat) (V : Nat → Int32) (h : Nat) : Out := ifp (vOpen V h) (match vSucc V h with
    | none => .inl (-1014, [(nI 15, nI h)])
    | some r => .inr (nI r, (vClosed n V h r).2)) (.inl (-1014, [(nI 2, nI h)]))
theorem Rt_n {n h r i : Nat} {V : Nat → Int32} (hn : V 0 = nI n) : itr (vRt h r) i (vCl0 V h r) 0 = nI n := (itr_hi own_Rt (Or.inr (by omega))).trans (vCl0_0.trans hn)
noncomputable def vPaC (n : Nat) (V : Nat → Int32) (x : Int32) : Int32 := sumN n (fun s => ifp (V (30 + 8 * s + 6) = 0) (nI 0) (ifp (V (30 + 8 * s + 5) ≤ x) (nI 1) (nI 0)))
noncomputable def vPasses (n : Nat) (V : Nat → Int32) (x : Int32) : Out := ifp (badR x (nI 1) (nI 24)) (.inl (-1012, [])) (.inr (vPaC n V x, vup (itr (vPa x) n V) 5 (itr (vPa x) n V 5 + x)))
def subN (w : Int32) (f : Nat → Int32) : Nat → Int32
  | 0 => w
  | n + 1 => subN w f n - f n
noncomputable def amx (B : Nat → Int32) : Nat → Nat
  | 0 => 0
  | i + 1 => ifp (B (amx B i) < B (i + 1)) (i + 1) (amx B i)
theorem amx_le {B : Nat → Int32} : ∀ i, amx B i ≤ i := by
  intro i
  induction i with
  | zero => exact Nat.le_refl _
  | succ i ih =>
    unfold amx
    by_cases h : B (amx B i) < B (i + 1)
    · rw [ifp_t h]; exact Nat.le_refl _
    · rw [ifp_f h]; omega
noncomputable def vHam : Nat → (Nat → Int32) → (Nat → Int32) → (Nat → Int32) × (Nat → Int32)
  | 0, A, B => (A, B)
  | L + 1, A, B => vHam L (vup A (amx B 5) (A (amx B 5) + nI 1)) (vup B (amx B 5) (-1))
noncomputable def vPt (n : Nat) (V : Nat → Int32) (h : Nat) : Int32 := mPooled V * mClaim n V h / mClaims n V
noncomputable def vRs (n : Nat) (V : Nat → Int32) (h : Nat) : Int32 := mPooled V * mClaim n V h - mPooled V * mClaim n V h / mClaims n V * mClaims n V
noncomputable def vLeft (n : Nat) (V : Nat → Int32) : Int32 := subN (mPooled V) (vPt n V) 6
noncomputable def vParts (n : Nat) (V : Nat → Int32) (h : Nat) : Int32 := ifp (mClaims n V = 0) (nI 0) ((vHam (vLeft n V).toNatClampNeg (vPt n V) (vRs n V)).1 h)
def ag6 (A B : Nat → Int32) : Prop := ∀ h, h < 6 → A h = B h
theorem amx_ag {A B : Nat → Int32} (h : ag6 A B) : ∀ i, i < 6 → amx A i = amx B i := by
  intro i
  induction i with
  | zero => intro _; rfl
  | succ i ih =>
    intro hi
    have e := ih (by omega)
    have hb := amx_le (B := B) i
    unfold amx
    rw [e, h _ (by omega), h _ hi]
theorem vup_ag {A B : Nat → Int32} {j : Nat} {x : Int32} (h : ag6 A B) : ag6 (vup A j x) (vup B j x) := by
  intro i hi
  unfold vup
  by_cases e : i = j
  · rw [if_pos e, if_pos e]
  · rw [if_neg e, if_neg e]; exact h i hi
def fil (W : Nat → Int32) (i : Nat) (f : Nat → Int32) : Nat → Int32 := fun j => if j < i then f j else W j
theorem fil0 {W f : Nat → Int32} : fil W 0 f = W := by funext j; unfold fil; rw [if_neg (Nat.not_lt_zero _)]
theorem filS {W f : Nat → Int32} {i : Nat} : vup (fil W i f) i (f i) = fil W (i + 1) f := by
  funext j
  unfold vup fil
  by_cases h : j = i
  · subst h; rw [if_pos rfl, if_pos (Nat.lt_succ_self _)]
  · rw [if_neg h]
    by_cases g : j < i
    · rw [if_pos g, if_pos (by omega)]
    · rw [if_neg g, if_neg (by omega)]
theorem fil6 {W f : Nat → Int32} : ag6 (fil W 6 f) f := by intro h hh; unfold fil; rw [if_pos hh]
theorem mup_setc2 {D : Mm} {a b j : Nat} {A B : Nat → Int32} {x : Int32} (h : a ≠ b) : mup (setc (setc D a A) b B) a j x = setc (setc D a (vup A j x)) b B := by
  funext q i
  unfold mup setc vup
  by_cases e : q = a
  · subst e; rw [if_pos rfl, if_neg h, if_pos rfl, if_neg h, if_pos rfl]
  · rw [if_neg e]
    by_cases g : q = b
    · rw [if_pos g, if_pos g]
    · rw [if_neg g, if_neg g, if_neg e, if_neg e]
def s2 (D : Mm) (A B : Nat → Int32) : Mm := setc (setc D 177 A) 178 B
def vSh (P : Nat → Int32) (h : Nat) (V : Nat → Int32) : Nat → Int32 := vup (vup V (6 + 4 * h + 2) (V (6 + 4 * h + 2) + P h)) (6 + 4 * h + 3) (nI 0)
noncomputable def vShares (n : Nat) (V : Nat → Int32) : Out := ifp (mPooled V = 0) (.inl (-1014, [(nI 11, nI n)])) (ifp (mClaims n V = 0) (.inl (-1014, [(nI 12, mPooled V)]))
  (.inr (sumN 6 (fun h => ifp (vParts n V h ≤ 0) (nI 0) (nI 1)), itr (vSh (vParts n V)) 6 V)))
theorem badR_i {w : Int32} {a b : Nat} (h : badR w (nI a) (nI b)) (ha : a < 2147483648 := by decide) (hb : b < 2147483648 := by decide) : w.toInt < (a : Int) ∨ (b : Int) < w.toInt := by
  rcases h with h | h
  · left; have := Int32.lt_iff_toInt_lt.mp h; rw [nI_toInt ha] at this; exact this
  · right; have := Int32.lt_iff_toInt_lt.mp h; rw [nI_toInt hb] at this; exact this
noncomputable def vStubOf (V : Nat → Int32) (s w : Nat) : Int32 := ifp (w = 3) (ifp (V (30 + 8 * s + w) = 0) (-1015) (V (30 + 8 * s + w) - nI 1)) (ifp (w = 6) (ifp (V (30 + 8 * s + w) = 0) (-1015) (V (30 + 8 * s + w) - nI 1)) (V (30 + 8 * s + w)))
noncomputable def frk (f : Nat → Int32) (p : Int32) : Nat → Nat → Int32
  | 0, _ => -1011
  | k + 1, h => ifp (f h = p) (nI h) (frk f p k (h + 1))
noncomputable def mBy (n : Nat) (V : Nat → Int32) (h o : Nat) : Int32 := ifp (mClaim n V o - mClaim n V h = 0) (V (6 + 4 * o + 2) - V (6 + 4 * h + 2)) (mClaim n V o - mClaim n V h)
noncomputable def mRk1 (n : Nat) (V : Nat → Int32) (h o : Nat) : Int32 := ifp (o = h) (nI 0) (ifp (0 < mBy n V h o) (nI 1) (ifp (mBy n V h o = 0) (ifp (o < h) (nI 1) (nI 0)) (nI 0)))
noncomputable def mRank (n : Nat) (V : Nat → Int32) (h : Nat) : Int32 := sumN 6 (mRk1 n V h)
noncomputable def sBy (V : Nat → Int32) (h o : Nat) : Int32 := ifp (V (30 + 8 * o + 1) * V (30 + 8 * o + 2) - V (30 + 8 * h + 1) * V (30 + 8 * h + 2) = 0) (V (30 + 8 * h + 4) - V (30 + 8 * o + 4)) (V (30 + 8 * o + 1) * V (30 + 8 * o + 2) - V (30 + 8 * h + 1) * V (30 + 8 * h + 2))
noncomputable def sRk1 (V : Nat → Int32) (h o : Nat) : Int32 := ifp (o = h) (nI 0) (ifp (0 < sBy V h o) (nI 1) (ifp (sBy V h o = 0) (ifp (o < h) (nI 1) (nI 0)) (nI 0)))
noncomputable def sRank (n : Nat) (V : Nat → Int32) (h : Nat) : Int32 := sumN n (sRk1 V h)

def row (W V : Nat → Int32) (c i : Nat) : Nat → Int32 := fun j => if j < i then W (c * 126 + j) else V j
theorem ifp_or {α : Type} {p : Prop} {a b : α} : (p ∧ ifp p a b = a) ∨ (¬ p ∧ ifp p a b = b) := by
  by_cases h : p
  · exact Or.inl ⟨h, ifp_t h⟩
  · exact Or.inr ⟨h, ifp_f h⟩
def okF (o : Out) : Prop := match o with
  | .inl (x, rs) => (rs = [] ∧ (x = -1011 ∨ x = -1012)) ∨ (x = -1014 ∧ ((∃ a b, rs = [(a, b)] ∧ a ≠ 0) ∨ ∃ a b u v, rs = [(a, b), (u, v)] ∧ a ≠ 0 ∧ u ≠ 0))
  | .inr _ => True
theorem okF_ifp {p : Prop} {a b : Out} (h1 : okF a) (h2 : okF b) : okF (ifp p a b) := by
  rcases @ifp_or Out p a b with ⟨_, e⟩ | ⟨_, e⟩
  · rw [e]; exact h1
  · rw [e]; exact h2
theorem okF_n : okF (.inl (-1011, [])) := Or.inl ⟨rfl, Or.inl rfl⟩
theorem okF_b : okF (.inl (-1012, [])) := Or.inl ⟨rfl, Or.inr rfl⟩
theorem okF_1 {a b : Int32} (h : a ≠ 0) : okF (.inl (-1014, [(a, b)])) := Or.inr ⟨rfl, Or.inl ⟨a, b, rfl, h⟩⟩
theorem okF_2 {a b u v : Int32} (h : a ≠ 0) (g : u ≠ 0) : okF (.inl (-1014, [(a, b), (u, v)])) := Or.inr ⟨rfl, Or.inr ⟨a, b, u, v, rfl, h, g⟩⟩
theorem okF_s {a : Int32} {V : Nat → Int32} : okF (.inr (a, V)) := trivial
theorem okF_lt {o : Out} (h : okF o) : ∀ yy rs, o = .inl (yy, rs) → yy < 0 := by
  intro yy rs e
  subst e
  rcases h with ⟨_, e | e⟩ | ⟨e, _⟩ <;> (rw [e]; decide)
def cl (x : Int32) : Nat := x.toNatClampNeg
theorem cl_nI {j : Nat} (h : j < 2147483648) : cl (nI j) = j := nI_clamp h
noncomputable def oS (n : Nat) (V : Nat → Int32) (a w k : Int32) : Out := ifp (badH a) (.inl (-1011, [])) (vComes n V (cl a) w k)
noncomputable def oM (n : Nat) (V : Nat → Int32) (a w k : Int32) : Out := ifp (badH a) (.inl (-1011, [])) (vMoulds n V (cl a) w k)
noncomputable def oB (n : Nat) (V : Nat → Int32) (a x : Int32) : Out := ifp (badS n a) (.inl (-1011, [])) (vBurns V (cl a) x)
noncomputable def oO (n : Nat) (V : Nat → Int32) (a b x : Int32) : Out := ifp (badS n a ∨ badH b) (.inl (-1011, [])) (vOwes n V (cl a) (cl b) x)
noncomputable def oW (n : Nat) (V : Nat → Int32) (b a x : Int32) : Out := ifp (badH b ∨ badS n a) (.inl (-1011, [])) (vSnuffs n V (cl b) (cl a) x)
noncomputable def oP (n : Nat) (V : Nat → Int32) (a x : Int32) : Out := ifp (badS n a) (.inl (-1011, [])) (vPools V (cl a) (cl (V (30 + 8 * cl a + 0))) x)
noncomputable def oH (V : Nat → Int32) (a b : Int32) : Out := ifp (badH a ∨ badH b) (.inl (-1011, [])) (vTells V (cl a) (cl b))
noncomputable def oE (n : Nat) (V : Nat → Int32) (a : Int32) : Out := ifp (badH a) (.inl (-1011, [])) (vCloses n V (cl a))
theorem okF_Makes {n : Nat} {V : Nat → Int32} {a w k : Int32} : okF (vMakes n V a w k) := okF_ifp (okF_ifp (okF_1 (by decide)) okF_s) (okF_1 (by decide))
theorem okF_S {n : Nat} {V : Nat → Int32} {a w k : Int32} : okF (oS n V a w k) := okF_ifp okF_n (okF_ifp okF_b (okF_ifp okF_Makes (okF_1 (by decide))))
theorem okF_M {n : Nat} {V : Nat → Int32} {a w k : Int32} : okF (oM n V a w k) := okF_ifp okF_n (okF_ifp okF_b (okF_ifp (okF_ifp okF_Makes (okF_1 (by decide))) (okF_1 (by decide))))
theorem okF_Burn2 {s : Nat} {p : Int32} {V : Nat → Int32} : okF (vBurn2 s p V) := okF_ifp okF_s okF_s
theorem okF_Burn1 {s : Nat} {p : Int32} {V : Nat → Int32} : okF (vBurn1 s p V) := okF_ifp okF_Burn2 okF_Burn2
theorem okF_B {n : Nat} {V : Nat → Int32} {a x : Int32} : okF (oB n V a x) := okF_ifp okF_n (okF_ifp okF_b (okF_ifp (okF_ifp (okF_ifp okF_Burn1 okF_Burn1) (okF_2 (by decide) (by decide))) (okF_2 (by decide) (by decide))))
theorem okF_O {n : Nat} {V : Nat → Int32} {a b x : Int32} : okF (oO n V a b x) := okF_ifp okF_n (okF_ifp okF_b (okF_ifp (okF_ifp (okF_1 (by decide)) (okF_ifp okF_s (okF_1 (by decide)))) (okF_1 (by decide))))
theorem okF_W {n : Nat} {V : Nat → Int32} {a b x : Int32} : okF (oW n V a b x) := okF_ifp okF_n (okF_ifp okF_b (okF_ifp (okF_ifp (okF_1 (by decide)) (okF_ifp (okF_ifp (okF_1 (by decide)) okF_s) (okF_1 (by decide)))) (okF_1 (by decide))))
theorem okF_P {n : Nat} {V : Nat → Int32} {a x : Int32} : okF (oP n V a x) := okF_ifp okF_n (okF_ifp okF_b (okF_ifp (okF_ifp okF_s okF_s) (okF_1 (by decide))))
theorem okF_H {V : Nat → Int32} {a b : Int32} : okF (oH V a b) := okF_ifp okF_n (okF_ifp (okF_1 (by decide)) okF_s)
theorem okF_E {n : Nat} {V : Nat → Int32} {a : Int32} : okF (oE n V a) := by
  refine okF_ifp okF_n (okF_ifp ?_ (okF_1 (by decide)))
  split
  · exact okF_1 (by decide)
  · exact okF_s
theorem okF_T {n : Nat} {V : Nat → Int32} {x : Int32} : okF (vPasses n V x) := okF_ifp okF_b okF_s
theorem okF_D {n : Nat} {V : Nat → Int32} : okF (vShares n V) := okF_ifp (okF_1 (by decide)) (okF_ifp (okF_1 (by decide)) okF_s)
/-- what the reference's steps need of its row -/
def HV (n : Nat) (V : Nat → Int32) : Prop := V 0 = nI n ∧ n ≤ 12 ∧ (∀ s, s < n → ∃ o, o < 6 ∧ V (30 + 8 * s + 0) = nI o) ∧ (¬ mClaims n V = 0 → 0 < mClaims n V ∧ ¬ vLeft n V < 0) ∧ okHr V ∧ (∀ j, j < 6 → vOpen V j → (mOpens V = nI 1 ↔ vSucc V j = none))
theorem HV.hn {n : Nat} {V : Nat → Int32} (H : HV n V) : V 0 = nI n := H.1
theorem HV.h12 {n : Nat} {V : Nat → Int32} (H : HV n V) : n ≤ 12 := H.2.1
theorem HV.hof {n : Nat} {V : Nat → Int32} (H : HV n V) : ∀ s, s < n → ∃ o, o < 6 ∧ V (30 + 8 * s + 0) = nI o := H.2.2.1
theorem HV.hF {n : Nat} {V : Nat → Int32} (H : HV n V) : ¬ mClaims n V = 0 → 0 < mClaims n V ∧ ¬ vLeft n V < 0 := H.2.2.2.1
theorem HV.hr {n : Nat} {V : Nat → Int32} (H : HV n V) : okHr V := H.2.2.2.2.1
theorem HV.hs {n : Nat} {V : Nat → Int32} (H : HV n V) : ∀ j, j < 6 → vOpen V j → (mOpens V = nI 1 ↔ vSucc V j = none) := H.2.2.2.2.2
noncomputable def oDo (n : Nat) (V : Nat → Int32) (k : Nat) (a b c : Int32) : Out :=
  if k = 115 then oS n V a b c else if k = 98 then oB n V a b else if k = 111 then oO n V a b c else if k = 119 then oW n V a b c else if k = 112 then oP n V a b
  else if k = 100 then vShares n V else if k = 109 then oM n V a b c else if k = 104 then oH V a b else if k = 101 then oE n V a else vPasses n V a
theorem okF_Do {n k : Nat} {V : Nat → Int32} {a b c : Int32} : okF (oDo n V k a b c) := by
  unfold oDo
  split; exact okF_S
  split; exact okF_B
  split; exact okF_O
  split; exact okF_W
  split; exact okF_P
  split; exact okF_D
  split; exact okF_M
  split; exact okF_H
  split; exact okF_E
  exact okF_T
theorem oDo115 {n : Nat} {V : Nat → Int32} {a b c : Int32} : oDo n V 115 a b c = oS n V a b c := by unfold oDo; rw [if_pos rfl]
theorem oDo98 {n : Nat} {V : Nat → Int32} {a b c : Int32} : oDo n V 98 a b c = oB n V a b := by unfold oDo; rw [if_neg (by decide), if_pos rfl]
theorem oDo111 {n : Nat} {V : Nat → Int32} {a b c : Int32} : oDo n V 111 a b c = oO n V a b c := by unfold oDo; rw [if_neg (by decide), if_neg (by decide), if_pos rfl]
theorem oDo119 {n : Nat} {V : Nat → Int32} {a b c : Int32} : oDo n V 119 a b c = oW n V a b c := by unfold oDo; rw [if_neg (by decide), if_neg (by decide), if_neg (by decide), if_pos rfl]
theorem oDo112 {n : Nat} {V : Nat → Int32} {a b c : Int32} : oDo n V 112 a b c = oP n V a b := by unfold oDo; rw [if_neg (by decide), if_neg (by decide), if_neg (by decide), if_neg (by decide), if_pos rfl]
theorem oDo100 {n : Nat} {V : Nat → Int32} {a b c : Int32} : oDo n V 100 a b c = vShares n V := by unfold oDo; rw [if_neg (by decide), if_neg (by decide), if_neg (by decide), if_neg (by decide), if_neg (by decide), if_pos rfl]
theorem oDo109 {n : Nat} {V : Nat → Int32} {a b c : Int32} : oDo n V 109 a b c = oM n V a b c := by unfold oDo; rw [if_neg (by decide), if_neg (by decide), if_neg (by decide), if_neg (by decide), if_neg (by decide), if_neg (by decide), if_pos rfl]
theorem oDo104 {n : Nat} {V : Nat → Int32} {a b c : Int32} : oDo n V 104 a b c = oH V a b := by unfold oDo; rw [if_neg (by decide), if_neg (by decide), if_neg (by decide), if_neg (by decide), if_neg (by decide), if_neg (by decide), if_neg (by decide), if_pos rfl]
theorem oDo101 {n : Nat} {V : Nat → Int32} {a b c : Int32} : oDo n V 101 a b c = oE n V a := by unfold oDo; rw [if_neg (by decide), if_neg (by decide), if_neg (by decide), if_neg (by decide), if_neg (by decide), if_neg (by decide), if_neg (by decide), if_neg (by decide), if_pos rfl]
theorem oDo116 {n : Nat} {V : Nat → Int32} {a b c : Int32} : oDo n V 116 a b c = vPasses n V a := by unfold oDo; rw [if_neg (by decide), if_neg (by decide), if_neg (by decide), if_neg (by decide), if_neg (by decide), if_neg (by decide), if_neg (by decide), if_neg (by decide), if_neg (by decide)]
def dgs (U : Nat → Nat) (e : Nat) : Nat → Nat → Nat → Nat × Nat
  | 0, x, p => (x, p)
  | k + 1, x, p => if p < e ∧ 48 ≤ U p ∧ U p ≤ 57 then dgs U e k (10 * x + (U p - 48)) (p + 1) else (x, p)
theorem dgs_no {U : Nat → Nat} {e k x p : Nat} (h : ¬ (p < e ∧ 48 ≤ U p ∧ U p ≤ 57)) : dgs U e (k + 1) x p = (x, p) := by unfold dgs; rw [if_neg h]
theorem dgs_ye {U : Nat → Nat} {e k x p : Nat} (h : p < e ∧ 48 ≤ U p ∧ U p ≤ 57) : dgs U e (k + 1) x p = dgs U e k (10 * x + (U p - 48)) (p + 1) := by rw [dgs]; rw [if_pos h]
theorem dgs_le {U : Nat → Nat} {e : Nat} : ∀ k x p, p ≤ e → p ≤ (dgs U e k x p).2 ∧ (dgs U e k x p).2 ≤ e := by
  intro k
  induction k with
  | zero => intro x p h; exact ⟨Nat.le_refl _, h⟩
  | succ k ih =>
    intro x p h
    by_cases g : p < e ∧ 48 ≤ U p ∧ U p ≤ 57
    · rw [dgs_ye g]
      have := ih (10 * x + (U p - 48)) (p + 1) g.1
      exact ⟨by omega, this.2⟩
    · rw [dgs_no g]
      exact ⟨Nat.le_refl _, h⟩
theorem ne1 {c : Nat} (h : c < 2147483648) : ¬ (-1 : Int32) = nI c := by
  intro e
  have := congrArg Int32.toInt e
  rw [nI_toInt h] at this
  have e2 : (-1 : Int32).toInt = -1 := by decide
  omega
def bhP (U : Nat → Nat) (e c m p w : Nat) : Nat × Nat × Nat := if w = 1 then (p, 1, 0) else if p < e ∧ U p = c then ((dgs U e m 0 (p + 1)).2, (if (dgs U e m 0 (p + 1)).2 = p + 1 then 1 else 0), (dgs U e m 0 (p + 1)).1) else (p, 1, 0)
theorem bhP_w {U : Nat → Nat} {e c m p w : Nat} : (bhP U e c m p w).2.1 < 2 := by
  unfold bhP
  split
  · exact (by decide : 1 < 2)
  · split
    · dsimp only; split <;> decide
    · exact (by decide : 1 < 2)
def o1P (U : Nat → Nat) (e m p : Nat) : Nat × Nat × Nat := if m = 0 then (p, 0, 0) else ((dgs U e m 0 p).2, (if (dgs U e m 0 p).2 = p then 1 else 0), (dgs U e m 0 p).1)
theorem o1P_w {U : Nat → Nat} {e m p : Nat} : (o1P U e m p).2.1 < 2 := by
  unfold o1P
  split
  · exact (by decide : 0 < 2)
  · dsimp only; split <;> decide
def nxP (U : Nat → Nat) (e c m : Nat) (s : Nat × Nat × Nat) : Nat × Nat × Nat := if c = 0 then (s.1, s.2.1, 0) else bhP U e c m s.1 s.2.1
def pt (c : Nat) : Nat × (Nat × Nat) × (Nat × Nat) :=
  if c = 115 ∨ c = 109 then (1, (58, 2), (47, 1)) else if c = 98 then (2, (42, 2), (0, 0)) else if c = 111 then (2, (62, 1), (61, 2)) else if c = 119 then (1, (33, 2), (42, 2))
  else if c = 112 then (2, (43, 2), (0, 0)) else if c = 100 then (0, (0, 0), (0, 0)) else if c = 104 then (1, (62, 1), (0, 0)) else if c = 101 then (1, (0, 0), (0, 0)) else (2, (0, 0), (0, 0))
def kn (c : Nat) : Bool := decide (c = 115 ∨ c = 98 ∨ c = 111 ∨ c = 119 ∨ c = 112 ∨ c = 100 ∨ c = 109 ∨ c = 104 ∨ c = 101 ∨ c = 116)
/-- one order: where, whether wrong, its three numbers -/
def ordS (U : Nat → Nat) (e c p : Nat) : Nat × Nat × Nat × Nat × Nat :=
  let a := o1P U e (pt c).1 p
  let b := nxP U e (pt c).2.1.1 (pt c).2.1.2 a
  let t := nxP U e (pt c).2.2.1 (pt c).2.2.2 b
  (t.1, t.2.1, a.2.2, b.2.2, t.2.2)
theorem ordS_eq {U : Nat → Nat} {e c p m c2 m2 c3 m3 : Nat} (h : pt c = (m, (c2, m2), (c3, m3))) : ordS U e c p = ((nxP U e c3 m3 (nxP U e c2 m2 (o1P U e m p))).1, (nxP U e c3 m3 (nxP U e c2 m2 (o1P U e m p))).2.1, (o1P U e m p).2.2, (nxP U e c2 m2 (o1P U e m p)).2.2, (nxP U e c3 m3 (nxP U e c2 m2 (o1P U e m p))).2.2) := by unfold ordS; rw [h]
theorem nxP_w {U : Nat → Nat} {e c m : Nat} {s : Nat × Nat × Nat} (h : s.2.1 < 2) : (nxP U e c m s).2.1 < 2 := by
  unfold nxP
  split
  · exact h
  · exact bhP_w
theorem nI_inj {a b : Nat} (ha : a < 2147483648) (hb : b < 2147483648) (h : nI a = nI b) : b = a := by
  have := congrArg Int32.toInt h
  rw [nI_toInt ha, nI_toInt hb] at this
  omega
theorem kn_all {c : Nat} (h : kn c = true) : c = 115 ∨ c = 98 ∨ c = 111 ∨ c = 119 ∨ c = 112 ∨ c = 100 ∨ c = 109 ∨ c = 104 ∨ c = 101 ∨ c = 116 := of_decide_eq_true h
def pOrd (U : Nat → Nat) (e p : Nat) : Nat × Nat × Nat × Nat × Nat := if p < e ∧ kn (U p) = true then ordS U e (U p) (p + 1) else (p, 1, 0, 0, 0)
theorem bhP_le {U : Nat → Nat} {e c m p w : Nat} (h : p ≤ e) : p ≤ (bhP U e c m p w).1 ∧ (bhP U e c m p w).1 ≤ e := by
  unfold bhP
  split
  · exact ⟨Nat.le_refl _, h⟩
  · split
    · next z =>
      have := dgs_le (U := U) (e := e) m 0 (p + 1) z.1
      exact ⟨by omega, this.2⟩
    · exact ⟨Nat.le_refl _, h⟩
theorem nxP_le {U : Nat → Nat} {e c m : Nat} {s : Nat × Nat × Nat} (h : s.1 ≤ e) : s.1 ≤ (nxP U e c m s).1 ∧ (nxP U e c m s).1 ≤ e := by
  unfold nxP
  split
  · exact ⟨Nat.le_refl _, h⟩
  · exact bhP_le h
theorem o1P_le {U : Nat → Nat} {e m p : Nat} (h : p ≤ e) : p ≤ (o1P U e m p).1 ∧ (o1P U e m p).1 ≤ e := by
  unfold o1P
  split
  · exact ⟨Nat.le_refl _, h⟩
  · exact dgs_le m 0 p h
theorem pOrd_le {U : Nat → Nat} {e p : Nat} (h : p ≤ e) : p ≤ (pOrd U e p).1 ∧ (pOrd U e p).1 ≤ e ∧ (pOrd U e p).2.1 < 2 ∧ ((pOrd U e p).2.1 = 0 → p < (pOrd U e p).1) := by
  unfold pOrd
  split
  · next z =>
    unfold ordS
    have h1 := o1P_le (U := U) (e := e) (m := (pt (U p)).1) (p := p + 1) z.1
    have h2 := nxP_le (U := U) (e := e) (c := (pt (U p)).2.1.1) (m := (pt (U p)).2.1.2) h1.2
    have h3 := nxP_le (U := U) (e := e) (c := (pt (U p)).2.2.1) (m := (pt (U p)).2.2.2) h2.2
    exact ⟨by dsimp only; omega, h3.2, nxP_w (nxP_w o1P_w), fun _ => by dsimp only; omega⟩
  · exact ⟨Nat.le_refl _, h, (by decide : 1 < 2), fun z => absurd z Nat.one_ne_zero⟩
def pRun (U : Nat → Nat) (e : Nat) : Nat → Nat → Nat × Nat × List (Nat × Nat × Nat × Nat)
  | 0, p => (p, 1, [])
  | k + 1, p => if (pOrd U e p).2.1 ≠ 0 then ((pOrd U e p).1, 1, []) else
      let t := if e ≤ (pOrd U e p).1 then ((pOrd U e p).1, 0, []) else if U (pOrd U e p).1 = 59 then pRun U e k ((pOrd U e p).1 + 1) else ((pOrd U e p).1, 1, [])
      (t.1, t.2.1, (U p, (pOrd U e p).2.2) :: t.2.2)
def pRest (U : Nat → Nat) (e k q : Nat) : Nat × Nat × List (Nat × Nat × Nat × Nat) := if e ≤ q then (q, 0, []) else if U q = 59 then pRun U e k (q + 1) else (q, 1, [])
theorem pRun_w {U : Nat → Nat} {e k p : Nat} (h : (pOrd U e p).2.1 ≠ 0) : pRun U e (k + 1) p = ((pOrd U e p).1, 1, []) := by rw [pRun]; rw [if_pos h]
theorem pRun_o {U : Nat → Nat} {e k p : Nat} (h : (pOrd U e p).2.1 = 0) : pRun U e (k + 1) p = ((pRest U e k (pOrd U e p).1).1, (pRest U e k (pOrd U e p).1).2.1, (U p, (pOrd U e p).2.2) :: (pRest U e k (pOrd U e p).1).2.2) := by rw [pRun]; rw [if_neg (fun z => z h)]; rfl
theorem pRest_e {U : Nat → Nat} {e k q : Nat} (h : e ≤ q) : pRest U e k q = (q, 0, []) := by unfold pRest; rw [if_pos h]
theorem pRest_s {U : Nat → Nat} {e k q : Nat} (h : q < e) (h2 : U q = 59) : pRest U e k q = pRun U e k (q + 1) := by unfold pRest; rw [if_neg (Nat.not_le.mpr h), if_pos h2]
theorem pRest_n {U : Nat → Nat} {e k q : Nat} (h : q < e) (h2 : ¬ U q = 59) : pRest U e k q = (q, 1, []) := by unfold pRest; rw [if_neg (Nat.not_le.mpr h), if_neg h2]
noncomputable def oOp (V : Nat → Int32) (o : Nat × Nat × Nat × Nat) : Out := oDo (cl (V 0)) V o.1 (nI o.2.1) (nI o.2.2.1) (nI o.2.2.2)
noncomputable def runO : List (Nat × Nat × Nat × Nat) → Nat → (Nat → Int32) → (Nat × Int32 × List (Int32 × Int32)) ⊕ (Nat × (Nat → Int32))
  | [], i, V => .inr (i, V)
  | o :: os, i, V => match oOp V o with
    | .inl (x, rs) => .inl (i, x, rs)
    | .inr (_, V2) => runO os (i + 1) V2
def hAll : List (Nat × Nat × Nat × Nat) → (Nat → Int32) → Prop
  | [], _ => True
  | o :: os, V => HV (cl (V 0)) V ∧ ∀ a V2, oOp V o = .inr (a, V2) → hAll os V2
theorem runO_l {o : Nat × Nat × Nat × Nat} {os : List (Nat × Nat × Nat × Nat)} {i : Nat} {V : Nat → Int32} {x : Int32} {rs : List (Int32 × Int32)} (h : oOp V o = .inl (x, rs)) : runO (o :: os) i V = .inl (i, x, rs) := by rw [runO]; rw [h]
theorem runO_r {o : Nat × Nat × Nat × Nat} {os : List (Nat × Nat × Nat × Nat)} {i : Nat} {V V2 : Nat → Int32} {a : Int32} (h : oOp V o = .inr (a, V2)) : runO (o :: os) i V = runO os (i + 1) V2 := by rw [runO]; rw [h]
theorem nI_eq0 {m : Nat} (h : m < 2147483648) : (nI m = 0) = (m = 0) := propext (nI_eq h (by omega : (0:Nat) < 2147483648))
theorem nI_div {a b : Nat} (ha : a < 2147483648) (hb : b < 2147483648) : nI a / nI b = nI (a / b) := by
  apply Int32.toInt_inj.mp
  have h : a / b < 2147483648 := Nat.lt_of_le_of_lt (Nat.div_le_self a b) ha
  rw [Int32.toInt_div, nI_toInt ha, nI_toInt hb, nI_toInt h, ← Int.ofNat_tdiv]
  revert h
  generalize a / b = q
  intro h
  apply Int.bmod_eq_of_le <;> omega
theorem nI_mod {a b : Nat} (ha : a < 2147483648) (hb : b < 2147483648) : nI a - nI a / nI b * nI b = nI (a % b) := by
  have h : a / b * b ≤ a := Nat.div_mul_le_self a b
  rw [nI_div ha hb, nI_mul, nI_sub h]
  congr 1
  have := Nat.div_add_mod a b
  rw [Nat.mul_comm] at this
  omega
theorem getD_app {ln : List Nat} {c i : Nat} : (ln ++ [c]).getD i 0 = if i = ln.length then c else ln.getD i 0 := by
  by_cases h : i = ln.length
  · subst h; rw [if_pos rfl]; simp
  · rw [if_neg h]
    by_cases g : i < ln.length
    · simp [List.getD, List.getElem?_append_left g]
    · have : ln.length < i := by omega
      show (ln ++ [c])[i]?.getD 0 = ln[i]?.getD 0
      rw [List.getElem?_eq_none (by rw [List.length_append]; show ln.length + 1 ≤ i; omega), List.getElem?_eq_none (by omega)]
def dgl (n : Nat) : List Nat := if n < 10 then [48 + n] else if n < 100 then [48 + n / 10, 48 + n % 10] else if n < 1000 then [48 + n / 100, 48 + n / 10 % 10, 48 + n % 10] else if n < 10000 then [48 + n / 1000, 48 + n / 100 % 10, 48 + n / 10 % 10, 48 + n % 10] else [48 + n / 10000, 48 + n / 1000 % 10, 48 + n / 100 % 10, 48 + n / 10 % 10, 48 + n % 10]
theorem dgl_len {n : Nat} : (dgl n).length ≤ 5 := by
  unfold dgl
  split; exact (by decide : 1 ≤ 5)
  split; exact (by decide : 2 ≤ 5)
  split; exact (by decide : 3 ≤ 5)
  split; exact (by decide : 4 ≤ 5)
  exact (by decide : 5 ≤ 5)
def tlB (s o w k : Nat) : List Nat := [] ++ dgl s ++ [64] ++ dgl o ++ [58] ++ dgl w ++ [47] ++ dgl k
def tlC (t u : Nat) (ln : List Nat) : List Nat := if t = 0 then ln else ln ++ [62] ++ dgl (t - 1) ++ [61] ++ dgl u
def tlD (b z : Nat) (ln : List Nat) : List Nat := if b = 0 then ln else ln ++ [33] ++ dgl z
def tlS (s o w k t u b z : Nat) : List Nat := tlD b z (tlC t u (tlB s o w k))
def thS (o s p : Nat) : List Nat := if o ≠ 1 then [120] else dgl s ++ (if p = 0 then [] else [43] ++ dgl p)
def thL (O S P : Nat → Nat) : Nat → List Nat
  | 0 => []
  | h + 1 => thL O S P h ++ (if h = 0 then [] else [32]) ++ thS (O h) (S h) (P h)
theorem thS_len {o s p : Nat} : (thS o s p).length ≤ 11 := by
  unfold thS
  split
  · exact (by decide : 1 ≤ 11)
  · rw [List.length_append]
    have h1 := @dgl_len s
    have h2 := @dgl_len p
    split
    · simp only [List.length_nil]; omega
    · simp only [List.length_append, List.length_cons, List.length_nil]; omega
theorem thL_len {O S P : Nat → Nat} : ∀ h, (thL O S P h).length ≤ 12 * h := by
  intro h
  induction h with
  | zero => exact Nat.le_refl _
  | succ h ih =>
    rw [thL, List.length_append, List.length_append]
    have h1 := @thS_len (O h) (S h) (P h)
    split
    · simp only [List.length_nil]; omega
    · simp only [List.length_cons, List.length_nil]; omega
