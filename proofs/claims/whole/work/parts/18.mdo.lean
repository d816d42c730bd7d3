/-! the reference, one change by its letter -/
theorem ifp_or {α : Type} {p : Prop} {a b : α} : (p ∧ ifp p a b = a) ∨ (¬ p ∧ ifp p a b = b) := by
  by_cases h : p
  · exact Or.inl ⟨h, ifp_t h⟩
  · exact Or.inr ⟨h, ifp_f h⟩
def okF (o : Out) : Prop := match o with
  | .inl (x, rs) => (rs = [] ∧ (x = -1011 ∨ x = -1012)) ∨ (x = -1014 ∧ ((∃ a b, rs = [(a, b)] ∧ a ≠ 0) ∨ ∃ a b u v, rs = [(a, b), (u, v)] ∧ a ≠ 0 ∧ u ≠ 0))
  | .inr _ => True
theorem okF_ifp {p : Prop} {a b : Out} (h1 : okF a) (h2 : okF b) : okF (ifp p a b) := by
  rcases @ifp_or Out p a b with ⟨_, e⟩ | ⟨_, e⟩
  · rw [e]; exact h1
  · rw [e]; exact h2
theorem okF_n : okF (.inl (-1011, [])) := Or.inl ⟨rfl, Or.inl rfl⟩
theorem okF_b : okF (.inl (-1012, [])) := Or.inl ⟨rfl, Or.inr rfl⟩
theorem okF_1 {a b : Int32} (h : a ≠ 0) : okF (.inl (-1014, [(a, b)])) := Or.inr ⟨rfl, Or.inl ⟨a, b, rfl, h⟩⟩
theorem okF_2 {a b u v : Int32} (h : a ≠ 0) (g : u ≠ 0) : okF (.inl (-1014, [(a, b), (u, v)])) := Or.inr ⟨rfl, Or.inr ⟨a, b, u, v, rfl, h, g⟩⟩
theorem okF_s {a : Int32} {V : Nat → Int32} : okF (.inr (a, V)) := trivial
theorem okF_ne {o : Out} (h : okF o) : ∀ yy rs, o = .inl (yy, rs) → ¬ yy = 0 := by
  intro yy rs e
  subst e
  rcases h with ⟨_, e | e⟩ | ⟨e, _⟩ <;> (rw [e]; decide)
theorem okF_lt {o : Out} (h : okF o) : ∀ yy rs, o = .inl (yy, rs) → yy < 0 := by
  intro yy rs e
  subst e
  rcases h with ⟨_, e | e⟩ | ⟨e, _⟩ <;> (rw [e]; decide)
def cl (x : Int32) : Nat := x.toNatClampNeg
theorem cl_nI {j : Nat} (h : j < 2147483648) : cl (nI j) = j := nI_clamp h
noncomputable def oS (n : Nat) (V : Nat → Int32) (a w k : Int32) : Out := ifp (badH a) (.inl (-1011, [])) (vComes n V (cl a) w k)
noncomputable def oM (n : Nat) (V : Nat → Int32) (a w k : Int32) : Out := ifp (badH a) (.inl (-1011, [])) (vMoulds n V (cl a) w k)
noncomputable def oB (n : Nat) (V : Nat → Int32) (a x : Int32) : Out := ifp (badS n a) (.inl (-1011, [])) (vBurns V (cl a) x)
noncomputable def oO (n : Nat) (V : Nat → Int32) (a b x : Int32) : Out := ifp (badS n a ∨ badH b) (.inl (-1011, [])) (vOwes n V (cl a) (cl b) x)
noncomputable def oW (n : Nat) (V : Nat → Int32) (b a x : Int32) : Out := ifp (badH b ∨ badS n a) (.inl (-1011, [])) (vSnuffs n V (cl b) (cl a) x)
noncomputable def oP (n : Nat) (V : Nat → Int32) (a x : Int32) : Out := ifp (badS n a) (.inl (-1011, [])) (vPools V (cl a) (cl (V (30 + 8 * cl a + 0))) x)
noncomputable def oH (V : Nat → Int32) (a b : Int32) : Out := ifp (badH a ∨ badH b) (.inl (-1011, [])) (vTells V (cl a) (cl b))
noncomputable def oE (n : Nat) (V : Nat → Int32) (a : Int32) : Out := ifp (badH a) (.inl (-1011, [])) (vCloses n V (cl a))
theorem okF_Makes {n : Nat} {V : Nat → Int32} {a w k : Int32} : okF (vMakes n V a w k) := okF_ifp (okF_ifp (okF_1 (by decide)) okF_s) (okF_1 (by decide))
theorem okF_S {n : Nat} {V : Nat → Int32} {a w k : Int32} : okF (oS n V a w k) := okF_ifp okF_n (okF_ifp okF_b (okF_ifp okF_Makes (okF_1 (by decide))))
theorem okF_M {n : Nat} {V : Nat → Int32} {a w k : Int32} : okF (oM n V a w k) := okF_ifp okF_n (okF_ifp okF_b (okF_ifp (okF_ifp okF_Makes (okF_1 (by decide))) (okF_1 (by decide))))
theorem okF_Burn2 {s : Nat} {p : Int32} {V : Nat → Int32} : okF (vBurn2 s p V) := okF_ifp okF_s okF_s
theorem okF_Burn1 {s : Nat} {p : Int32} {V : Nat → Int32} : okF (vBurn1 s p V) := okF_ifp okF_Burn2 okF_Burn2
theorem okF_B {n : Nat} {V : Nat → Int32} {a x : Int32} : okF (oB n V a x) := okF_ifp okF_n (okF_ifp okF_b (okF_ifp (okF_ifp (okF_ifp okF_Burn1 okF_Burn1) (okF_2 (by decide) (by decide))) (okF_2 (by decide) (by decide))))
theorem okF_O {n : Nat} {V : Nat → Int32} {a b x : Int32} : okF (oO n V a b x) := okF_ifp okF_n (okF_ifp okF_b (okF_ifp (okF_ifp (okF_1 (by decide)) (okF_ifp okF_s (okF_1 (by decide)))) (okF_1 (by decide))))
theorem okF_W {n : Nat} {V : Nat → Int32} {a b x : Int32} : okF (oW n V a b x) := okF_ifp okF_n (okF_ifp okF_b (okF_ifp (okF_ifp (okF_1 (by decide)) (okF_ifp (okF_ifp (okF_1 (by decide)) okF_s) (okF_1 (by decide)))) (okF_1 (by decide))))
theorem okF_P {n : Nat} {V : Nat → Int32} {a x : Int32} : okF (oP n V a x) := okF_ifp okF_n (okF_ifp okF_b (okF_ifp (okF_ifp okF_s okF_s) (okF_1 (by decide))))
theorem okF_H {V : Nat → Int32} {a b : Int32} : okF (oH V a b) := okF_ifp okF_n (okF_ifp (okF_1 (by decide)) okF_s)
theorem okF_E {n : Nat} {V : Nat → Int32} {a : Int32} : okF (oE n V a) := by
  refine okF_ifp okF_n (okF_ifp ?_ (okF_1 (by decide)))
  split
  · exact okF_1 (by decide)
  · exact okF_s
theorem okF_T {n : Nat} {V : Nat → Int32} {x : Int32} : okF (vPasses n V x) := okF_ifp okF_b okF_s
theorem okF_D {n : Nat} {V : Nat → Int32} : okF (vShares n V) := okF_ifp (okF_1 (by decide)) (okF_ifp (okF_1 (by decide)) okF_s)
/-- what the reference's steps need of its row -/
def HV (n : Nat) (V : Nat → Int32) : Prop := V 0 = nI n ∧ n ≤ 12 ∧ (∀ s, s < n → ∃ o, o < 6 ∧ V (30 + 8 * s + 0) = nI o) ∧ (¬ mClaims n V = 0 → 0 < mClaims n V ∧ ¬ vLeft n V < 0) ∧ okHr V ∧ (∀ j, j < 6 → vOpen V j → (mOpens V = nI 1 ↔ vSucc V j = none))
theorem HV.hn {n : Nat} {V : Nat → Int32} (H : HV n V) : V 0 = nI n := H.1
theorem HV.h12 {n : Nat} {V : Nat → Int32} (H : HV n V) : n ≤ 12 := H.2.1
theorem HV.hof {n : Nat} {V : Nat → Int32} (H : HV n V) : ∀ s, s < n → ∃ o, o < 6 ∧ V (30 + 8 * s + 0) = nI o := H.2.2.1
theorem HV.hF {n : Nat} {V : Nat → Int32} (H : HV n V) : ¬ mClaims n V = 0 → 0 < mClaims n V ∧ ¬ vLeft n V < 0 := H.2.2.2.1
theorem HV.hr {n : Nat} {V : Nat → Int32} (H : HV n V) : okHr V := H.2.2.2.2.1
theorem HV.hs {n : Nat} {V : Nat → Int32} (H : HV n V) : ∀ j, j < 6 → vOpen V j → (mOpens V = nI 1 ↔ vSucc V j = none) := H.2.2.2.2.2
theorem T_oS {d : Nat} {D : Mm} {Q : Option Value → Mm → Prop} {n : Nat} (H : HV n (D 172)) {a b c : Int32} (h : OutM (oS n (D 172) a b c) D Q) : Ct (d + 4) 126 [.ref 171, .int a, .int b, .int c] D Q := by
  unfold oS at h
  rcases caseH a with hb | ⟨j, hj, rfl⟩
  · rw [ifp_t hb] at h
    exact T_comes_bad hb h
  · rw [ifp_f (okH hj), cl_nI (by first | omega | (have := H.h12; omega))] at h
    exact T_comes rfl H.hn H.h12 hj h
theorem P_oS {d : Nat} {D : Mm} {Q : Option Value → Mm → Prop} {n : Nat} (H : HV n (D 172)) {a b c : Int32} {m : Nat} (hc : D 171 1 = nI m) (h8 : m ≤ 8) (h : OutE (oS n (D 172) a b c) D m Q) : Ct (d + 7) 127 [.ref 171, .int a, .int b, .int c] D Q := by
  have HOK : okF (oS n (D 172) a b c) := okF_S
  unfold oS at h HOK
  rcases caseH a with hb | ⟨j, hj, rfl⟩
  · rw [ifp_t hb] at h HOK
    exact P_stub_bad hb hc h8 (okF_ne HOK) h
  · rw [ifp_f (okH hj), cl_nI (by first | omega | (have := H.h12; omega))] at h HOK
    exact P_stub H.hn H.h12 hj hc h8 (okF_ne HOK) h
theorem T_oM {d : Nat} {D : Mm} {Q : Option Value → Mm → Prop} {n : Nat} (H : HV n (D 172)) {a b c : Int32} (h : OutM (oM n (D 172) a b c) D Q) : Ct (d + 4) 146 [.ref 171, .int a, .int b, .int c] D Q := by
  unfold oM at h
  rcases caseH a with hb | ⟨j, hj, rfl⟩
  · rw [ifp_t hb] at h
    exact T_moulds_bad hb h
  · rw [ifp_f (okH hj), cl_nI (by first | omega | (have := H.h12; omega))] at h
    exact T_moulds rfl H.hn H.h12 hj h
theorem P_oM {d : Nat} {D : Mm} {Q : Option Value → Mm → Prop} {n : Nat} (H : HV n (D 172)) {a b c : Int32} {m : Nat} (hc : D 171 1 = nI m) (h8 : m ≤ 8) (h : OutE (oM n (D 172) a b c) D m Q) : Ct (d + 7) 147 [.ref 171, .int a, .int b, .int c] D Q := by
  have HOK : okF (oM n (D 172) a b c) := okF_M
  unfold oM at h HOK
  rcases caseH a with hb | ⟨j, hj, rfl⟩
  · rw [ifp_t hb] at h HOK
    exact P_mould_bad hb hc h8 (okF_ne HOK) h
  · rw [ifp_f (okH hj), cl_nI (by first | omega | (have := H.h12; omega))] at h HOK
    exact P_mould H.hn H.h12 hj hc h8 (okF_ne HOK) h
theorem T_oB {d : Nat} {D : Mm} {Q : Option Value → Mm → Prop} {n : Nat} (H : HV n (D 172)) {a b : Int32} (h : OutM (oB n (D 172) a b) D Q) : Ct (d + 4) 129 [.ref 171, .int a, .int b] D Q := by
  unfold oB at h
  rcases caseS (n := n) (by have := H.h12; omega) a with hb | ⟨j, hj, rfl⟩
  · rw [ifp_t hb] at h
    exact T_burns_bad H.hn H.h12 hb h
  · rw [ifp_f (okS hj (by have := H.h12; omega)), cl_nI (by first | omega | (have := H.h12; omega))] at h
    exact T_burns rfl H.hn H.h12 hj h
theorem P_oB {d : Nat} {D : Mm} {Q : Option Value → Mm → Prop} {n : Nat} (H : HV n (D 172)) {a b : Int32} {m : Nat} (hc : D 171 1 = nI m) (h8 : m ≤ 8) (h : OutE (oB n (D 172) a b) D m Q) : Ct (d + 7) 130 [.ref 171, .int a, .int b] D Q := by
  have HOK : okF (oB n (D 172) a b) := okF_B
  unfold oB at h HOK
  rcases caseS (n := n) (by have := H.h12; omega) a with hb | ⟨j, hj, rfl⟩
  · rw [ifp_t hb] at h HOK
    exact P_burn_bad H.hn H.h12 hb hc h8 (okF_ne HOK) h
  · rw [ifp_f (okS hj (by have := H.h12; omega)), cl_nI (by first | omega | (have := H.h12; omega))] at h HOK
    exact P_burn H.hn H.h12 hj hc h8 (okF_ne HOK) h
theorem T_oP {d : Nat} {D : Mm} {Q : Option Value → Mm → Prop} {n : Nat} (H : HV n (D 172)) {a b : Int32} (h : OutM (oP n (D 172) a b) D Q) : Ct (d + 4) 137 [.ref 171, .int a, .int b] D Q := by
  unfold oP at h
  rcases caseS (n := n) (by have := H.h12; omega) a with hb | ⟨j, hj, rfl⟩
  · rw [ifp_t hb] at h
    exact T_pools_bad H.hn H.h12 hb h
  · rw [ifp_f (okS hj (by have := H.h12; omega)), cl_nI (by first | omega | (have := H.h12; omega))] at h
    obtain ⟨o, ho6, ho⟩ := H.hof j hj
    rw [ho, cl_nI (by omega)] at h
    exact T_pools rfl H.hn H.h12 hj ho ho6 h
theorem P_oP {d : Nat} {D : Mm} {Q : Option Value → Mm → Prop} {n : Nat} (H : HV n (D 172)) {a b : Int32} {m : Nat} (hc : D 171 1 = nI m) (h8 : m ≤ 8) (h : OutE (oP n (D 172) a b) D m Q) : Ct (d + 7) 138 [.ref 171, .int a, .int b] D Q := by
  have HOK : okF (oP n (D 172) a b) := okF_P
  unfold oP at h HOK
  rcases caseS (n := n) (by have := H.h12; omega) a with hb | ⟨j, hj, rfl⟩
  · rw [ifp_t hb] at h HOK
    exact P_pool_bad H.hn H.h12 hb hc h8 (okF_ne HOK) h
  · rw [ifp_f (okS hj (by have := H.h12; omega)), cl_nI (by first | omega | (have := H.h12; omega))] at h HOK
    obtain ⟨o, ho6, ho⟩ := H.hof j hj
    rw [ho, cl_nI (by omega)] at h HOK
    exact P_pool H.hn H.h12 hj ho ho6 hc h8 (okF_ne HOK) h
theorem T_oE {d : Nat} {D : Mm} {Q : Option Value → Mm → Prop} {n : Nat} (H : HV n (D 172)) {a : Int32} (h : OutM (oE n (D 172) a) D Q) : Ct (d + 4) 153 [.ref 171, .int a] D Q := by
  unfold oE at h
  rcases caseH a with hb | ⟨j, hj, rfl⟩
  · rw [ifp_t hb] at h
    exact T_closes_bad hb h
  · rw [ifp_f (okH hj), cl_nI (by first | omega | (have := H.h12; omega))] at h
    exact T_closes rfl H.hn H.h12 hj H.hr (H.hs _ hj) h
theorem P_oE {d : Nat} {D : Mm} {Q : Option Value → Mm → Prop} {n : Nat} (H : HV n (D 172)) {a : Int32} {m : Nat} (hc : D 171 1 = nI m) (h8 : m ≤ 8) (h : OutE (oE n (D 172) a) D m Q) : Ct (d + 7) 154 [.ref 171, .int a] D Q := by
  have HOK : okF (oE n (D 172) a) := okF_E
  unfold oE at h HOK
  rcases caseH a with hb | ⟨j, hj, rfl⟩
  · rw [ifp_t hb] at h HOK
    exact P_end_bad hb hc h8 (okF_ne HOK) h
  · rw [ifp_f (okH hj), cl_nI (by first | omega | (have := H.h12; omega))] at h HOK
    exact P_end H.hn H.h12 hj H.hr (H.hs _ hj) hc h8 (okF_ne HOK) h
theorem T_oO {d : Nat} {D : Mm} {Q : Option Value → Mm → Prop} {n : Nat} (H : HV n (D 172)) {a b c : Int32} (h : OutM (oO n (D 172) a b c) D Q) : Ct (d + 4) 131 [.ref 171, .int a, .int b, .int c] D Q := by
  unfold oO at h
  rcases caseS (n := n) (by have := H.h12; omega) a with hb | ⟨j, hj, rfl⟩
  · rw [ifp_t (Or.inl hb)] at h
    exact T_owes_bad1 H.hn H.h12 hb h
  · rcases caseH b with hb | ⟨i, hi, rfl⟩
    · rw [ifp_t (Or.inr hb)] at h
      exact T_owes_bad2 H.hn H.h12 hj hb h
    · rw [ifp_f (fun q => q.elim (okS hj (by have := H.h12; omega)) (okH hi)), cl_nI (by first | omega | (have := H.h12; omega)), cl_nI (by first | omega | (have := H.h12; omega))] at h
      exact T_owes rfl H.hn H.h12 hj hi h
theorem P_oO {d : Nat} {D : Mm} {Q : Option Value → Mm → Prop} {n : Nat} (H : HV n (D 172)) {a b c : Int32} {m : Nat} (hc : D 171 1 = nI m) (h8 : m ≤ 8) (h : OutE (oO n (D 172) a b c) D m Q) : Ct (d + 7) 132 [.ref 171, .int a, .int b, .int c] D Q := by
  have HOK : okF (oO n (D 172) a b c) := okF_O
  unfold oO at h HOK
  rcases caseS (n := n) (by have := H.h12; omega) a with hb | ⟨j, hj, rfl⟩
  · rw [ifp_t (Or.inl hb)] at h HOK
    exact P_owe_bad1 H.hn H.h12 hb hc h8 (okF_ne HOK) h
  · rcases caseH b with hb | ⟨i, hi, rfl⟩
    · rw [ifp_t (Or.inr hb)] at h HOK
      exact P_owe_bad2 H.hn H.h12 hj hb hc h8 (okF_ne HOK) h
    · rw [ifp_f (fun q => q.elim (okS hj (by have := H.h12; omega)) (okH hi)), cl_nI (by first | omega | (have := H.h12; omega)), cl_nI (by first | omega | (have := H.h12; omega))] at h HOK
      exact P_owe H.hn H.h12 hj hi hc h8 (okF_ne HOK) h
theorem T_oW {d : Nat} {D : Mm} {Q : Option Value → Mm → Prop} {n : Nat} (H : HV n (D 172)) {a b c : Int32} (h : OutM (oW n (D 172) a b c) D Q) : Ct (d + 4) 133 [.ref 171, .int a, .int b, .int c] D Q := by
  unfold oW at h
  rcases caseH a with hb | ⟨j, hj, rfl⟩
  · rw [ifp_t (Or.inl hb)] at h
    exact T_snuffs_bad1 hb h
  · rcases caseS (n := n) (by have := H.h12; omega) b with hb | ⟨i, hi, rfl⟩
    · rw [ifp_t (Or.inr hb)] at h
      exact T_snuffs_bad2 H.hn H.h12 hj hb h
    · rw [ifp_f (fun q => q.elim (okH hj) (okS hi (by have := H.h12; omega))), cl_nI (by first | omega | (have := H.h12; omega)), cl_nI (by first | omega | (have := H.h12; omega))] at h
      exact T_snuffs rfl H.hn H.h12 hi hj h
theorem P_oW {d : Nat} {D : Mm} {Q : Option Value → Mm → Prop} {n : Nat} (H : HV n (D 172)) {a b c : Int32} {m : Nat} (hc : D 171 1 = nI m) (h8 : m ≤ 8) (h : OutE (oW n (D 172) a b c) D m Q) : Ct (d + 7) 134 [.ref 171, .int a, .int b, .int c] D Q := by
  have HOK : okF (oW n (D 172) a b c) := okF_W
  unfold oW at h HOK
  rcases caseH a with hb | ⟨j, hj, rfl⟩
  · rw [ifp_t (Or.inl hb)] at h HOK
    exact P_writ_bad1 hb hc h8 (okF_ne HOK) h
  · rcases caseS (n := n) (by have := H.h12; omega) b with hb | ⟨i, hi, rfl⟩
    · rw [ifp_t (Or.inr hb)] at h HOK
      exact P_writ_bad2 H.hn H.h12 hj hb hc h8 (okF_ne HOK) h
    · rw [ifp_f (fun q => q.elim (okH hj) (okS hi (by have := H.h12; omega))), cl_nI (by first | omega | (have := H.h12; omega)), cl_nI (by first | omega | (have := H.h12; omega))] at h HOK
      exact P_writ H.hn H.h12 hi hj hc h8 (okF_ne HOK) h
theorem T_oH {d : Nat} {D : Mm} {Q : Option Value → Mm → Prop} {n : Nat} (H : HV n (D 172)) {a b : Int32} (h : OutM (oH (D 172) a b) D Q) : Ct (d + 4) 148 [.ref 171, .int a, .int b] D Q := by
  unfold oH at h
  rcases caseH a with hb | ⟨j, hj, rfl⟩
  · rw [ifp_t (Or.inl hb)] at h
    exact T_tellsHeir_bad1 hb h
  · rcases caseH b with hb | ⟨i, hi, rfl⟩
    · rw [ifp_t (Or.inr hb)] at h
      exact T_tellsHeir_bad2 hj hb h
    · rw [ifp_f (fun q => q.elim (okH hj) (okH hi)), cl_nI (by first | omega | (have := H.h12; omega)), cl_nI (by first | omega | (have := H.h12; omega))] at h
      exact T_tellsHeir rfl hj hi h
theorem P_oH {d : Nat} {D : Mm} {Q : Option Value → Mm → Prop} {n : Nat} (H : HV n (D 172)) {a b : Int32} {m : Nat} (hc : D 171 1 = nI m) (h8 : m ≤ 8) (h : OutE (oH (D 172) a b) D m Q) : Ct (d + 7) 149 [.ref 171, .int a, .int b] D Q := by
  have HOK : okF (oH (D 172) a b) := okF_H
  unfold oH at h HOK
  rcases caseH a with hb | ⟨j, hj, rfl⟩
  · rw [ifp_t (Or.inl hb)] at h HOK
    exact P_heir_bad1 hb hc h8 (okF_ne HOK) h
  · rcases caseH b with hb | ⟨i, hi, rfl⟩
    · rw [ifp_t (Or.inr hb)] at h HOK
      exact P_heir_bad2 hj hb hc h8 (okF_ne HOK) h
    · rw [ifp_f (fun q => q.elim (okH hj) (okH hi)), cl_nI (by first | omega | (have := H.h12; omega)), cl_nI (by first | omega | (have := H.h12; omega))] at h HOK
      exact P_heir hj hi hc h8 (okF_ne HOK) h
noncomputable def oDo (n : Nat) (V : Nat → Int32) (k : Nat) (a b c : Int32) : Out :=
  if k = 115 then oS n V a b c else if k = 98 then oB n V a b else if k = 111 then oO n V a b c else if k = 119 then oW n V a b c else if k = 112 then oP n V a b
  else if k = 100 then vShares n V else if k = 109 then oM n V a b c else if k = 104 then oH V a b else if k = 101 then oE n V a else vPasses n V a
theorem okF_Do {n k : Nat} {V : Nat → Int32} {a b c : Int32} : okF (oDo n V k a b c) := by
  unfold oDo
  split; exact okF_S
  split; exact okF_B
  split; exact okF_O
  split; exact okF_W
  split; exact okF_P
  split; exact okF_D
  split; exact okF_M
  split; exact okF_H
  split; exact okF_E
  exact okF_T
theorem oDo115 {n : Nat} {V : Nat → Int32} {a b c : Int32} : oDo n V 115 a b c = oS n V a b c := by unfold oDo; rw [if_pos rfl]
set_option maxHeartbeats 100000 in
theorem T_does115 {d : Nat} {D : Mm} {Q : Option Value → Mm → Prop} {n : Nat} (H : HV n (D 172)) {a b c : Int32} (h : OutM (oDo n (D 172) 115 a b c) D Q) : Ct (d + 7) 172 [.ref 171, .int (nI 115), .int a, .int b, .int c] D Q := by
  rw [oDo115] at h
  refine ent m172 rfl rfl (ls := [.ref 171, .int (nI 115), .int a, .int b, .int c]) rfl ?_
  refine w_ild1 i172_0 ?_
  refine w_ts (t := 104) i172_1 (by decide) ?_
  refine w_ald0 i172_104 ?_
  refine w_ild2 i172_105 ?_
  refine w_ild3 i172_106 ?_
  refine w_ild4 i172_107 ?_
  refine w_vG4 i172_109 c126 (Or.inl rfl) ⟨by decide +kernel, by decide⟩ rfl ⟨rfl, Nat.le_of_ble_eq_true rfl⟩ ?_
  exact T_oS H (OutMr h (fun x D2 hq => w_ri i172_112 r172 hq))
theorem oDo98 {n : Nat} {V : Nat → Int32} {a b c : Int32} : oDo n V 98 a b c = oB n V a b := by unfold oDo; rw [if_neg (by decide), if_pos rfl]
set_option maxHeartbeats 100000 in
theorem T_does98 {d : Nat} {D : Mm} {Q : Option Value → Mm → Prop} {n : Nat} (H : HV n (D 172)) {a b c : Int32} (h : OutM (oDo n (D 172) 98 a b c) D Q) : Ct (d + 7) 172 [.ref 171, .int (nI 98), .int a, .int b, .int c] D Q := by
  rw [oDo98] at h
  refine ent m172 rfl rfl (ls := [.ref 171, .int (nI 98), .int a, .int b, .int c]) rfl ?_
  refine w_ild1 i172_0 ?_
  refine w_ts (t := 113) i172_1 (by decide) ?_
  refine w_ald0 i172_113 ?_
  refine w_ild2 i172_114 ?_
  refine w_ild3 i172_115 ?_
  refine w_vG3 i172_116 c129 (Or.inl rfl) ⟨by decide +kernel, by decide⟩ rfl ⟨rfl, Nat.le_of_ble_eq_true rfl⟩ ?_
  exact T_oB H (OutMr h (fun x D2 hq => w_ri i172_119 r172 hq))
theorem oDo111 {n : Nat} {V : Nat → Int32} {a b c : Int32} : oDo n V 111 a b c = oO n V a b c := by unfold oDo; rw [if_neg (by decide), if_neg (by decide), if_pos rfl]
set_option maxHeartbeats 100000 in
theorem T_does111 {d : Nat} {D : Mm} {Q : Option Value → Mm → Prop} {n : Nat} (H : HV n (D 172)) {a b c : Int32} (h : OutM (oDo n (D 172) 111 a b c) D Q) : Ct (d + 7) 172 [.ref 171, .int (nI 111), .int a, .int b, .int c] D Q := by
  rw [oDo111] at h
  refine ent m172 rfl rfl (ls := [.ref 171, .int (nI 111), .int a, .int b, .int c]) rfl ?_
  refine w_ild1 i172_0 ?_
  refine w_ts (t := 120) i172_1 (by decide) ?_
  refine w_ald0 i172_120 ?_
  refine w_ild2 i172_121 ?_
  refine w_ild3 i172_122 ?_
  refine w_ild4 i172_123 ?_
  refine w_vG4 i172_125 c131 (Or.inl rfl) ⟨by decide +kernel, by decide⟩ rfl ⟨rfl, Nat.le_of_ble_eq_true rfl⟩ ?_
  exact T_oO H (OutMr h (fun x D2 hq => w_ri i172_128 r172 hq))
theorem oDo119 {n : Nat} {V : Nat → Int32} {a b c : Int32} : oDo n V 119 a b c = oW n V a b c := by unfold oDo; rw [if_neg (by decide), if_neg (by decide), if_neg (by decide), if_pos rfl]
set_option maxHeartbeats 100000 in
theorem T_does119 {d : Nat} {D : Mm} {Q : Option Value → Mm → Prop} {n : Nat} (H : HV n (D 172)) {a b c : Int32} (h : OutM (oDo n (D 172) 119 a b c) D Q) : Ct (d + 7) 172 [.ref 171, .int (nI 119), .int a, .int b, .int c] D Q := by
  rw [oDo119] at h
  refine ent m172 rfl rfl (ls := [.ref 171, .int (nI 119), .int a, .int b, .int c]) rfl ?_
  refine w_ild1 i172_0 ?_
  refine w_ts (t := 129) i172_1 (by decide) ?_
  refine w_ald0 i172_129 ?_
  refine w_ild2 i172_130 ?_
  refine w_ild3 i172_131 ?_
  refine w_ild4 i172_132 ?_
  refine w_vG4 i172_134 c133 (Or.inl rfl) ⟨by decide +kernel, by decide⟩ rfl ⟨rfl, Nat.le_of_ble_eq_true rfl⟩ ?_
  exact T_oW H (OutMr h (fun x D2 hq => w_ri i172_137 r172 hq))
theorem oDo112 {n : Nat} {V : Nat → Int32} {a b c : Int32} : oDo n V 112 a b c = oP n V a b := by unfold oDo; rw [if_neg (by decide), if_neg (by decide), if_neg (by decide), if_neg (by decide), if_pos rfl]
set_option maxHeartbeats 100000 in
theorem T_does112 {d : Nat} {D : Mm} {Q : Option Value → Mm → Prop} {n : Nat} (H : HV n (D 172)) {a b c : Int32} (h : OutM (oDo n (D 172) 112 a b c) D Q) : Ct (d + 7) 172 [.ref 171, .int (nI 112), .int a, .int b, .int c] D Q := by
  rw [oDo112] at h
  refine ent m172 rfl rfl (ls := [.ref 171, .int (nI 112), .int a, .int b, .int c]) rfl ?_
  refine w_ild1 i172_0 ?_
  refine w_ts (t := 138) i172_1 (by decide) ?_
  refine w_ald0 i172_138 ?_
  refine w_ild2 i172_139 ?_
  refine w_ild3 i172_140 ?_
  refine w_vG3 i172_141 c137 (Or.inl rfl) ⟨by decide +kernel, by decide⟩ rfl ⟨rfl, Nat.le_of_ble_eq_true rfl⟩ ?_
  exact T_oP H (OutMr h (fun x D2 hq => w_ri i172_144 r172 hq))
theorem oDo100 {n : Nat} {V : Nat → Int32} {a b c : Int32} : oDo n V 100 a b c = vShares n V := by unfold oDo; rw [if_neg (by decide), if_neg (by decide), if_neg (by decide), if_neg (by decide), if_neg (by decide), if_pos rfl]
set_option maxHeartbeats 100000 in
theorem T_does100 {d : Nat} {D : Mm} {Q : Option Value → Mm → Prop} {n : Nat} (H : HV n (D 172)) {a b c : Int32} (h : OutM (oDo n (D 172) 100 a b c) D Q) : Ct (d + 7) 172 [.ref 171, .int (nI 100), .int a, .int b, .int c] D Q := by
  rw [oDo100] at h
  refine ent m172 rfl rfl (ls := [.ref 171, .int (nI 100), .int a, .int b, .int c]) rfl ?_
  refine w_ild1 i172_0 ?_
  refine w_ts (t := 145) i172_1 (by decide) ?_
  refine w_ald0 i172_145 ?_
  refine w_vG1 i172_146 c142 (Or.inl rfl) ⟨by decide +kernel, by decide⟩ rfl ⟨rfl, Nat.le_of_ble_eq_true rfl⟩ ?_
  exact T_shares rfl H.hn H.h12 H.hF (OutMr h (fun x D2 hq => w_ri i172_149 r172 hq))
theorem oDo109 {n : Nat} {V : Nat → Int32} {a b c : Int32} : oDo n V 109 a b c = oM n V a b c := by unfold oDo; rw [if_neg (by decide), if_neg (by decide), if_neg (by decide), if_neg (by decide), if_neg (by decide), if_neg (by decide), if_pos rfl]
set_option maxHeartbeats 100000 in
theorem T_does109 {d : Nat} {D : Mm} {Q : Option Value → Mm → Prop} {n : Nat} (H : HV n (D 172)) {a b c : Int32} (h : OutM (oDo n (D 172) 109 a b c) D Q) : Ct (d + 7) 172 [.ref 171, .int (nI 109), .int a, .int b, .int c] D Q := by
  rw [oDo109] at h
  refine ent m172 rfl rfl (ls := [.ref 171, .int (nI 109), .int a, .int b, .int c]) rfl ?_
  refine w_ild1 i172_0 ?_
  refine w_ts (t := 150) i172_1 (by decide) ?_
  refine w_ald0 i172_150 ?_
  refine w_ild2 i172_151 ?_
  refine w_ild3 i172_152 ?_
  refine w_ild4 i172_153 ?_
  refine w_vG4 i172_155 c146 (Or.inl rfl) ⟨by decide +kernel, by decide⟩ rfl ⟨rfl, Nat.le_of_ble_eq_true rfl⟩ ?_
  exact T_oM H (OutMr h (fun x D2 hq => w_ri i172_158 r172 hq))
theorem oDo104 {n : Nat} {V : Nat → Int32} {a b c : Int32} : oDo n V 104 a b c = oH V a b := by unfold oDo; rw [if_neg (by decide), if_neg (by decide), if_neg (by decide), if_neg (by decide), if_neg (by decide), if_neg (by decide), if_neg (by decide), if_pos rfl]
set_option maxHeartbeats 100000 in
theorem T_does104 {d : Nat} {D : Mm} {Q : Option Value → Mm → Prop} {n : Nat} (H : HV n (D 172)) {a b c : Int32} (h : OutM (oDo n (D 172) 104 a b c) D Q) : Ct (d + 7) 172 [.ref 171, .int (nI 104), .int a, .int b, .int c] D Q := by
  rw [oDo104] at h
  refine ent m172 rfl rfl (ls := [.ref 171, .int (nI 104), .int a, .int b, .int c]) rfl ?_
  refine w_ild1 i172_0 ?_
  refine w_ts (t := 159) i172_1 (by decide) ?_
  refine w_ald0 i172_159 ?_
  refine w_ild2 i172_160 ?_
  refine w_ild3 i172_161 ?_
  refine w_vG3 i172_162 c148 (Or.inl rfl) ⟨by decide +kernel, by decide⟩ rfl ⟨rfl, Nat.le_of_ble_eq_true rfl⟩ ?_
  exact T_oH H (OutMr h (fun x D2 hq => w_ri i172_165 r172 hq))
theorem oDo101 {n : Nat} {V : Nat → Int32} {a b c : Int32} : oDo n V 101 a b c = oE n V a := by unfold oDo; rw [if_neg (by decide), if_neg (by decide), if_neg (by decide), if_neg (by decide), if_neg (by decide), if_neg (by decide), if_neg (by decide), if_neg (by decide), if_pos rfl]
set_option maxHeartbeats 100000 in
theorem T_does101 {d : Nat} {D : Mm} {Q : Option Value → Mm → Prop} {n : Nat} (H : HV n (D 172)) {a b c : Int32} (h : OutM (oDo n (D 172) 101 a b c) D Q) : Ct (d + 7) 172 [.ref 171, .int (nI 101), .int a, .int b, .int c] D Q := by
  rw [oDo101] at h
  refine ent m172 rfl rfl (ls := [.ref 171, .int (nI 101), .int a, .int b, .int c]) rfl ?_
  refine w_ild1 i172_0 ?_
  refine w_ts (t := 166) i172_1 (by decide) ?_
  refine w_ald0 i172_166 ?_
  refine w_ild2 i172_167 ?_
  refine w_vG2 i172_168 c153 (Or.inl rfl) ⟨by decide +kernel, by decide⟩ rfl ⟨rfl, Nat.le_of_ble_eq_true rfl⟩ ?_
  exact T_oE H (OutMr h (fun x D2 hq => w_ri i172_171 r172 hq))
theorem oDo116 {n : Nat} {V : Nat → Int32} {a b c : Int32} : oDo n V 116 a b c = vPasses n V a := by unfold oDo; rw [if_neg (by decide), if_neg (by decide), if_neg (by decide), if_neg (by decide), if_neg (by decide), if_neg (by decide), if_neg (by decide), if_neg (by decide), if_neg (by decide)]
set_option maxHeartbeats 100000 in
theorem T_does116 {d : Nat} {D : Mm} {Q : Option Value → Mm → Prop} {n : Nat} (H : HV n (D 172)) {a b c : Int32} (h : OutM (oDo n (D 172) 116 a b c) D Q) : Ct (d + 7) 172 [.ref 171, .int (nI 116), .int a, .int b, .int c] D Q := by
  rw [oDo116] at h
  refine ent m172 rfl rfl (ls := [.ref 171, .int (nI 116), .int a, .int b, .int c]) rfl ?_
  refine w_ild1 i172_0 ?_
  refine w_ts (t := 172) i172_1 (by decide) ?_
  refine w_ald0 i172_172 ?_
  refine w_ild2 i172_173 ?_
  refine w_vG2 i172_174 c155 (Or.inl rfl) ⟨by decide +kernel, by decide⟩ rfl ⟨rfl, Nat.le_of_ble_eq_true rfl⟩ ?_
  exact T_passes rfl H.hn H.h12 (OutMr h (fun x D2 hq => w_ri i172_177 r172 hq))
