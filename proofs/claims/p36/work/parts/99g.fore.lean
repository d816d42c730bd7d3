/-! what is foretold: an ending, a sharing, a burning -/
theorem Inh_lo {h r j : Nat} (h0 : 0 < j) (h30 : j < 30) (hj : j ≠ 6 + 4 * r + 2) : ∀ k s n m (W : Nat → Int32), (vInh h r k s n m W).2 j = W j := by
  intro k
  induction k with
  | zero => intro s n m W; rfl
  | succ k ih =>
    intro s n m W
    unfold vInh
    by_cases e : W (30 + 8 * s + 0) = nI h
    · rw [ifp_t e]
      by_cases f : mTray n W (nI r) + W (30 + 8 * s + 1) + nI 1 ≤ nI 60
      · rw [ifp_t f, ih]
        exact updJ (by omega)
      · rw [ifp_f f, ih, vGoes_lo (by omega) (by omega)]
        exact updJ hj
    · rw [ifp_f e, ih]
theorem closed_j {n h r j : Nat} {V : Nat → Int32} (h0 : 0 < j) (h30 : j < 30) (hj : j ≠ 6 + 4 * r + 2) : (vClosed n V h r).2 j = vCl0 V h r j := by
  unfold vClosed
  exact (itr_hi own_Fr1 (Or.inr h30)).trans ((Inh_lo h0 h30 hj _ _ _ _ _).trans (itr_hi own_Rt (Or.inr h30)))
theorem closed_lo {n h r j : Nat} {V : Nat → Int32} (hne : r ≠ h) (h0 : 0 < j) (h30 : j < 30) (h1 : j ≠ 6 + 4 * r + 2) (h2 : j ≠ 6 + 4 * r + 3) (h3 : j ≠ 6 + 4 * h + 0) (h4 : j ≠ 6 + 4 * h + 2) (h5 : j ≠ 6 + 4 * h + 3) : (vClosed n V h r).2 j = V j := by
  rw [closed_j h0 h30 h1, vCl0_eq hne, updJ h5, updJ h2, updJ h4, updJ h1, updJ h3]
theorem closed_h {n h r : Nat} {V : Nat → Int32} (hne : r ≠ h) (hh : h < 6) : (vClosed n V h r).2 (6 + 4 * h + 0) = nI 0 := by
  rw [closed_j (by omega) (by omega) (by omega), vCl0_eq hne, updJ (by omega), updJ (by omega), updJ (by omega), updJ (by omega), updE]
theorem closed_op {n B B2 m h r : Nat} {V : Nat → Int32} (H : IV n V B) (H2 : IV m (vClosed n V h r).2 B2) (hh : h < 6) (hne : r ≠ h) (hO : vOpen V h) : mOpens (vClosed n V h r).2 = mOpens V - nI 1 := by
  have e : ∀ U : Nat → Int32, sN6 6 (opc U) = opc U 0 + opc U 1 + opc U 2 + opc U 3 + opc U 4 + opc U 5 := fun U => by simp only [sN6, Nat.zero_add]
  have oh := (opc_01 H hh).2.2.mp hO
  have g : ∀ i, i < 6 → opc (vClosed n V h r).2 i = if i = h then 0 else opc V i := fun i hi => by
    unfold opc
    by_cases z : i = h
    · rw [if_pos z, z, closed_h hne hh]; exact cl_nI (by omega)
    · rw [if_neg z, closed_lo hne (by omega) (by omega) (by omega) (by omega) (by omega) (by omega) (by omega)]
  have g0 := g 0 (by decide)
  have g1 := g 1 (by decide)
  have g2 := g 2 (by decide)
  have g3 := g 3 (by decide)
  have g4 := g 4 (by decide)
  have g5 := g 5 (by decide)
  have hs : 1 ≤ sN6 6 (opc V) := by have := sN6_elt (f := opc V) 6 hh; omega
  rw [opens_nat H, opens_nat H2, nI_sub hs]
  congr 1
  rw [e, e, g0, g1, g2, g3, g4, g5]
  rcases (by omega : h = 0 ∨ h = 1 ∨ h = 2 ∨ h = 3 ∨ h = 4 ∨ h = 5) with z | z | z | z | z | z <;> subst z <;> simp <;> omega
theorem wax_of {n B : Nat} {V : Nat → Int32} (H : IV n V B) : mOfAll n V 1 + mStores V + mPooled V = V 1 - V 2 := by
  rw [H.bal, Int32.add_sub_cancel]
theorem closed_wax {n B B2 m h r : Nat} {V : Nat → Int32} (H : IV n V B) (H2 : IV m (vClosed n V h r).2 B2) (hh : h < 6) (hr : r < 6) (hne : r ≠ h) : mOfAll m (vClosed n V h r).2 1 + mStores (vClosed n V h r).2 + mPooled (vClosed n V h r).2 = mOfAll n V 1 + mStores V + mPooled V := by
  rw [wax_of H, wax_of H2, closed_lo hne (by decide) (by decide) (by omega) (by omega) (by omega) (by omega) (by omega), closed_lo hne (by decide) (by decide) (by omega) (by omega) (by omega) (by omega) (by omega)]
theorem oE_shut {n h : Nat} {V : Nat → Int32} (hh : h < 6) (z : ¬ vOpen V h) : oE n V (nI h) = .inl (-1014, [(nI 2, nI h)]) := by
  unfold oE vCloses
  rw [ifp_f (nbH hh), cl_nI (by omega), ifp_f z]
theorem oE_none {n h : Nat} {V : Nat → Int32} (hh : h < 6) (z : vOpen V h) (e : vSucc V h = none) : oE n V (nI h) = .inl (-1014, [(nI 15, nI h)]) := by
  unfold oE vCloses
  rw [ifp_f (nbH hh), cl_nI (by omega), ifp_t z, e]
theorem oE_some {n h r : Nat} {V : Nat → Int32} (hh : h < 6) (z : vOpen V h) (e : vSucc V h = some r) : oE n V (nI h) = .inr (nI r, (vClosed n V h r).2) := by
  unfold oE vCloses
  rw [ifp_f (nbH hh), cl_nI (by omega), ifp_t z, e]
/-- a sharing -/
theorem sh_no {n : Nat} {V : Nat → Int32} (h : mPooled V = 0) : vShares n V = .inl (-1014, [(nI 11, nI n)]) := ifp_t h
theorem sh_yes {n B : Nat} {V : Nat → Int32} (H : IV n V B) (X : XG n V B) (hB : B ≤ 9000) (h : ¬ mPooled V = 0) : vShares n V = .inr (sumN 6 (fun h => ifp (vParts n V h ≤ 0) (nI 0) (nI 1)), itr (vSh (vParts n V)) 6 V) := by
  have HD := shD_clm H (show B ≤ 20000 by omega)
  have h2 : ¬ mClaims n V = 0 := by
    rw [HD.cl]
    intro q
    have q := (nI_eq0 HD.2.2.2.1).mp q
    apply h
    rw [pooled_nat H]
    have hz : sN6 6 (poc V) ≤ 0 * 6 := sN6_c (f := poc V) (c := 0) 6 (fun i hi => by
      have e := clm_sum H X hB hi
      have g := sN6_elt (f := clmN n V) (i := i) 6 hi
      rcases nz_op H hi with ⟨eo, z⟩ | ⟨eo, z⟩
      · rw [if_pos eo] at e; omega
      · have e3 := ((X.1.2.1 i hi).resolve_left z).2
        unfold poc
        rw [e3, cl_nI (by omega)]
        exact Nat.le_refl 0)
    rw [show sN6 6 (poc V) = 0 by omega]
    rfl
  unfold vShares
  rw [ifp_f h, ifp_f h2]
theorem part_no {n B h : Nat} {V : Nat → Int32} (H : IV n V B) (hB : B ≤ 9000) (hh : h < 6) (h0 : mPooled V = 0) : vParts n V h = nI 0 := by
  by_cases z : mClaims n V = 0
  · exact part_0 z
  · have HD := shD_clm H (show B ≤ 20000 by omega)
    have hP : sN6 6 (poc V) = 0 := by
      rw [pooled_nat H] at h0
      have := SM_le H
      exact (nI_eq0 (by omega)).mp h0
    rw [hP] at HD
    obtain ⟨g, g1, g2, g3⟩ := parts_char HD (HD.zero z)
    rw [(g1 h hh).2]
    have a := (g1 h hh).1
    have b := g2 h hh
    rw [Nat.zero_mul, Nat.zero_mod] at b
    rw [Nat.zero_mul, Nat.zero_div]
    have : g h = 0 := by
      rcases (by omega : g h = 0 ∨ g h = 1) with q | q
      · exact q
      · exact absurd (b q) (by omega)
    rw [this]
/-- a burning -/
theorem bu_2 {n s : Nat} {p y : Int32} {U : Nat → Int32} (h3 : U 3 = y) (h0 : U 0 = nI n) (hn : 0 < n) : ∃ W, vBurn2 s p U = .inr (p, W) ∧ W 3 = y ∧ W 0 = nI (n - if U (30 + 8 * s + 1) = 0 then 1 else 0) := by
  unfold vBurn2
  by_cases z : U (30 + 8 * s + 1) = 0
  · rw [ifp_t z, if_pos z]
    exact ⟨_, rfl, (vGoes_lo (by omega) (by omega)).trans h3, by rw [vGoes_0, h0, nI_sub (by omega)]⟩
  · rw [ifp_f z, if_neg z]
    exact ⟨_, rfl, h3, h0⟩
theorem bu_1 {n s : Nat} {p y : Int32} {U : Nat → Int32} (h3 : U 3 = y) (h0 : U 0 = nI n) (hn : 0 < n) : ∃ W, vBurn1 s p U = .inr (p, W) ∧ W 3 = y ∧ W 0 = nI (n - if U (30 + 8 * s + 1) = 0 then 1 else 0) := by
  unfold vBurn1
  by_cases z : U (30 + 8 * s + 4) = 0
  · rw [ifp_t z]
    obtain ⟨W, a, b, c⟩ := bu_2 (s := s) (p := p) (U := vup U (30 + 8 * s + 3) (nI 0)) ((updJ (by omega)).trans h3) ((updJ (by omega)).trans h0) hn
    have e : vup U (30 + 8 * s + 3) (nI 0) (30 + 8 * s + 1) = U (30 + 8 * s + 1) := updJ (by omega)
    rw [e] at c
    exact ⟨W, a, b, c⟩
  · rw [ifp_f z]; exact bu_2 h3 h0 hn
theorem vB6_3 {V : Nat → Int32} {s : Nat} {x l p : Int32} : vB6 V s x l p 3 = V 3 + l := by rw [vB6_flat, updJ (by omega), updJ (by omega), updJ (by omega), updE]
theorem fo_w {V : Nat → Int32} {s : Nat} {x l p : Int32} : vB6 V s x l p (30 + 8 * s + 1) = V (30 + 8 * s + 1) - x := by rw [vB6_flat, updJ (by omega), updJ (by omega), updJ (by omega), updJ (by omega), updJ (by omega), updE]
theorem bu_ok {n B s x w k u : Nat} {V : Nat → Int32} (H : IV n V B) (hs : s < n) (h1 : V (30 + 8 * s + 1) = nI w) (h2 : V (30 + 8 * s + 2) = nI k) (h4 : V (30 + 8 * s + 4) = nI u) (h6 : V (30 + 8 * s + 6) ≤ 0) (hw : w ≤ 30) (hk : k ≤ 9) (hu : u ≤ 90) (hx : 1 ≤ x ∧ x ≤ 5) (hle : x ≤ w) : ∃ W, oB n V (nI s) (nI x) = .inr (nI (min u (x * k)), W) ∧ W 3 = V 3 + nI x * nI k ∧ W 0 = nI (n - if w = x then 1 else 0) := by
  have h12 := H.2.1
  have hxk : x * k ≤ 5 * 9 := Nat.mul_le_mul hx.2 hk
  have e0 : V 0 = nI n := H.1
  have ew : ∀ l p : Int32, (vB6 V s (nI x) l p (30 + 8 * s + 1) = 0) = (w = x) := fun l p => by
    rw [fo_w, h1, nI_sub hle, nI_eq0 (by omega)]
    exact propext ⟨fun q => by omega, fun q => by omega⟩
  have key : ∀ p : Int32, ∃ W, vBurn1 s p (vB6 V s (nI x) (nI x * nI k) p) = .inr (p, W) ∧ W 3 = V 3 + nI x * nI k ∧ W 0 = nI (n - if w = x then 1 else 0) := fun p => by
    obtain ⟨W, a, b, c⟩ := bu_1 (n := n) (s := s) (p := p) (U := vB6 V s (nI x) (nI x * nI k) p) vB6_3 ((vB6_at (by omega) (by omega) (by omega) (by omega) (by omega) (by omega)).trans e0) (by omega)
    refine ⟨W, a, b, ?_⟩
    rw [c]
    by_cases z : w = x
    · rw [if_pos z, if_pos ((ew _ _).mpr z)]
    · rw [if_neg z, if_neg (fun q => z ((ew _ _).mp q))]
  unfold oB
  rw [ifp_f (nbS hs h12), cl_nI (by omega)]
  unfold vBurns
  rw [ifp_f (nI_inR (a := 1) (b := 30) hx.1 (by omega) (by decide)), ifp_t h6, ifp_t (by rw [h1]; exact (nle (by omega) (by omega)).mpr hle), h2, h4]
  by_cases z : u < x * k
  · rw [ifp_t (by rw [nI_mul]; exact (nlt (by omega) (by omega)).mpr z), Nat.min_eq_left (by omega)]
    exact key _
  · rw [ifp_f (fun q => z (by rw [nI_mul] at q; exact (nlt (by omega) (by omega)).mp q)), Nat.min_eq_right (by omega)]
    obtain ⟨W, a, b, c⟩ := key (nI x * nI k)
    exact ⟨W, by rw [← nI_mul]; exact a, b, c⟩
theorem bu_sn {n s x : Nat} {V : Nat → Int32} (hs : s < n) (h12 : n ≤ 12) (hx : 1 ≤ x ∧ x ≤ 5) (h6 : ¬ V (30 + 8 * s + 6) ≤ 0) : oB n V (nI s) (nI x) = .inl (-1014, [(nI 4, nI s), (nI 5, V (30 + 8 * s + 5))]) := by
  unfold oB
  rw [ifp_f (nbS hs h12), cl_nI (by omega)]
  unfold vBurns
  rw [ifp_f (nI_inR (a := 1) (b := 30) hx.1 (by omega) (by decide)), ifp_f h6]
theorem bu_lo {n s x w : Nat} {V : Nat → Int32} (hs : s < n) (h12 : n ≤ 12) (hx : 1 ≤ x ∧ x ≤ 5) (h6 : V (30 + 8 * s + 6) ≤ 0) (h1 : V (30 + 8 * s + 1) = nI w) (hw : w < x) : oB n V (nI s) (nI x) = .inl (-1014, [(nI 4, nI s), (nI 6, nI w)]) := by
  unfold oB
  rw [ifp_f (nbS hs h12), cl_nI (by omega)]
  unfold vBurns
  rw [ifp_f (nI_inR (a := 1) (b := 30) hx.1 (by omega) (by decide)), ifp_t h6, h1, ifp_f (fun q => by have := (nle (by omega) (by omega)).mp q; omega)]
/-- taken back to what was saved -/
theorem CJ.back {D : Mm} {n B C nx : Nat} {V : Nat → Int32} (J : CJ D n V C [] nx) (S : SV n V B) : CJ D n V B [] nx := by
  obtain ⟨R, _, ⟨a1, a2, a3, a4, a5⟩, b⟩ := J
  exact ⟨R, S, ⟨a1, a2, a3, a4, fun i hi => absurd hi (Nat.not_lt_zero i)⟩, b⟩
theorem J_rest {d : Nat} {D : Mm} {n m B C nx : Nat} {V W : Nat → Int32} {hs : HsT} {Q : Option Value → Mm → Prop} (J : CJ D n V C hs nx) (S : Sav D m W B) (hC : B ≤ C) (hq : ∀ D2, CJ D2 m W B [] nx → Sav D2 m W B → FrJ D D2 → Q (some (.int (nI m))) D2) : Ct (d + 7) 84 [.ref 0] D Q :=
  J_restore (B := C) J ⟨S.1, S.2.1, S.2.2.mono hC⟩ (fun D2 J2 f => hq D2 (J2.back S.2.2) (S.fr f) f)
theorem CJ.re {D D2 : Mm} {n B nx : Nat} {V : Nat → Int32} {hs : HsT} (J : CJ D n V B hs nx) (f : ∀ q, q ≤ 4000 → (q < 166 ∨ 168 < q) → D2 q = D q) : CJ D2 n V B hs nx := by
  obtain ⟨R, S, ⟨a1, a2, a3, a4, a5⟩, b⟩ := J
  refine ⟨R.fr (fun q x y => f q (by omega) (by omega)), S, ⟨a1, a2, by rw [f 155 (by omega) (by omega)]; exact a3, by rw [f 155 (by omega) (by omega)]; exact a4, fun i hi => ⟨(a5 i hi).1, (a5 i hi).2.fr (fun q x y => ?_)⟩⟩, b.fr (f 169 (by omega) (by omega)) (f 181 (by omega) (by omega))⟩
  have := rowb_b (r := (nx + 8 - i) % 9) (by omega)
  exact f q (by omega) (by omega)
theorem Sav.re {D D2 : Mm} {n B : Nat} {V : Nat → Int32} (h : Sav D n V B) (f : ∀ q, q ≤ 28 → D2 q = D q) : Sav D2 n V B := ⟨by rw [f 0 (by decide)]; exact h.1, h.2.1.fr (fun q a b => f q (by omega)), h.2.2⟩
