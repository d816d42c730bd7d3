/-! the law's stubs: one by one, the whole round -/
theorem vs36 {V : Nat → Int32} {s w t : Nat} (hw : w = 3 ∨ w = 6) (h : V (30 + 8 * s + w) = nI t) (ht : t < 100) : vStubOf V s w = if t = 0 then -1015 else nI (t - 1) := by
  have e : vStubOf V s w = ifp (V (30 + 8 * s + w) = 0) (-1015) (V (30 + 8 * s + w) - nI 1) := by
    unfold vStubOf
    rcases hw with rfl | rfl
    · rw [ifp_t rfl]
    · rw [ifp_f (by decide), ifp_t rfl]
  rw [e, h]
  by_cases z : t = 0
  · rw [if_pos z, z]; exact ifp_t rfl
  · rw [if_neg z, ifp_f (fun q => z ((nI_eq0 (by omega)).mp q)), nI_sub (by omega)]
set_option maxHeartbeats 1000000 in
theorem su_body {d : Nat} {D : Mm} {Q : Option Value → Mm → Prop} {n B s ar A0 A1 A2 : Nat} {V : Nat → Int32} {l3 : Int32} {ln : List Nat} {l5 l6 l7 l8 l9 l10 l11 : Value} (n5 : nvV D l5) (n6 : nvV D l6) (n7 : nvV D l7) (n8 : nvV D l8) (n9 : nvV D l9) (n10 : nvV D l10) (n11 : nvV D l11) (R : Rel D n V) (H : IV n V B) (X : XG n V B) (hs : s < n) (S : SbR D 170 ln) (ha : dyn D ar 20) (hc : cap D ar = 3) (hu0 : nxt D ≤ usd D) (hu1 : usd D ≤ 700000) (e0 : D ar 0 = nI A0) (e1 : D ar 1 = nI A1) (e2 : D ar 2 = nI A2)
    (hl : (s = 0 ∧ l3 = -1) ∨ (0 < s ∧ ∃ r0, r0 < n ∧ rkN n (ordK (ligN V) (debN V)) r0 = s - 1 ∧ l3 = nI r0))
    (hk : ∀ D2 r sd x5 x6 x7 x11 ln2, r < n → rkN n (ordK (ligN V) (debN V)) r = s → (∀ q, q < DB + nxt D → q ≠ 4500 → q ≠ 170 → q ≠ 182 → q ≠ ar → D2 q = D q) → nxt D ≤ nxt D2 → SbR D2 170 ln2 → dyn D2 ar 20 → cap D2 ar = 3 → nxt D2 ≤ usd D2 → usd D2 ≤ usd D + 560 → D2 ar 0 = nI (A0 + wxc V s) → D2 ar 1 = nI (A1 + dbc V s) → D2 ar 2 = nI (A2 + wic V s) → dv D2 sd → Wp (d + 10) 113 Q 15 [.ref 0, .int (nI n), .ref ar, .int (nI r), .int (nI (s + 1)), .int x5, .int x6, .int x7, .ref sd, .int (nI 1), .int (nI r), .int x11] [] D2) :
    Wp (d + 10) 113 Q 15 [.ref 0, .int (nI n), .ref ar, .int l3, .int (nI s), l5, l6, l7, l8, l9, l10, l11] [] D := by
  have hBE := DBv
  have h12 := H.2.1
  have hga := dyn_ge ha
  obtain ⟨o5, w, k, t, u, z, b, h0, h1, h2, h3, h4, h5, h6, b0, b1, b2, b3, b4, b5, b6, b7, b8⟩ := H.2.2.1 s hs
  obtain ⟨x1, x2, x3, x4, x5, x6⟩ := X.1.1 s hs
  have hO := x1 o5 b0 h0
  have v0 : vStubOf V s 0 = nI o5 := (vso (by decide) (by decide)).trans h0
  have v1 : vStubOf V s 1 = nI w := (vso (by decide) (by decide)).trans h1
  have v2 : vStubOf V s 2 = nI k := (vso (by decide) (by decide)).trans h2
  have v4 : vStubOf V s 4 = nI u := (vso (by decide) (by decide)).trans h4
  have v5 : vStubOf V s 5 = nI z := (vso (by decide) (by decide)).trans h5
  have v3 := vs36 (Or.inl rfl) h3 (by omega)
  have v6 := vs36 (Or.inr rfl) h6 (by omega)
  have w0 : 0 < w := by
    rcases Nat.eq_zero_or_pos w with q | q
    · exact absurd (by rw [h1, q]) x6
    · exact q
  have tu : t = 0 ↔ u = 0 := ⟨fun q => by
    have := x4.mp (by rw [h3, q]); rw [h4] at this; exact (nI_inj (by omega) (by omega) this.symm), fun q => by
    have := x4.mpr (by rw [h4, q]); rw [h3] at this; exact (nI_inj (by omega) (by omega) this.symm)⟩
  have bz : b = 0 ↔ z = 0 := ⟨fun q => by
    have := x5.mp (by rw [h6, q]); rw [h5] at this; exact (nI_inj (by omega) (by omega) this.symm), fun q => by
    have := x5.mpr (by rw [h5, q]); rw [h6] at this; exact (nI_inj (by omega) (by omega) this.symm)⟩
  have ew : wxc V s = w := by unfold wxc; rw [h1, cl_nI (by omega)]
  have eu : dbc V s = u := by unfold dbc; rw [h4, cl_nI (by omega)]
  have eb : wic V s = if b = 0 then 0 else 1 := by
    unfold wic
    rw [h6]
    by_cases q : b = 0
    · rw [if_pos q, q]; exact if_pos (by decide)
    · rw [if_neg q, if_neg (fun y => by have := (nle (a := b) (b := 0) (by omega) (by omega)).mp (by rw [nI_0]; exact y); omega)]
  have etl : tlV V s = tlD b z (tlC t u (tlB s o5 w k)) := by
    unfold tlV
    rw [h0, h1, h2, h3, h4, h5, h6, cl_nI (by omega), cl_nI (by omega), cl_nI (by omega), cl_nI (by omega), cl_nI (by omega), cl_nI (by omega), cl_nI (by omega)]
    rfl
  have lB : (tlB s o5 w k).length ≤ 11 := by
    have d1 := dgl_2 (n := s) (by omega); have d2 : (dgl o5).length = 1 := by unfold dgl; rw [if_pos (by omega)]; rfl
    have d3 := dgl_2 (n := w) (by omega); have d4 : (dgl k).length = 1 := by unfold dgl; rw [if_pos (by omega)]; rfl
    unfold tlB; simp only [List.length_append, List.length_cons, List.length_nil]; omega
  have lC : (tlC t u (tlB s o5 w k)).length ≤ 17 := by
    have d1 := dgl_2 (n := t - 1) (by omega); have d2 := dgl_2 (n := u) (by omega)
    unfold tlC
    split
    · omega
    · simp only [List.length_append, List.length_cons, List.length_nil]; omega
  obtain ⟨r, hr, hrk, hrf⟩ := bright_at H hs
  obtain ⟨y6, ey6⟩ : ∃ y6, y6 = (if t = 0 then -1015 else nI (t - 1) : Int32) := ⟨_, rfl⟩
  obtain ⟨y7, ey7⟩ : ∃ y7, y7 = (if b = 0 then -1015 else nI (b - 1) : Int32) := ⟨_, rfl⟩
  rw [← ey6] at v3
  rw [← ey7] at v6
  -- the lines, the sums
  have C5 : ∀ (D4 : Mm) (sd nd : Nat) (x11 : Int32), TxD D4 sd nd (tlV V s) → dyn D4 sd 9 → DB + nxt D ≤ sd ∧ DB + nxt D ≤ nd → Fr0 D D4 → nxt D4 ≤ usd D4 → usd D4 ≤ usd D + 410 → 0 ≤ x11 → (x11 = 0 → l3 ≤ nI r) → Wp (d + 10) 113 Q 405 [.ref 0, .int (nI n), .ref ar, .int l3, .int (nI s), .int (nI o5), .int y6, .int y7, .ref sd, .int (nI 1), .int (nI r), .int x11] [] D4 := by
    intro D4 sd nd x11 xd hdd hg f hn4 hu4 hx hx0
    have ra : D4 ar = D ar := f.1 ar ha.1.2 (by omega)
    have ha4 : dyn D4 ar 20 := dyn_fr ha f.2 ra
    have hc4 : cap D4 ar = 3 := by unfold cap; rw [ra]; exact hc
    have R4 := f.rel R
    have hnd : dyn D4 nd 22 := by
      rcases xd.2.2 with ⟨q1, q2, -⟩ | ⟨q1, q2, -⟩
      · exact q2
      · have := dyn_ge hdd; omega
    have hgd := dyn_ge hdd
    have hgn := dyn_ge hnd
    have aft : ∀ (D5 : Mm) (m : Nat), (∀ q, q ≠ ar → D5 q = D4 q) → dyn D5 ar 20 → cap D5 ar = 3 → D5 ar 0 = nI (A0 + w) → D5 ar 1 = nI (A1 + u) → D5 ar 2 = nI (A2 + m) → m = wic V s → Wp (d + 10) 113 Q 447 [.ref 0, .int (nI n), .ref ar, .int l3, .int (nI s), .int (nI o5), .int y6, .int y7, .ref sd, .int (nI 1), .int (nI r), .int x11] [] D5 := by
      intro D5 m g ha5 hc5 q0 q1 q2 em
      have en : nxt D5 = nxt D4 ∧ usd D5 = usd D4 := by
        have := g 4500 (by omega)
        unfold nxt usd; rw [this]; exact ⟨rfl, rfl⟩
      have hsn : sd ≠ ar := by omega
      have hnn : nd ≠ ar := by omega
      refine su_e (R4.fr (fun q _ _ => g q (by omega))) H hs ((f.sb (Or.inr rfl) S).fr (g 170 (by omega)) (g 182 (by omega))) ha5.1 (xd.fr (by rw [en.1]; exact Nat.le_refl _) (Or.inr (g sd hsn)) (Or.inr (g nd hnn))) (dyn_fr hdd (by rw [en.1]; exact Nat.le_refl _) (g sd hsn)) (dyn_fr hnd (by rw [en.1]; exact Nat.le_refl _) (g nd hnn)) (by rw [en.1, en.2]; exact hn4) (by rw [en.2]; omega) hx hx0 (fun D6 f6 s6 hn6 hu6 => ?_)
      have hf2 := f.2
      have r6 : D6 ar = D5 ar := f6.1 ar (by rw [en.1]; omega) (by omega) (by omega) (by omega)
      refine hk D6 r sd (nI o5) y6 y7 x11 _ hr hrk (fun q a1 a2 a3 a4 a5 => (f6.1 q (by rw [en.1]; omega) a2 a3 a4).trans ((g q a5).trans (f.1 q a1 a2))) (by have := f6.2; rw [en.1] at this; omega) s6 (dyn_fr ha5 f6.2 r6) (by unfold cap; rw [r6]; exact hc5) hn6 (by rw [en.2] at hu6; omega) (by rw [r6, ew]; exact q0) (by rw [r6, eu]; exact q1) (by rw [r6, ← em]; exact q2) ?_
      exact ⟨by omega, by have := f6.2; rw [en.1] at this; omega⟩
    by_cases hb : b = 0
    · have e7 : y7 = -1015 := by rw [ey7, if_pos hb]
      rw [e7] at aft ⊢
      exact su_d1 (q := 0) R4 h12 hs ha4 hc4 hdd.1 (by omega) v1 v4 (by rw [ra]; exact e0) (by rw [ra]; exact e1) (by rw [ra]; exact e2) (fun D5 a1 a2 a3 a4 a5 a6 => aft D5 0 a1 a2 a3 a4 a5 a6 (by rw [eb, if_pos hb]))
    · have e7 : y7 = nI (b - 1) := by rw [ey7, if_neg hb]
      rw [e7] at aft ⊢
      exact su_d0 (q := b - 1) R4 h12 hs ha4 hc4 hdd.1 (by omega) v1 v4 (by rw [ra]; exact e0) (by rw [ra]; exact e1) (by rw [ra]; exact e2) (fun D5 a1 a2 a3 a4 a5 a6 => aft D5 1 a1 a2 a3 a4 a5 a6 (by rw [eb, if_neg hb]))
  -- the order
  have C4 : ∀ (D4 : Mm) (sd nd : Nat), TxD D4 sd nd (tlV V s) → dyn D4 sd 9 → DB + nxt D ≤ sd ∧ DB + nxt D ≤ nd → Fr0 D D4 → nxt D4 ≤ usd D4 → usd D4 ≤ usd D + 410 → Wp (d + 10) 113 Q 332 [.ref 0, .int (nI n), .ref ar, .int l3, .int (nI s), .int (nI o5), .int y6, .int y7, .ref sd, .int (nI 1), l10, l11] [] D4 := by
    intro D4 sd nd xd hdd hg f hn4 hu4
    have R4 := f.rel R
    rcases hl with ⟨hs0, rfl⟩ | ⟨hs0, r0, hr0, hk0, rfl⟩
    · exact su_c0 (nv_le n10 f.2) (nv_le n11 f.2) R4 h12 H.ltN hs (dv_le ha.1 f.2) hdd.1 hrf (C5 D4 sd nd _ xd hdd hg f hn4 hu4 (by decide) (fun e => absurd e (by decide)))
    · refine su_c1 (nv_le n10 f.2) (nv_le n11 f.2) R4 h12 H.ltN hs (dv_le ha.1 f.2) hdd.1 hrf hr0 hr (fun x ex => ?_)
      have ho := rk_ord (ordK_ok (N := n) (x := ligN V) (y := debN V)) hr0 hr (by omega)
      have hi := sBy_int H hr hr0
      rw [← ex] at hi
      refine C5 D4 sd nd x xd hdd hg f hn4 hu4 ?_ (fun e => ?_)
      · rw [Int32.le_iff_toInt_le, hi, show (0 : Int32).toInt = 0 from rfl]
        unfold ordK at ho
        split <;> omega
      · rw [e, show (0 : Int32).toInt = 0 from rfl] at hi
        unfold ordK at ho
        refine (nle (by omega) (by omega)).mpr ?_
        split at hi <;> omega
  -- that it is fine
  have C3 : ∀ (D4 : Mm) (sd nd : Nat), TxD D4 sd nd (tlV V s) → dyn D4 sd 9 → DB + nxt D ≤ sd ∧ DB + nxt D ≤ nd → Fr0 D D4 → nxt D4 ≤ usd D4 → usd D4 ≤ usd D + 410 → Wp (d + 10) 113 Q 192 [.ref 0, .int (nI n), .ref ar, .int l3, .int (nI s), .int (nI o5), .int y6, .int y7, .ref sd, l9, l10, l11] [] D4 := by
    intro D4 sd nd xd hdd hg f hn4 hu4
    have R4 := f.rel R
    have c := C4 D4 sd nd xd hdd hg f hn4 hu4
    have m9 := nv_le n9 f.2
    have m10 := nv_le n10 f.2
    have m11 := nv_le n11 f.2
    have ma := dv_le ha.1 f.2
    have nt : ∀ j, t = j + 1 → j ≠ o5 := fun j e q => b7 (by rw [e, q])
    have nb : ∀ j, b = j + 1 → j ≠ o5 := fun j e q => b8 (by rw [e, q])
    by_cases ht : t = 0
    · have e6 : y6 = -1015 := by rw [ey6, if_pos ht]
      rw [e6] at c ⊢
      by_cases hb : b = 0
      · have e7 : y7 = -1015 := by rw [ey7, if_pos hb]
        rw [e7] at c ⊢
        exact su_f11 (B := B) (t := 0) (q := 0) m9 m10 m11 R4 h12 H.op hs ma hdd.1 b0 hO v4 v5 v1 w0 (by omega) (by omega) (by omega) (tu.mp ht) (bz.mp hb) c
      · have e7 : y7 = nI (b - 1) := by rw [ey7, if_neg hb]
        rw [e7] at c ⊢
        exact su_f10 (B := B) (t := 0) m9 m10 m11 R4 h12 H.op hs ma hdd.1 b0 hO v4 v5 v1 w0 (by omega) (by omega) (by omega) (tu.mp ht) (Nat.pos_of_ne_zero (fun q => hb (bz.mpr q))) (by omega) (nb (b - 1) (by omega)) (x3 (b - 1) (by omega) (by rw [h6, show b - 1 + 1 = b by omega])) c
    · have e6 : y6 = nI (t - 1) := by rw [ey6, if_neg ht]
      rw [e6] at c ⊢
      by_cases hb : b = 0
      · have e7 : y7 = -1015 := by rw [ey7, if_pos hb]
        rw [e7] at c ⊢
        exact su_f01 (B := B) (q := 0) m9 m10 m11 R4 h12 H.op hs ma hdd.1 b0 hO v4 v5 v1 w0 (by omega) (by omega) (by omega) (Nat.pos_of_ne_zero (fun q => ht (tu.mpr q))) (by omega) (nt (t - 1) (by omega)) (x2 (t - 1) (by omega) (by rw [h3, show t - 1 + 1 = t by omega])) (bz.mp hb) c
      · have e7 : y7 = nI (b - 1) := by rw [ey7, if_neg hb]
        rw [e7] at c ⊢
        exact su_f00 (B := B) m9 m10 m11 R4 h12 H.op hs ma hdd.1 b0 hO v4 v5 v1 w0 (by omega) (by omega) (by omega) (Nat.pos_of_ne_zero (fun q => ht (tu.mpr q))) (by omega) (nt (t - 1) (by omega)) (x2 (t - 1) (by omega) (by rw [h3, show t - 1 + 1 = t by omega])) (Nat.pos_of_ne_zero (fun q => hb (bz.mpr q))) (by omega) (nb (b - 1) (by omega)) (x3 (b - 1) (by omega) (by rw [h6, show b - 1 + 1 = b by omega])) c
  -- the text's end
  have C2 : ∀ (D3 : Mm) (p b3 u3 : Nat), SbX D3 (nxt D) 30 u3 p b3 (tlC t u (tlB s o5 w k)) → u3 ≤ usd D + 110 → Fr0 D D3 → Wp (d + 10) 113 Q 149 [.ref 0, .int (nI n), .ref ar, .int l3, .int (nI s), .int (nI o5), .int y6, .int y7, l8, l9, l10, l11] [.ref p] D3 := by
    intro D3 p b3 u3 g hu3 f
    have R3 := f.rel R
    by_cases hb : b = 0
    · have e7 : y7 = -1015 := by rw [ey7, if_pos hb]
      rw [e7] at C3 ⊢
      refine su_3z (nv_le n8 f.2) (nv_le n9 f.2) (nv_le n10 f.2) (nv_le n11 f.2) R3 H hs g (dv_le ha.1 f.2) (by omega) (by omega) (fun D4 s1 nb x hd hg f3 hn hu => C3 D4 s1 nb (by rw [etl]; unfold tlD; rw [if_pos hb]; exact x) hd hg (FrL.tr f f3) hn (by omega))
    · have e7 : y7 = nI (b - 1) := by rw [ey7, if_neg hb]
      rw [e7] at C3 ⊢
      refine su_3t (nv_le n8 f.2) (nv_le n9 f.2) (nv_le n10 f.2) (nv_le n11 f.2) R3 H hs g (dv_le ha.1 f.2) (by omega) (t := b - 1) (c := z) (by omega) (by omega) v5 lC (fun D4 s1 nb x hd hg f3 hn hu => C3 D4 s1 nb (by rw [etl]; unfold tlD; rw [if_neg hb, List.append_assoc]; exact x) hd hg (FrL.tr f f3) hn (by omega))
  refine su_g n5 n6 n7 n8 n9 n10 n11 R h12 hs ha.1 v0 v3 v6 ?_
  refine su_1 n8 n9 n10 n11 R H hs ha.1 hu0 (by omega) b0 b1 b2 v1 v2 (fun D2 p pb g f => ?_)
  have R2 := f.rel R
  by_cases ht : t = 0
  · have e6 : y6 = -1015 := by rw [ey6, if_pos ht]
    rw [e6] at C2 ⊢
    refine su_2z (nv_le n8 f.2) (nv_le n9 f.2) (nv_le n10 f.2) (nv_le n11 f.2) R2 H hs g (dv_le ha.1 f.2) (by omega) (by omega) (fun D3 b3 u3 g3 hu3 f3 => C2 D3 p b3 u3 (by unfold tlC; rw [if_pos ht]; exact g3) (by omega) (FrL.tr f f3))
  · have e6 : y6 = nI (t - 1) := by rw [ey6, if_neg ht]
    rw [e6] at C2 ⊢
    refine su_2t (nv_le n8 f.2) (nv_le n9 f.2) (nv_le n10 f.2) (nv_le n11 f.2) R2 H hs g (dv_le ha.1 f.2) (by omega) (t := t - 1) (c := u) (by omega) (by omega) v4 lB (fun D3 b3 u3 g3 hu3 f3 => C2 D3 p b3 u3 (by unfold tlC; rw [if_neg ht]; simpa only [List.append_assoc] using g3) (by omega) (FrL.tr f f3))
