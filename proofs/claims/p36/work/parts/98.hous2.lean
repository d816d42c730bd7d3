/-! the law's houses: the sums over their stubs -/
theorem v36_eq {V : Nat → Int32} {s w t h : Nat} (hw : w = 3 ∨ w = 6) (e : V (30 + 8 * s + w) = nI t) (ht : t ≤ 6) (hh : h < 6) : vStubOf V s w = nI h ↔ V (30 + 8 * s + w) = nI (h + 1) := by
  rw [vs36 hw e (by omega), e]
  by_cases z : t = 0
  · rw [if_pos z, z]
    exact ⟨fun q => absurd q.symm (ne15 (by omega)), fun q => by have := (nI_eq (by omega) (by omega)).mp q; omega⟩
  · rw [if_neg z]
    exact ⟨fun q => by have := (nI_eq (by omega) (by omega)).mp q; exact congrArg nI (by omega), fun q => by have := (nI_eq (by omega) (by omega)).mp q; exact congrArg nI (by omega)⟩
def mnc (h : Nat) (V : Nat → Int32) (s : Nat) : Nat := if V (30 + 8 * s + 0) = nI h then 1 else 0
def oec (h : Nat) (V : Nat → Int32) (s : Nat) : Nat := if V (30 + 8 * s + 0) = nI h then dbc V s else 0
set_option maxHeartbeats 1000000 in
theorem hs_loop {d : Nat} {D : Mm} {Q : Option Value → Mm → Prop} {n B h o C0 : Nat} {V : Nat → Int32} {l1 l2 l3 l4 l5 : Int32} {u15 u16 : Value} (n15 : nvQ u15) (n16 : nvQ u16) (R : Rel D n V) (H : IV n V B) (hB : B ≤ 9000) (hh : h < 6) (hdo : dv D o) (hk : ∀ u14, nvQ u14 → Wp (d + 10) 114 Q 215 [.ref 0, .int l1, .int l2, .int l3, .int l4, .int l5, .ref o, .int (nI h), .int (nI (sN6 (n) (trc V h))), .int (nI (sN6 (n) (mnc h V))), .int (nI (sN6 (n) (wrc h V))), .int (nI (sN6 (n) (oec h V))), .int (nI (C0 + sN6 (n) (owc h V))), .int (nI (n)), u14, u15, u16] [] D) : ∀ (k s : Nat) (u14 : Value), s + k = n → nvQ u14 → Wp (d + 10) 114 Q 70 [.ref 0, .int l1, .int l2, .int l3, .int l4, .int l5, .ref o, .int (nI h), .int (nI (sN6 (s) (trc V h))), .int (nI (sN6 (s) (mnc h V))), .int (nI (sN6 (s) (wrc h V))), .int (nI (sN6 (s) (oec h V))), .int (nI (C0 + sN6 (s) (owc h V))), .int (nI (s)), u14, u15, u16] [] D
  | 0, s, u14, hs, n14 => by
    have e : s = n := hs
    subst e
    exact hs_z n14 n15 n16 R H.2.1 hdo H.op (H.hc (by omega)).2.2.1 (hk u14 n14)
  | k + 1, s, u14, hs, n14 => by
    have hsn : s < n := by omega
    have h12 := H.2.1
    obtain ⟨o5, w, k5, t, u, z, b, h0, h1, h2, h3, h4, h5, h6, b0, b1, b2, b3, b4, b5, b6, b7, b8⟩ := H.2.2.1 s hsn
    have v0 : vStubOf V s 0 = V (30 + 8 * s + 0) := vso (by decide) (by decide)
    have v1 : vStubOf V s 1 = nI w := (vso (by decide) (by decide)).trans h1
    have v4 : vStubOf V s 4 = nI u := (vso (by decide) (by decide)).trans h4
    have ew : wxc V s = w := by unfold wxc; rw [h1, cl_nI (by omega)]
    have eu : dbc V s = u := by unfold dbc; rw [h4, cl_nI (by omega)]
    have ih := hs_loop n15 n16 R H hB hh hdo hk k (s + 1)
    refine hs_n n14 n15 n16 R h12 hsn hdo H.op (H.hc (by omega)).2.2.1 ?_
    have c1 : ∀ (u14 : Value) (W M X O : Nat), nvQ u14 → W = sN6 (s + 1) (trc V h) → M = sN6 (s + 1) (mnc h V) → X = sN6 (s + 1) (wrc h V) → O = sN6 (s + 1) (oec h V) → Wp (d + 10) 114 Q 181 [.ref 0, .int l1, .int l2, .int l3, .int l4, .int l5, .ref o, .int (nI h), .int (nI (W)), .int (nI (M)), .int (nI (X)), .int (nI (O)), .int (nI (C0 + sN6 (s) (owc h V))), .int (nI (s)), u14, u15, u16] [] D := by
      intro u14 W M X O m14 e1 e2 e3 e4
      have i1 := ih u14 (by omega) m14
      rw [← e1, ← e2, ← e3, ← e4] at i1
      by_cases q : vStubOf V s 3 = nI h
      · have eC : owc h V s = u := by
          unfold owc
          rw [if_pos ((v36_eq (Or.inl rfl) h3 (by omega) hh).mp q), h4, cl_nI (by omega)]
        have e5 : C0 + sN6 (s + 1) (owc h V) = C0 + sN6 s (owc h V) + u := by
          show C0 + (sN6 s (owc h V) + owc h V s) = _
          omega
        rw [e5] at i1
        exact hs_c1 m14 n15 n16 R h12 hsn hdo q v4 i1
      · have eC : owc h V s = 0 := by
          unfold owc
          exact if_neg (fun y => q ((v36_eq (Or.inl rfl) h3 (by omega) hh).mpr y))
        have e5 : C0 + sN6 (s + 1) (owc h V) = C0 + sN6 s (owc h V) + 0 := by
          show C0 + (sN6 s (owc h V) + owc h V s) = _
          omega
        rw [e5] at i1
        exact hs_c0 m14 n15 n16 R h12 hsn hdo q i1
    have c2 : ∀ (u14 : Value) (W M O : Nat), nvQ u14 → W = sN6 (s + 1) (trc V h) → M = sN6 (s + 1) (mnc h V) → O = sN6 (s + 1) (oec h V) → Wp (d + 10) 114 Q 158 [.ref 0, .int l1, .int l2, .int l3, .int l4, .int l5, .ref o, .int (nI h), .int (nI (W)), .int (nI (M)), .int (nI (sN6 (s) (wrc h V))), .int (nI (O)), .int (nI (C0 + sN6 (s) (owc h V))), .int (nI (s)), u14, u15, u16] [] D := by
      intro u14 W M O m14 e1 e2 e4
      by_cases q : vStubOf V s 6 = nI h
      · have eC : wrc h V s = 1 := by
          unfold wrc
          exact if_pos ((v36_eq (Or.inr rfl) h6 (by omega) hh).mp q)
        exact hs_b1 m14 n15 n16 R h12 hsn hdo q (c1 u14 W M _ O m14 e1 e2 (by show _ = sN6 s (wrc h V) + wrc h V s; rw [eC]) e4)
      · have eC : wrc h V s = 0 := by
          unfold wrc
          exact if_neg (fun y => q ((v36_eq (Or.inr rfl) h6 (by omega) hh).mpr y))
        exact hs_b0 m14 n15 n16 R h12 hsn hdo q (c1 u14 W M _ O m14 e1 e2 (by show _ = sN6 s (wrc h V) + wrc h V s; rw [eC]) e4)
    by_cases q : vStubOf V s 0 = nI h
    · have q2 : V (30 + 8 * s + 0) = nI h := v0.symm.trans q
      refine hs_a1 n14 n15 n16 R h12 hsn hdo q v1 v4 (c2 (.int (nI 1)) _ _ _ (nvQ.i _) ?_ ?_ ?_)
      · show _ = sN6 s (trc V h) + trc V h s
        unfold trc; rw [if_pos q2, ew]; omega
      · show _ = sN6 s (mnc h V) + mnc h V s
        unfold mnc; rw [if_pos q2]
      · show _ = sN6 s (oec h V) + oec h V s
        unfold oec; rw [if_pos q2, eu]
    · have q2 : ¬ V (30 + 8 * s + 0) = nI h := fun y => q (v0.trans y)
      refine hs_a0 n14 n15 n16 R h12 hsn hdo q (c2 (.int (nI 0)) _ _ _ (nvQ.i _) ?_ ?_ ?_)
      · show _ = sN6 s (trc V h) + trc V h s
        unfold trc; rw [if_neg q2]
      · show _ = sN6 s (mnc h V) + mnc h V s
        unfold mnc; rw [if_neg q2]
      · show _ = sN6 s (oec h V) + oec h V s
        unfold oec; rw [if_neg q2]
/-- what the sums are -/
theorem cnt_nat2 {n h : Nat} {V : Nat → Int32} : mCount n V (nI h) = nI (sN6 n (mnc h V)) := sumN_nI n (fun s hs => by
  unfold mnc
  by_cases q : V (30 + 8 * s + 0) = nI h
  · rw [ifp_t q, if_pos q]
  · rw [ifp_f q, if_neg q])
theorem oes_nat {n B h : Nat} {V : Nat → Int32} (H : IV n V B) : mOwes n V (nI h) = nI (sN6 n (oec h V)) := sumN_nI n (fun s hs => by
  unfold oec
  by_cases q : V (30 + 8 * s + 0) = nI h
  · rw [ifp_t q, if_pos q]; exact (db_nat H hs).1
  · rw [ifp_f q, if_neg q])
theorem clm_sum {n B h : Nat} {V : Nat → Int32} (H : IV n V B) (X : XG n V B) (hB : B ≤ 9000) (hh : h < 6) : clmN n V h = (if opc V h = 1 then poc V h else 0) + sN6 n (owc h V) := by
  obtain ⟨e2, l2⟩ := mOwed_nat (h := h) (fun s hs => (H.2.2.1 s hs).ow) H.2.1
  have hp := (ho_nat H hh).2.1
  have hl := SM_le H
  have hq := sN6_elt (f := poc V) 6 hh
  unfold clmN mClaim
  by_cases z : vOpen V h
  · rw [ifp_t z, if_pos ((opc_01 H hh).2.2.mp z), hp.1, e2, nI_add, cl_nI (by omega)]
  · rw [ifp_f z, if_neg (fun q => z ((opc_01 H hh).2.2.mpr q)), cl_nI (by omega)]
    have e3 : sN6 n (owc h V) ≤ 0 * n := sN6_c (f := owc h V) (c := 0) n (fun s hs => by
      unfold owc
      rw [if_neg (fun y => z ((X.1.1 s hs).2.1 h hh y))]
      exact Nat.le_refl 0)
    omega
theorem mnc_shut {n B h : Nat} {V : Nat → Int32} (X : XG n V B) (hh : h < 6) (z : ¬ vOpen V h) : sN6 n (mnc h V) = 0 := by
  have e3 : sN6 n (mnc h V) ≤ 0 * n := sN6_c (f := mnc h V) (c := 0) n (fun s hs => by
    unfold mnc
    rw [if_neg (fun y => z ((X.1.1 s hs).1 h hh y))]
    exact Nat.le_refl 0)
  omega
