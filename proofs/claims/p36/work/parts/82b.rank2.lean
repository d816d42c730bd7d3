/-! the houses' places -/
noncomputable def clmN (n : Nat) (V : Nat → Int32) (h : Nat) : Nat := cl (mClaim n V h)
theorem clm_nat {n B h : Nat} {V : Nat → Int32} (H : IV n V B) (hB : B ≤ 20000) (hh : h < 6) : mClaim n V h = nI (clmN n V h) ∧ clmN n V h < 2147483648 := by
  obtain ⟨c, h1, h2⟩ := H.clN hB h hh
  unfold clmN
  rw [h2, cl_nI (by omega)]
  exact ⟨rfl, by omega⟩
theorem clm_lt {n B h : Nat} {V : Nat → Int32} (H : IV n V B) (hB : B ≤ 20000) (hh : h < 6) : clmN n V h < 1000000000 ∧ stc V h < 1000000000 := by
  obtain ⟨c, h0⟩ := H.shD hB
  have hs := SM_le H
  have h1 := sN6_elt (f := stc V) 6 hh
  have e := (h0.2.1 h hh)
  have hl : c h ≤ sN6 6 c := c_le hh
  refine ⟨?_, by omega⟩
  obtain ⟨o, e1, s, p, q0, q1, q2, q3, b1, b2, b3, b4⟩ := H.2.2.2.1 h hh
  obtain ⟨e2, l2⟩ := mOwed_nat (h := h) (fun s hs => (H.2.2.1 s hs).ow) H.2.1
  have hp := sN6_elt (f := poc V) 6 hh
  have ep : poc V h = p := by unfold poc; rw [q3, cl_nI (by omega)]
  unfold clmN mClaim
  by_cases z : vOpen V h
  · rw [ifp_t z, q3, e2, nI_add, cl_nI (by omega)]; omega
  · rw [ifp_f z, cl_nI (by omega)]; omega
noncomputable def clmI (n : Nat) (V : Nat → Int32) (h : Nat) : Int := ((clmN n V h : Nat) : Int)
def stoI (V : Nat → Int32) (h : Nat) : Int := ((stc V h : Nat) : Int)
theorem mBy_int {n B h o : Nat} {V : Nat → Int32} (H : IV n V B) (hB : B ≤ 20000) (hh : h < 6) (ho : o < 6) : (mBy n V h o).toInt = if clmI n V o = clmI n V h then stoI V o - stoI V h else clmI n V o - clmI n V h := by
  obtain ⟨e1, -⟩ := clm_nat H hB hh
  obtain ⟨e2, -⟩ := clm_nat H hB ho
  obtain ⟨l1, m1⟩ := clm_lt H hB hh
  obtain ⟨l2, m2⟩ := clm_lt H hB ho
  have d1 := (ho_nat H hh).1.1
  have d2 := (ho_nat H ho).1.1
  unfold mBy clmI stoI
  rw [e1, e2, d1, d2]
  have s1 := sub_toInt (a := clmN n V o) (b := clmN n V h) (by omega) (by omega)
  have s2 := sub_toInt (a := stc V o) (b := stc V h) (by omega) (by omega)
  by_cases z : nI (clmN n V o) - nI (clmN n V h) = 0
  · rw [ifp_t z]
    have q := congrArg Int32.toInt z
    rw [s1, show (0 : Int32).toInt = 0 from rfl] at q
    rw [if_pos (by omega), s2]
  · rw [ifp_f z]
    have q : ¬ ((clmN n V o : Nat) : Int) - ((clmN n V h : Nat) : Int) = 0 := fun q => z (Int32.toInt_inj.mp (by rw [s1, q]; rfl))
    rw [if_neg (by omega), s1]
theorem mRk1_n {n B h o : Nat} {V : Nat → Int32} (H : IV n V B) (hB : B ≤ 20000) (hh : h < 6) (ho : o < 6) : mRk1 n V h o = nI (ifp (ordK (clmI n V) (stoI V) o h) 1 0) := by
  have e := mBy_int H hB hh ho
  have p1 : (0 < mBy n V h o) ↔ 0 < (mBy n V h o).toInt := by rw [Int32.lt_iff_toInt_lt]; rfl
  have p2 : (mBy n V h o = 0) ↔ (mBy n V h o).toInt = 0 := ⟨fun q => by rw [q]; rfl, fun q => Int32.toInt_inj.mp (by rw [q]; rfl)⟩
  unfold mRk1
  by_cases z : o = h
  · rw [ifp_t z, z, ifp_f (ordK_ok (N := h + 1).1 h (by omega))]
  · rw [ifp_f z]
    by_cases z1 : 0 < mBy n V h o
    · rw [ifp_t z1]
      have z1 := p1.mp z1
      rw [ifp_t (show ordK (clmI n V) (stoI V) o h by unfold ordK; rw [e] at z1; split at z1 <;> omega)]
    · rw [ifp_f z1]
      have z1 : ¬ 0 < (mBy n V h o).toInt := fun q => z1 (p1.mpr q)
      by_cases z2 : mBy n V h o = 0
      · rw [ifp_t z2]
        have z2 := p2.mp z2
        by_cases z3 : o < h
        · rw [ifp_t z3, ifp_t (show ordK (clmI n V) (stoI V) o h by unfold ordK; rw [e] at z2; split at z2 <;> omega)]
        · rw [ifp_f z3, ifp_f (show ¬ ordK (clmI n V) (stoI V) o h by unfold ordK; rw [e] at z2; split at z2 <;> omega)]
      · rw [ifp_f z2]
        have z2 : ¬ (mBy n V h o).toInt = 0 := fun q => z2 (p2.mpr q)
        rw [ifp_f (show ¬ ordK (clmI n V) (stoI V) o h by
          have z1 := Int.not_lt.mp z1
          unfold ordK
          rw [e] at z1 z2
          split at z1
          · rename_i q; rw [if_pos q] at z2; omega
          · rename_i q; rw [if_neg q] at z2; omega)]
theorem mRank_n {n B h : Nat} {V : Nat → Int32} (H : IV n V B) (hB : B ≤ 20000) (hh : h < 6) : mRank n V h = nI (rkN 6 (ordK (clmI n V) (stoI V)) h) := sumN_nI 6 (fun o ho => mRk1_n H hB hh ho)
theorem bright_at {n B p : Nat} {V : Nat → Int32} (H : IV n V B) (hp : p < n) : ∃ r, r < n ∧ rkN n (ordK (ligN V) (debN V)) r = p ∧ frk (sRank n V) (nI p) n 0 = nI r := by
  have h12 := H.2.1
  obtain ⟨r, hr, e⟩ := rk_at (ordK_ok (N := n) (x := ligN V) (y := debN V)) hp
  refine ⟨r, hr, e, frk_at (N := n) (fun i hi => sRank_n H hi) (fun i hi => by have := rk_in (ordK_ok (N := n) (x := ligN V) (y := debN V)) hi; omega) (by omega) (fun i hi q => rk_inj (ordK_ok (N := n) (x := ligN V) (y := debN V)) hi hr (q.trans e.symm)) hr e n 0 (by omega) (Nat.zero_le _)⟩
theorem bright_no {n B : Nat} {V : Nat → Int32} (H : IV n V B) : frk (sRank n V) (nI n) n 0 = -1011 := by
  have h12 := H.2.1
  exact frk_no (N := n) (fun i hi => sRank_n H hi) (fun i hi => rk_in ordK_ok hi) (by omega) n 0 (by omega)
theorem ranked_at {n B p : Nat} {V : Nat → Int32} (H : IV n V B) (hB : B ≤ 20000) (hp : p < 6) : ∃ r, r < 6 ∧ rkN 6 (ordK (clmI n V) (stoI V)) r = p ∧ frk (mRank n V) (nI p) 6 0 = nI r := by
  obtain ⟨r, hr, e⟩ := rk_at (ordK_ok (N := 6) (x := clmI n V) (y := stoI V)) hp
  refine ⟨r, hr, e, frk_at (N := 6) (fun i hi => mRank_n H hB hi) (fun i hi => by have := rk_in (ordK_ok (N := 6) (x := clmI n V) (y := stoI V)) hi; omega) (by omega) (fun i hi q => rk_inj (ordK_ok (N := 6) (x := clmI n V) (y := stoI V)) hi hr (q.trans e.symm)) hr e 6 0 (by omega) (Nat.zero_le _)⟩
theorem ranked_no {n B : Nat} {V : Nat → Int32} (H : IV n V B) (hB : B ≤ 20000) : frk (mRank n V) (nI 6) 6 0 = -1011 :=
  frk_no (N := 6) (fun i hi => mRank_n H hB hi) (fun i hi => rk_in ordK_ok hi) (by omega) 6 0 (by omega)
