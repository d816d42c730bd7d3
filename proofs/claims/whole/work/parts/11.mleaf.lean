/-! the reference, its small methods -/
noncomputable def ifp {α : Type} (p : Prop) (a b : α) : α := @ite α p (Classical.propDecidable p) a b
theorem ifp_t {α : Type} {p : Prop} {a b : α} (h : p) : ifp p a b = a := by unfold ifp; rw [if_pos h]
theorem ifp_f {α : Type} {p : Prop} {a b : α} (h : ¬ p) : ifp p a b = b := by unfold ifp; rw [if_neg h]
/-- the reference's pieces, over its row of ints -/
def vOpen (V : Nat → Int32) (h : Nat) : Prop := V (6 + 4 * h + 0) = nI 1
noncomputable def mOpens (V : Nat → Int32) : Int32 := sumN 6 (fun h => V (6 + 4 * h + 0))
noncomputable def mPooled (V : Nat → Int32) : Int32 := sumN 6 (fun h => V (6 + 4 * h + 3))
noncomputable def mStores (V : Nat → Int32) : Int32 := sumN 6 (fun h => V (6 + 4 * h + 2))
noncomputable def mTray (n : Nat) (V : Nat → Int32) (h : Int32) : Int32 := sumN n (fun s => ifp (V (30 + 8 * s + 0) = h) (V (30 + 8 * s + 1) + nI 1) (nI 0))
noncomputable def mOwed (n : Nat) (V : Nat → Int32) (h : Int32) : Int32 := sumN n (fun s => ifp (V (30 + 8 * s + 3) = h + nI 1) (V (30 + 8 * s + 4)) (nI 0))
noncomputable def mWritsH (n : Nat) (V : Nat → Int32) (h : Int32) : Int32 := sumN n (fun s => ifp (V (30 + 8 * s + 6) = h + nI 1) (nI 1) (nI 0))
noncomputable def mWrits (n : Nat) (V : Nat → Int32) : Int32 := sumN n (fun s => ifp (V (30 + 8 * s + 6) ≤ 0) (nI 0) (nI 1))
noncomputable def mOfAll (n : Nat) (V : Nat → Int32) (w : Nat) : Int32 := sumN n (fun s => V (30 + 8 * s + w))
noncomputable def mCount (n : Nat) (V : Nat → Int32) (h : Int32) : Int32 := sumN n (fun s => ifp (V (30 + 8 * s + 0) = h) (nI 1) (nI 0))
noncomputable def mOwes (n : Nat) (V : Nat → Int32) (h : Int32) : Int32 := sumN n (fun s => ifp (V (30 + 8 * s + 0) = h) (V (30 + 8 * s + 4)) (nI 0))
noncomputable def mClaim (n : Nat) (V : Nat → Int32) (h : Nat) : Int32 := ifp (vOpen V h) (V (6 + 4 * h + 3) + mOwed n V (nI h)) (nI 0)
noncomputable def mClaims (n : Nat) (V : Nat → Int32) : Int32 := sumN 6 (fun h => mClaim n V h)
theorem sumT {n : Nat} {f : Nat → Int32} {p : Prop} {a b x : Int32} (hf : f n = ifp p a b) (h : p) (hx : sumN n f + a = x) : x = sumN (n + 1) f := by rw [sumS, hf, ifp_t h, hx]
theorem sumF {n : Nat} {f : Nat → Int32} {p : Prop} {a b x : Int32} (hf : f n = ifp p a b) (h : ¬ p) (hx : sumN n f + b = x) : x = sumN (n + 1) f := by rw [sumS, hf, ifp_f h, hx]
/-- cell a's first L slots are copied from cell b -/
def cpy (D : Mm) (a b L : Nat) : Mm := fun c j => if c = a then (if j < L then D b j else D a j) else D c j
theorem cpyS {D : Mm} {a b L : Nat} (hab : b ≠ a) : mup (cpy D a b L) a L (cpy D a b L b L) = cpy D a b (L + 1) := by
  funext c j
  unfold mup cpy
  by_cases hc : c = a
  · subst hc
    rw [if_pos rfl, if_neg hab, if_pos rfl, if_pos rfl]
    by_cases hj : j = L
    · subst hj
      rw [if_pos rfl, if_pos (Nat.lt_succ_self _)]
    · rw [if_neg hj]
      by_cases hl : j < L
      · rw [if_pos hl, if_pos (by omega)]
      · rw [if_neg hl, if_neg (by omega)]
  · rw [if_neg hc, if_neg hc, if_neg hc]
theorem cpy0 {D : Mm} {a b : Nat} : cpy D a b 0 = D := by
  funext c j
  unfold cpy
  by_cases hc : c = a
  · subst hc; rw [if_pos rfl, if_neg (Nat.not_lt_zero _)]
  · rw [if_neg hc]
def badR (x : Int32) (lo hi : Int32) : Prop := x < lo ∨ hi < x
theorem inR_of {x lo hi : Int32} (h : ¬ badR x lo hi) : lo ≤ x ∧ x ≤ hi := ⟨i_nlt (fun q => h (Or.inl q)), i_nlt (fun q => h (Or.inr q))⟩
theorem nI_inR {j a b : Nat} (h1 : a ≤ j) (h2 : j ≤ b) (hb : b < 2147483648) : ¬ badR (nI j) (nI a) (nI b) := by
  rintro (h | h)
  · exact absurd ((nI_ltI (by omega) (by omega)).mp h) (by omega)
  · exact absurd ((nI_ltI (by omega) (by omega)).mp h) (by omega)
theorem nI_bounds {x : Int32} {a b : Nat} (hb : b < 2147483648) (h : ¬ badR x (nI a) (nI b)) (hab : a ≤ b) : ∃ j, a ≤ j ∧ j ≤ b ∧ x = nI j := by
  obtain ⟨h1, h2⟩ := inR_of h
  have h0 : ¬ x < 0 := by
    intro q
    exact nI_pos (n := a) (by omega) (Int32.lt_of_le_of_lt h1 q)
  obtain ⟨j, hj, rfl⟩ := nI_of h0
  exact ⟨j, (nI_leI (by omega) (by omega)).mp h1, (nI_leI (by omega) (by omega)).mp h2, rfl⟩
def badH (x : Int32) : Prop := badR x (nI 0) (nI 5)
theorem caseH (x : Int32) : badH x ∨ ∃ j, j < 6 ∧ x = nI j := by
  by_cases h : badH x
  · exact Or.inl h
  · obtain ⟨j, _, hj, rfl⟩ := nI_bounds (by omega) h (by omega)
    exact Or.inr ⟨j, by omega, rfl⟩
theorem okH {j : Nat} (h : j < 6) : ¬ badH (nI j) := nI_inR (Nat.zero_le _) (by omega) (by omega)
def badS (n : Nat) (x : Int32) : Prop := x < nI 0 ∨ nI n ≤ x
theorem caseS {n : Nat} (hn : n < 2147483648) (x : Int32) : badS n x ∨ ∃ j, j < n ∧ x = nI j := by
  by_cases h : badS n x
  · exact Or.inl h
  · have h1 : ¬ x < nI 0 := fun q => h (Or.inl q)
    have h2 : ¬ nI n ≤ x := fun q => h (Or.inr q)
    obtain ⟨j, hj, rfl⟩ := nI_of h1
    exact Or.inr ⟨j, by have := mt (nI_leI (a := n) (b := j) (by omega) (by omega)).mpr h2; omega, rfl⟩
theorem okS {n j : Nat} (h : j < n) (hn : n < 2147483648) : ¬ badS n (nI j) := by
  rintro (q | q)
  · exact nI_pos (by omega) q
  · exact absurd ((nI_leI (by omega) (by omega)).mp q) (by omega)
theorem badS_R {n : Nat} {x : Int32} (hn : n < 2147483648) (h : badS n x) : badR x (nI 0) (nI n - nI 1) := by
  rcases h with h | h
  · exact Or.inl h
  · cases n with
    | zero =>
      by_cases h0 : x < nI 0
      · exact Or.inl h0
      · exact Or.inr (Int32.lt_of_lt_of_le (show nI 0 - nI 1 < nI 0 by decide) h)
    | succ n =>
      refine Or.inr ?_
      rw [nI_sub (by omega), Nat.add_sub_cancel]
      exact Int32.lt_of_lt_of_le (nI_lt (by omega) (by omega)) h
theorem okS_R {n j : Nat} (h : j < n) (hn : n < 2147483648) : ¬ badR (nI j) (nI 0) (nI n - nI 1) := by
  rw [nI_sub (by omega)]
  exact nI_inR (by omega) (by omega) (by omega)
theorem T_fail {d : Nat} {D : Mm} {x : Int32} : Ct (d + 1) 108 [.ref 171, .int x] D (Ex (some (.int x)) (mup D 171 0 x)) := by
  refine ent m108 rfl rfl (ls := [.ref 171, .int x]) rfl ?_
  refine w_ald0 i108_0 ?_
  refine w_ild1 i108_1 ?_
  refine w_pf0 i108_2 (by decide) s_171 rfl ?_
  refine w_ild1 i108_5 ?_
  refine w_ri i108_6 r108 ?_
  exact ⟨rfl, rfl⟩
def mRef (D : Mm) (b w : Int32) : Mm := mup (mup (mup (mup (mup D 171 2 b) 171 3 w) 171 4 (nI 0)) 171 6 (nI 0)) 171 0 (-1014)
theorem T_refuses {d : Nat} {D : Mm} {x y : Int32} : Ct (d + 2) 109 [.ref 171, .int x, .int y] D (Ex (some (.int (-1014))) (mRef D x y)) := by
  refine ent m109 rfl rfl (ls := [.ref 171, .int x, .int y]) rfl ?_
  refine w_ald0 i109_0 ?_
  refine w_ild1 i109_1 ?_
  refine w_pf0 i109_2 (by decide) s_171 rfl ?_
  refine w_ald0 i109_5 ?_
  refine w_ild2 i109_6 ?_
  refine w_pf0 i109_7 (by decide) s_171 rfl ?_
  refine w_ald0 i109_10 ?_
  refine w_const i109_11 kc_0 ?_
  refine w_pf0 i109_12 (by decide) s_171 rfl ?_
  refine w_ald0 i109_15 ?_
  refine w_const i109_16 kc_0 ?_
  refine w_pf0 i109_17 (by decide) s_171 rfl ?_
  refine w_ald0 i109_20 ?_
  refine w_sip i109_21 ks_m1014 ?_
  refine w_vI2 i109_24 c108 (Or.inl rfl) ⟨by decide +kernel, by decide⟩ rfl ⟨rfl, Nat.le_of_ble_eq_true rfl⟩ T_fail ?_
  refine w_ri i109_27 r109 ?_
  exact ⟨rfl, rfl⟩
theorem T_isIn_t {d : Nat} {D : Mm} {x lo hi : Int32} (h : ¬ badR x lo hi) : Ct (d + 1) 110 [.int x, .int lo, .int hi] D (Ex (some (.int (nI 1))) D) := by
  refine ent m110 rfl rfl (ls := [.int x, .int lo, .int hi]) rfl ?_
  refine w_ild0 i110_0 ?_
  refine w_ild1 i110_1 ?_
  refine w_cltF i110_2  (inR_of h).1 ?_
  refine w_ild0 i110_5 ?_
  refine w_ild2 i110_6 ?_
  refine w_cgtF i110_7  (inR_of h).2 ?_
  refine w_const i110_10 kc_1 ?_
  refine w_goto i110_11 g110_11 ?_
  refine w_rz i110_15 r110 nar_z1 ?_
  exact ⟨rfl, rfl⟩
theorem T_isIn_f {d : Nat} {D : Mm} {x lo hi : Int32} (h : badR x lo hi) : Ct (d + 1) 110 [.int x, .int lo, .int hi] D (Ex (some (.int (nI 0))) D) := by
  refine ent m110 rfl rfl (ls := [.int x, .int lo, .int hi]) rfl ?_
  refine w_ild0 i110_0 ?_
  refine w_ild1 i110_1 ?_
  refine w_clt i110_2 g110_2  (fun h2 => ?_) (fun h2 => ?_)
  · skip
    refine w_const i110_14 kc_0 ?_
    refine w_rz i110_15 r110 nar_z0 ?_
    first | exact ⟨rfl, rfl⟩ | (exfalso; exact h.elim (fun q => absurd q (Int32.not_lt.mpr h2)) (fun q => absurd q (Int32.not_lt.mpr h7)))
  · skip
    refine w_ild0 i110_5 ?_
    refine w_ild2 i110_6 ?_
    refine w_cgt i110_7 g110_7  (fun h7 => ?_) (fun h7 => ?_)
    · skip
      refine w_const i110_14 kc_0 ?_
      refine w_rz i110_15 r110 nar_z0 ?_
      first | exact ⟨rfl, rfl⟩ | (exfalso; exact h.elim (fun q => absurd q (Int32.not_lt.mpr h2)) (fun q => absurd q (Int32.not_lt.mpr h7)))
    · skip
      refine w_const i110_10 kc_1 ?_
      refine w_goto i110_11 g110_11 ?_
      refine w_rz i110_15 r110 nar_z1 ?_
      first | exact ⟨rfl, rfl⟩ | (exfalso; exact h.elim (fun q => absurd q (Int32.not_lt.mpr h2)) (fun q => absurd q (Int32.not_lt.mpr h7)))
theorem T_lays {d : Nat} {D : Mm} {a b : Nat} {rf rg : List (Option Nat)} (ha : sh a = (20, 126, rf)) (hb : sh b = (20, 126, rg)) (hab : b ≠ a) (na : nvB (.ref a) = true) (nb : nvB (.ref b) = true) : Ct (d + 1) 111 [.ref a, .ref b] D (Ex none (cpy D a b 126)) := by
  refine ent m111 rfl rfl (ls := [.ref a, .ref b, .retAddr 0]) rfl ?_
  refine w_const i111_0 kc_0 ?_
  refine w_ist2 i111_1 ?_
  rw [show Ex none (cpy D a b 126) = Ex none (cpy D a b 126) from rfl]
  have e0 : D = cpy D a b 0 := cpy0.symm
  rw [show Wp d 111 (Ex none (cpy D a b 126)) 2 [.ref a, .ref b, .int (nI 0)] [] D = Wp d 111 (Ex none (cpy D a b 126)) 2 [.ref a, .ref b, .int (nI 0)] [] (cpy D a b 0) from by rw [← e0]]
  refine down0 (n := 126) (P := fun i => Wp _ _ _ 2 [.ref a, .ref b, .int (nI i)] [] (cpy D a b i)) ?_ ?_
  · skip
    refine w_ild2 i111_2 ?_
    refine w_bip i111_3 kb_126 ?_
    refine w_cgeNT i111_5 g111_5 (by omega) (by omega) (by omega) ?_
    refine w_rv i111_20 r111 ?_
    exact ⟨rfl, rfl⟩
  · intro i hi ih
    refine w_ild2 i111_2 ?_
    refine w_bip i111_3 kb_126 ?_
    refine w_cgeNF i111_5 (by omega) (by omega) (by omega) ?_
    refine w_ald0 i111_8 ?_
    refine w_ild2 i111_9 ?_
    refine w_ald1 i111_10 ?_
    refine w_ild2 i111_11 ?_
    refine w_ial i111_12 hb (by decide) (by omega) rfl ?_
    refine w_ias i111_13 ha (by decide) (by omega) ?_
    refine w_inc2 i111_14 (inc1 _) ?_
    refine w_goto i111_17 g111_17 ?_
    rw [cpyS hab]; exact ih
def mBeg (D : Mm) : Mm := cpy (mup D 171 0 (nI 0)) 173 172 126
theorem T_begins {d : Nat} {D : Mm} : Ct (d + 2) 112 [.ref 171] D (Ex none (mBeg D)) := by
  refine ent m112 rfl rfl (ls := [.ref 171]) rfl ?_
  refine w_ald0 i112_0 ?_
  refine w_const i112_1 kc_0 ?_
  refine w_pf0 i112_2 (by decide) s_171 rfl ?_
  refine w_ald0 i112_5 ?_
  refine w_gfR i112_6 (by decide) s_171 rfl ?_
  refine w_ald0 i112_9 ?_
  refine w_gfR i112_10 (by decide) s_171 rfl ?_
  refine w_sV2 i112_13 c111 rfl  rfl ⟨rfl, Nat.le_of_ble_eq_true rfl⟩ (T_lays s_173 s_172 (by decide) rfl rfl) ?_
  refine w_rv i112_16 r112 ?_
  exact ⟨rfl, rfl⟩
theorem T_at {d : Nat} {D : Mm} {h w : Nat} : Ct (d + 1) 114 [.int (nI h), .int (nI w)] D (Ex (some (.int (nI (6 + 4 * h + w)))) D) := by
  refine ent m114 rfl rfl (ls := [.int (nI h), .int (nI w)]) rfl ?_
  refine w_bip i114_0 kb_6 ?_
  refine w_const i114_2 kc_4 ?_
  refine w_ild0 i114_3 ?_
  refine w_imul i114_4 (nI_mul _ _) ?_
  refine w_iadd i114_5 (nI_add _ _) ?_
  refine w_ild1 i114_6 ?_
  refine w_iadd i114_7 (nI_add _ _) ?_
  refine w_ri i114_8 r114 ?_
  exact ⟨rfl, rfl⟩
theorem T_in {d : Nat} {D : Mm} {h w : Nat} : Ct (d + 1) 115 [.int (nI h), .int (nI w)] D (Ex (some (.int (nI (30 + 8 * h + w)))) D) := by
  refine ent m115 rfl rfl (ls := [.int (nI h), .int (nI w)]) rfl ?_
  refine w_bip i115_0 kb_30 ?_
  refine w_bip i115_2 kb_8 ?_
  refine w_ild0 i115_4 ?_
  refine w_imul i115_5 (nI_mul _ _) ?_
  refine w_iadd i115_6 (nI_add _ _) ?_
  refine w_ild1 i115_7 ?_
  refine w_iadd i115_8 (nI_add _ _) ?_
  refine w_ri i115_9 r115 ?_
  exact ⟨rfl, rfl⟩
theorem T_isHouse_t {d : Nat} {D : Mm} {j : Nat} (hj : j < 6) : Ct (d + 2) 116 [.int (nI j)] D (Ex (some (.int (nI 1))) D) := by
  refine ent m116 rfl rfl (ls := [.int (nI j)]) rfl ?_
  refine w_ild0 i116_0 ?_
  refine w_const i116_1 kc_0 ?_
  refine w_const i116_2 kc_5 ?_
  refine w_sI3 i116_3 c110 rfl  rfl ⟨rfl, Nat.le_of_ble_eq_true rfl⟩ (T_isIn_t (nI_inR (by omega) (by omega) (by omega))) ?_
  refine w_rz i116_6 r116 nar_z1 ?_
  exact ⟨rfl, rfl⟩
theorem T_isHouse_f {d : Nat} {D : Mm} {x : Int32} (h : badH x) : Ct (d + 2) 116 [.int x] D (Ex (some (.int (nI 0))) D) := by
  refine ent m116 rfl rfl (ls := [.int x]) rfl ?_
  refine w_ild0 i116_0 ?_
  refine w_const i116_1 kc_0 ?_
  refine w_const i116_2 kc_5 ?_
  refine w_sI3 i116_3 c110 rfl  rfl ⟨rfl, Nat.le_of_ble_eq_true rfl⟩ (T_isIn_f h) ?_
  refine w_rz i116_6 r116 nar_z0 ?_
  exact ⟨rfl, rfl⟩
theorem T_isStub_t {d : Nat} {D : Mm} {n : Nat} (hn : D 172 0 = nI n) (h12 : n ≤ 12) {j : Nat} (hj : j < n) : Ct (d + 2) 117 [.ref 171, .int (nI j)] D (Ex (some (.int (nI 1))) D) := by
  refine ent m117 rfl rfl (ls := [.ref 171, .int (nI j)]) rfl ?_
  refine w_ild1 i117_0 ?_
  refine w_const i117_1 kc_0 ?_
  refine w_ald0 i117_2 ?_
  refine w_gfR i117_3 (by decide) s_171 rfl ?_
  refine w_const i117_6 kc_0 ?_
  refine w_ial i117_7 s_172 (by decide) (by omega) hn ?_
  refine w_const i117_8 kc_1 ?_
  refine w_isub i117_9 rfl ?_
  refine w_sI3 i117_10 c110 rfl  rfl ⟨rfl, Nat.le_of_ble_eq_true rfl⟩ (T_isIn_t (okS_R hj (by omega))) ?_
  refine w_rz i117_13 r117 nar_z1 ?_
  exact ⟨rfl, rfl⟩
theorem T_isStub_f {d : Nat} {D : Mm} {n : Nat} (hn : D 172 0 = nI n) (h12 : n ≤ 12) {x : Int32} (h : badS n x) : Ct (d + 2) 117 [.ref 171, .int x] D (Ex (some (.int (nI 0))) D) := by
  refine ent m117 rfl rfl (ls := [.ref 171, .int x]) rfl ?_
  refine w_ild1 i117_0 ?_
  refine w_const i117_1 kc_0 ?_
  refine w_ald0 i117_2 ?_
  refine w_gfR i117_3 (by decide) s_171 rfl ?_
  refine w_const i117_6 kc_0 ?_
  refine w_ial i117_7 s_172 (by decide) (by omega) hn ?_
  refine w_const i117_8 kc_1 ?_
  refine w_isub i117_9 rfl ?_
  refine w_sI3 i117_10 c110 rfl  rfl ⟨rfl, Nat.le_of_ble_eq_true rfl⟩ (T_isIn_f (badS_R (by omega) h)) ?_
  refine w_rz i117_13 r117 nar_z0 ?_
  exact ⟨rfl, rfl⟩
theorem T_isOpen_t {d : Nat} {D : Mm} {j : Nat} (hj : j < 6) (h : vOpen (D 172) j) : Ct (d + 2) 118 [.ref 171, .int (nI j)] D (Ex (some (.int (nI 1))) D) := by
  refine ent m118 rfl rfl (ls := [.ref 171, .int (nI j)]) rfl ?_
  refine w_ald0 i118_0 ?_
  refine w_gfR i118_1 (by decide) s_171 rfl ?_
  refine w_ild1 i118_4 ?_
  refine w_const i118_5 kc_0 ?_
  refine w_sI2 i118_6 c114 rfl  rfl ⟨rfl, Nat.le_of_ble_eq_true rfl⟩ T_at ?_
  refine w_ial i118_9 s_172 (by decide) (by omega) rfl ?_
  refine w_const i118_10 kc_1 ?_
  refine w_cneF i118_11  h ?_
  refine w_const i118_14 kc_1 ?_
  refine w_goto i118_15 g118_15 ?_
  refine w_rz i118_19 r118 nar_z1 ?_
  exact ⟨rfl, rfl⟩
theorem T_isOpen_f {d : Nat} {D : Mm} {j : Nat} (hj : j < 6) (h : ¬ vOpen (D 172) j) : Ct (d + 2) 118 [.ref 171, .int (nI j)] D (Ex (some (.int (nI 0))) D) := by
  refine ent m118 rfl rfl (ls := [.ref 171, .int (nI j)]) rfl ?_
  refine w_ald0 i118_0 ?_
  refine w_gfR i118_1 (by decide) s_171 rfl ?_
  refine w_ild1 i118_4 ?_
  refine w_const i118_5 kc_0 ?_
  refine w_sI2 i118_6 c114 rfl  rfl ⟨rfl, Nat.le_of_ble_eq_true rfl⟩ T_at ?_
  refine w_ial i118_9 s_172 (by decide) (by omega) rfl ?_
  refine w_const i118_10 kc_1 ?_
  refine w_cneT i118_11 g118_11  h ?_
  refine w_const i118_18 kc_0 ?_
  refine w_rz i118_19 r118 nar_z0 ?_
  exact ⟨rfl, rfl⟩
theorem T_opens {d : Nat} {D : Mm} : Ct (d + 2) 119 [.ref 171] D (Ex (some (.int (mOpens (D 172)))) D) := by
  refine ent m119 rfl rfl (ls := [.ref 171, .retAddr 0, .retAddr 0]) rfl ?_
  refine w_const i119_0 kc_0 ?_
  refine w_ist1 i119_1 ?_
  refine w_const i119_2 kc_0 ?_
  refine w_ist2 i119_3 ?_
  refine down0 (n := 6) (P := fun i => Wp _ _ _ 4 [.ref 171, .int (sumN i (fun h => D 172 (6 + 4 * h + 0))), .int (nI i)] [] D) ?_ ?_
  · skip
    refine w_ild2 i119_4 ?_
    refine w_bip i119_5 kb_6 ?_
    refine w_cgeNT i119_7 g119_7 (by omega) (by omega) (by omega) ?_
    refine w_ild1 i119_29 ?_
    refine w_ri i119_30 r119 ?_
    exact ⟨rfl, rfl⟩
  · intro i hi ih
    refine w_ild2 i119_4 ?_
    refine w_bip i119_5 kb_6 ?_
    refine w_cgeNF i119_7 (by omega) (by omega) (by omega) ?_
    refine w_ild1 i119_10 ?_
    refine w_ald0 i119_11 ?_
    refine w_gfR i119_12 (by decide) s_171 rfl ?_
    refine w_ild2 i119_15 ?_
    refine w_const i119_16 kc_0 ?_
    refine w_sI2 i119_17 c114 rfl  rfl ⟨rfl, Nat.le_of_ble_eq_true rfl⟩ T_at ?_
    refine w_ial i119_20 s_172 (by decide) (by omega) rfl ?_
    refine w_iadd i119_21 rfl ?_
    refine w_ist1 i119_22 ?_
    refine w_inc2 i119_23 (inc1 _) ?_
    refine w_goto i119_26 g119_26 ?_
    exact ih
theorem T_pooled {d : Nat} {D : Mm} : Ct (d + 2) 136 [.ref 171] D (Ex (some (.int (mPooled (D 172)))) D) := by
  refine ent m136 rfl rfl (ls := [.ref 171, .retAddr 0, .retAddr 0]) rfl ?_
  refine w_const i136_0 kc_0 ?_
  refine w_ist1 i136_1 ?_
  refine w_const i136_2 kc_0 ?_
  refine w_ist2 i136_3 ?_
  refine down0 (n := 6) (P := fun i => Wp _ _ _ 4 [.ref 171, .int (sumN i (fun h => D 172 (6 + 4 * h + 3))), .int (nI i)] [] D) ?_ ?_
  · skip
    refine w_ild2 i136_4 ?_
    refine w_bip i136_5 kb_6 ?_
    refine w_cgeNT i136_7 g136_7 (by omega) (by omega) (by omega) ?_
    refine w_ild1 i136_29 ?_
    refine w_ri i136_30 r136 ?_
    exact ⟨rfl, rfl⟩
  · intro i hi ih
    refine w_ild2 i136_4 ?_
    refine w_bip i136_5 kb_6 ?_
    refine w_cgeNF i136_7 (by omega) (by omega) (by omega) ?_
    refine w_ild1 i136_10 ?_
    refine w_ald0 i136_11 ?_
    refine w_gfR i136_12 (by decide) s_171 rfl ?_
    refine w_ild2 i136_15 ?_
    refine w_const i136_16 kc_3 ?_
    refine w_sI2 i136_17 c114 rfl  rfl ⟨rfl, Nat.le_of_ble_eq_true rfl⟩ T_at ?_
    refine w_ial i136_20 s_172 (by decide) (by omega) rfl ?_
    refine w_iadd i136_21 rfl ?_
    refine w_ist1 i136_22 ?_
    refine w_inc2 i136_23 (inc1 _) ?_
    refine w_goto i136_26 g136_26 ?_
    exact ih
theorem T_stores {d : Nat} {D : Mm} : Ct (d + 2) 183 [.ref 171] D (Ex (some (.int (mStores (D 172)))) D) := by
  refine ent m183 rfl rfl (ls := [.ref 171, .retAddr 0, .retAddr 0]) rfl ?_
  refine w_const i183_0 kc_0 ?_
  refine w_ist1 i183_1 ?_
  refine w_const i183_2 kc_0 ?_
  refine w_ist2 i183_3 ?_
  refine down0 (n := 6) (P := fun i => Wp _ _ _ 4 [.ref 171, .int (sumN i (fun h => D 172 (6 + 4 * h + 2))), .int (nI i)] [] D) ?_ ?_
  · skip
    refine w_ild2 i183_4 ?_
    refine w_bip i183_5 kb_6 ?_
    refine w_cgeNT i183_7 g183_7 (by omega) (by omega) (by omega) ?_
    refine w_ild1 i183_29 ?_
    refine w_ri i183_30 r183 ?_
    exact ⟨rfl, rfl⟩
  · intro i hi ih
    refine w_ild2 i183_4 ?_
    refine w_bip i183_5 kb_6 ?_
    refine w_cgeNF i183_7 (by omega) (by omega) (by omega) ?_
    refine w_ild1 i183_10 ?_
    refine w_ald0 i183_11 ?_
    refine w_gfR i183_12 (by decide) s_171 rfl ?_
    refine w_ild2 i183_15 ?_
    refine w_const i183_16 kc_2 ?_
    refine w_sI2 i183_17 c114 rfl  rfl ⟨rfl, Nat.le_of_ble_eq_true rfl⟩ T_at ?_
    refine w_ial i183_20 s_172 (by decide) (by omega) rfl ?_
    refine w_iadd i183_21 rfl ?_
    refine w_ist1 i183_22 ?_
    refine w_inc2 i183_23 (inc1 _) ?_
    refine w_goto i183_26 g183_26 ?_
    exact ih
theorem T_tray {d : Nat} {D : Mm} {n : Nat} (hn : D 172 0 = nI n) (h12 : n ≤ 12) {h : Int32} : Ct (d + 2) 120 [.ref 171, .int h] D (Ex (some (.int (mTray n (D 172) h))) D) := by
  refine ent m120 rfl rfl (ls := [.ref 171, .int h, .retAddr 0, .retAddr 0]) rfl ?_
  refine w_const i120_0 kc_0 ?_
  refine w_ist2 i120_1 ?_
  refine w_const i120_2 kc_0 ?_
  refine w_ist3 i120_3 ?_
  refine down0 (n := n) (P := fun i => Wp _ _ _ 4 [.ref 171, .int h, .int (sumN i (fun s => ifp (D 172 (30 + 8 * s + 0) = h) (D 172 (30 + 8 * s + 1) + nI 1) (nI 0))), .int (nI i)] [] D) ?_ ?_
  · skip
    refine w_ild3 i120_4 ?_
    refine w_ald0 i120_5 ?_
    refine w_gfR i120_6 (by decide) s_171 rfl ?_
    refine w_const i120_9 kc_0 ?_
    refine w_ial i120_10 s_172 (by decide) (by omega) hn ?_
    refine w_cgeNT i120_11 g120_11 (by omega) (by omega) (by omega) ?_
    refine w_ild2 i120_53 ?_
    refine w_ri i120_54 r120 ?_
    exact ⟨rfl, rfl⟩
  · intro i hi ih
    refine w_ild3 i120_4 ?_
    refine w_ald0 i120_5 ?_
    refine w_gfR i120_6 (by decide) s_171 rfl ?_
    refine w_const i120_9 kc_0 ?_
    refine w_ial i120_10 s_172 (by decide) (by omega) hn ?_
    refine w_cgeNF i120_11 (by omega) (by omega) (by omega) ?_
    refine w_ild2 i120_14 ?_
    refine w_ald0 i120_15 ?_
    refine w_gfR i120_16 (by decide) s_171 rfl ?_
    refine w_ild3 i120_19 ?_
    refine w_const i120_20 kc_0 ?_
    refine w_sI2 i120_21 c115 rfl  rfl ⟨rfl, Nat.le_of_ble_eq_true rfl⟩ T_in ?_
    refine w_ial i120_24 s_172 (by decide) (by omega) rfl ?_
    refine w_ild1 i120_25 ?_
    refine w_cne i120_26 g120_26  (fun h26 => ?_) (fun h26 => ?_)
    · skip
      refine w_const i120_44 kc_0 ?_
      refine w_iadd i120_45 rfl ?_
      refine w_ist2 i120_46 ?_
      refine w_inc3 i120_47 (inc1 _) ?_
      refine w_goto i120_50 g120_50 ?_
      first | (rw [sumS, ifp_t h26] at ih; exact ih) | (rw [sumS, ifp_f h26] at ih; exact ih) | (rw [sumS, ifp_f (Int32.not_le.mpr h26)] at ih; exact ih) | (rw [sumS, ifp_f (Int32.not_lt.mpr h26)] at ih; exact ih)
    · skip
      refine w_ald0 i120_29 ?_
      refine w_gfR i120_30 (by decide) s_171 rfl ?_
      refine w_ild3 i120_33 ?_
      refine w_const i120_34 kc_1 ?_
      refine w_sI2 i120_35 c115 rfl  rfl ⟨rfl, Nat.le_of_ble_eq_true rfl⟩ T_in ?_
      refine w_ial i120_38 s_172 (by decide) (by omega) rfl ?_
      refine w_const i120_39 kc_1 ?_
      refine w_iadd i120_40 rfl ?_
      refine w_goto i120_41 g120_41 ?_
      refine w_iadd i120_45 rfl ?_
      refine w_ist2 i120_46 ?_
      refine w_inc3 i120_47 (inc1 _) ?_
      refine w_goto i120_50 g120_50 ?_
      first | (rw [sumS, ifp_t h26] at ih; exact ih) | (rw [sumS, ifp_f h26] at ih; exact ih) | (rw [sumS, ifp_f (Int32.not_le.mpr h26)] at ih; exact ih) | (rw [sumS, ifp_f (Int32.not_lt.mpr h26)] at ih; exact ih)
theorem T_owed {d : Nat} {D : Mm} {n : Nat} (hn : D 172 0 = nI n) (h12 : n ≤ 12) {h : Int32} : Ct (d + 2) 122 [.ref 171, .int h] D (Ex (some (.int (mOwed n (D 172) h))) D) := by
  refine ent m122 rfl rfl (ls := [.ref 171, .int h, .retAddr 0, .retAddr 0]) rfl ?_
  refine w_const i122_0 kc_0 ?_
  refine w_ist2 i122_1 ?_
  refine w_const i122_2 kc_0 ?_
  refine w_ist3 i122_3 ?_
  refine down0 (n := n) (P := fun i => Wp _ _ _ 4 [.ref 171, .int h, .int (sumN i (fun s => ifp (D 172 (30 + 8 * s + 3) = h + nI 1) (D 172 (30 + 8 * s + 4)) (nI 0))), .int (nI i)] [] D) ?_ ?_
  · skip
    refine w_ild3 i122_4 ?_
    refine w_ald0 i122_5 ?_
    refine w_gfR i122_6 (by decide) s_171 rfl ?_
    refine w_const i122_9 kc_0 ?_
    refine w_ial i122_10 s_172 (by decide) (by omega) hn ?_
    refine w_cgeNT i122_11 g122_11 (by omega) (by omega) (by omega) ?_
    refine w_ild2 i122_53 ?_
    refine w_ri i122_54 r122 ?_
    exact ⟨rfl, rfl⟩
  · intro i hi ih
    refine w_ild3 i122_4 ?_
    refine w_ald0 i122_5 ?_
    refine w_gfR i122_6 (by decide) s_171 rfl ?_
    refine w_const i122_9 kc_0 ?_
    refine w_ial i122_10 s_172 (by decide) (by omega) hn ?_
    refine w_cgeNF i122_11 (by omega) (by omega) (by omega) ?_
    refine w_ild2 i122_14 ?_
    refine w_ald0 i122_15 ?_
    refine w_gfR i122_16 (by decide) s_171 rfl ?_
    refine w_ild3 i122_19 ?_
    refine w_const i122_20 kc_3 ?_
    refine w_sI2 i122_21 c115 rfl  rfl ⟨rfl, Nat.le_of_ble_eq_true rfl⟩ T_in ?_
    refine w_ial i122_24 s_172 (by decide) (by omega) rfl ?_
    refine w_ild1 i122_25 ?_
    refine w_const i122_26 kc_1 ?_
    refine w_iadd i122_27 rfl ?_
    refine w_cne i122_28 g122_28  (fun h28 => ?_) (fun h28 => ?_)
    · skip
      refine w_const i122_44 kc_0 ?_
      refine w_iadd i122_45 rfl ?_
      refine w_ist2 i122_46 ?_
      refine w_inc3 i122_47 (inc1 _) ?_
      refine w_goto i122_50 g122_50 ?_
      first | (rw [sumS, ifp_t h28] at ih; exact ih) | (rw [sumS, ifp_f h28] at ih; exact ih) | (rw [sumS, ifp_f (Int32.not_le.mpr h28)] at ih; exact ih) | (rw [sumS, ifp_f (Int32.not_lt.mpr h28)] at ih; exact ih)
    · skip
      refine w_ald0 i122_31 ?_
      refine w_gfR i122_32 (by decide) s_171 rfl ?_
      refine w_ild3 i122_35 ?_
      refine w_const i122_36 kc_4 ?_
      refine w_sI2 i122_37 c115 rfl  rfl ⟨rfl, Nat.le_of_ble_eq_true rfl⟩ T_in ?_
      refine w_ial i122_40 s_172 (by decide) (by omega) rfl ?_
      refine w_goto i122_41 g122_41 ?_
      refine w_iadd i122_45 rfl ?_
      refine w_ist2 i122_46 ?_
      refine w_inc3 i122_47 (inc1 _) ?_
      refine w_goto i122_50 g122_50 ?_
      first | (rw [sumS, ifp_t h28] at ih; exact ih) | (rw [sumS, ifp_f h28] at ih; exact ih) | (rw [sumS, ifp_f (Int32.not_le.mpr h28)] at ih; exact ih) | (rw [sumS, ifp_f (Int32.not_lt.mpr h28)] at ih; exact ih)
theorem T_writsH {d : Nat} {D : Mm} {n : Nat} (hn : D 172 0 = nI n) (h12 : n ≤ 12) {h : Int32} (h0 : 0 ≤ h) : Ct (d + 2) 123 [.ref 171, .int h] D (Ex (some (.int (mWritsH n (D 172) h))) D) := by
  refine ent m123 rfl rfl (ls := [.ref 171, .int h, .retAddr 0, .retAddr 0]) rfl ?_
  refine w_const i123_0 kc_0 ?_
  refine w_ist2 i123_1 ?_
  refine w_const i123_2 kc_0 ?_
  refine w_ist3 i123_3 ?_
  refine down0 (n := n) (P := fun i => Wp _ _ _ 4 [.ref 171, .int h, .int (sumN i (fun s => ifp (D 172 (30 + 8 * s + 6) = h + nI 1) (nI 1) (nI 0))), .int (nI i)] [] D) ?_ ?_
  · skip
    refine w_ild3 i123_4 ?_
    refine w_ald0 i123_5 ?_
    refine w_gfR i123_6 (by decide) s_171 rfl ?_
    refine w_const i123_9 kc_0 ?_
    refine w_ial i123_10 s_172 (by decide) (by omega) hn ?_
    refine w_cgeNT i123_11 g123_11 (by omega) (by omega) (by omega) ?_
    refine w_ild2 i123_71 ?_
    refine w_ri i123_72 r123 ?_
    exact ⟨rfl, rfl⟩
  · intro i hi ih
    refine w_ild3 i123_4 ?_
    refine w_ald0 i123_5 ?_
    refine w_gfR i123_6 (by decide) s_171 rfl ?_
    refine w_const i123_9 kc_0 ?_
    refine w_ial i123_10 s_172 (by decide) (by omega) hn ?_
    refine w_cgeNF i123_11 (by omega) (by omega) (by omega) ?_
    refine w_ild2 i123_14 ?_
    refine w_ild1 i123_15 ?_
    refine w_igeT i123_16 g123_16  h0 ?_
    refine w_ald0 i123_41 ?_
    refine w_gfR i123_42 (by decide) s_171 rfl ?_
    refine w_ild3 i123_45 ?_
    refine w_bip i123_46 kb_6 ?_
    refine w_sI2 i123_48 c115 rfl  rfl ⟨rfl, Nat.le_of_ble_eq_true rfl⟩ T_in ?_
    refine w_ial i123_51 s_172 (by decide) (by omega) rfl ?_
    refine w_ild1 i123_52 ?_
    refine w_const i123_53 kc_1 ?_
    refine w_iadd i123_54 rfl ?_
    refine w_cne i123_55 g123_55  (fun h55 => ?_) (fun h55 => ?_)
    · skip
      refine w_const i123_62 kc_0 ?_
      refine w_iadd i123_63 rfl ?_
      refine w_ist2 i123_64 ?_
      refine w_inc3 i123_65 (inc1 _) ?_
      refine w_goto i123_68 g123_68 ?_
      first | (rw [sumS, ifp_t h55] at ih; exact ih) | (rw [sumS, ifp_f h55] at ih; exact ih) | (rw [sumS, ifp_f (Int32.not_le.mpr h55)] at ih; exact ih) | (rw [sumS, ifp_f (Int32.not_lt.mpr h55)] at ih; exact ih)
    · skip
      refine w_const i123_58 kc_1 ?_
      refine w_goto i123_59 g123_59 ?_
      refine w_iadd i123_63 rfl ?_
      refine w_ist2 i123_64 ?_
      refine w_inc3 i123_65 (inc1 _) ?_
      refine w_goto i123_68 g123_68 ?_
      first | (rw [sumS, ifp_t h55] at ih; exact ih) | (rw [sumS, ifp_f h55] at ih; exact ih) | (rw [sumS, ifp_f (Int32.not_le.mpr h55)] at ih; exact ih) | (rw [sumS, ifp_f (Int32.not_lt.mpr h55)] at ih; exact ih)
theorem T_writs {d : Nat} {D : Mm} {n : Nat} (hn : D 172 0 = nI n) (h12 : n ≤ 12) : Ct (d + 2) 123 [.ref 171, .int (-1)] D (Ex (some (.int (mWrits n (D 172)))) D) := by
  refine ent m123 rfl rfl (ls := [.ref 171, .int (-1), .retAddr 0, .retAddr 0]) rfl ?_
  refine w_const i123_0 kc_0 ?_
  refine w_ist2 i123_1 ?_
  refine w_const i123_2 kc_0 ?_
  refine w_ist3 i123_3 ?_
  refine down0 (n := n) (P := fun i => Wp _ _ _ 4 [.ref 171, .int (-1), .int (sumN i (fun s => ifp (D 172 (30 + 8 * s + 6) ≤ 0) (nI 0) (nI 1))), .int (nI i)] [] D) ?_ ?_
  · skip
    refine w_ild3 i123_4 ?_
    refine w_ald0 i123_5 ?_
    refine w_gfR i123_6 (by decide) s_171 rfl ?_
    refine w_const i123_9 kc_0 ?_
    refine w_ial i123_10 s_172 (by decide) (by omega) hn ?_
    refine w_cgeNT i123_11 g123_11 (by omega) (by omega) (by omega) ?_
    refine w_ild2 i123_71 ?_
    refine w_ri i123_72 r123 ?_
    exact ⟨rfl, rfl⟩
  · intro i hi ih
    refine w_ild3 i123_4 ?_
    refine w_ald0 i123_5 ?_
    refine w_gfR i123_6 (by decide) s_171 rfl ?_
    refine w_const i123_9 kc_0 ?_
    refine w_ial i123_10 s_172 (by decide) (by omega) hn ?_
    refine w_cgeNF i123_11 (by omega) (by omega) (by omega) ?_
    refine w_ild2 i123_14 ?_
    refine w_ild1 i123_15 ?_
    refine w_igeF i123_16  (by decide) ?_
    refine w_ald0 i123_19 ?_
    refine w_gfR i123_20 (by decide) s_171 rfl ?_
    refine w_ild3 i123_23 ?_
    refine w_bip i123_24 kb_6 ?_
    refine w_sI2 i123_26 c115 rfl  rfl ⟨rfl, Nat.le_of_ble_eq_true rfl⟩ T_in ?_
    refine w_ial i123_29 s_172 (by decide) (by omega) rfl ?_
    refine w_ile i123_30 g123_30  (fun h30 => ?_) (fun h30 => ?_)
    · skip
      refine w_const i123_37 kc_0 ?_
      refine w_goto i123_38 g123_38 ?_
      refine w_iadd i123_63 rfl ?_
      refine w_ist2 i123_64 ?_
      refine w_inc3 i123_65 (inc1 _) ?_
      refine w_goto i123_68 g123_68 ?_
      first | (rw [sumS, ifp_t h30] at ih; exact ih) | (rw [sumS, ifp_f h30] at ih; exact ih) | (rw [sumS, ifp_f (Int32.not_le.mpr h30)] at ih; exact ih) | (rw [sumS, ifp_f (Int32.not_lt.mpr h30)] at ih; exact ih)
    · skip
      refine w_const i123_33 kc_1 ?_
      refine w_goto i123_34 g123_34 ?_
      refine w_iadd i123_63 rfl ?_
      refine w_ist2 i123_64 ?_
      refine w_inc3 i123_65 (inc1 _) ?_
      refine w_goto i123_68 g123_68 ?_
      first | (rw [sumS, ifp_t h30] at ih; exact ih) | (rw [sumS, ifp_f h30] at ih; exact ih) | (rw [sumS, ifp_f (Int32.not_le.mpr h30)] at ih; exact ih) | (rw [sumS, ifp_f (Int32.not_lt.mpr h30)] at ih; exact ih)
def badM (wax wick : Int32) : Prop := badR wax (nI 1) (nI 30) ∨ badR wick (nI 1) (nI 9)
theorem T_isMade_t {d : Nat} {D : Mm} {x y : Int32} (h : ¬ badM x y) : Ct (d + 2) 124 [.int x, .int y] D (Ex (some (.int (nI 1))) D) := by
  refine ent m124 rfl rfl (ls := [.int x, .int y]) rfl ?_
  refine w_ild0 i124_0 ?_
  refine w_const i124_1 kc_1 ?_
  refine w_bip i124_2 kb_30 ?_
  refine w_sI3 i124_4 c110 rfl  rfl ⟨rfl, Nat.le_of_ble_eq_true rfl⟩ (T_isIn_t (fun q => h (Or.inl q))) ?_
  refine w_ieqNF i124_7 (by omega) (by omega) ?_
  refine w_ild1 i124_10 ?_
  refine w_const i124_11 kc_1 ?_
  refine w_bip i124_12 kb_9 ?_
  refine w_sI3 i124_14 c110 rfl  rfl ⟨rfl, Nat.le_of_ble_eq_true rfl⟩ (T_isIn_t (fun q => h (Or.inr q))) ?_
  refine w_ieqNF i124_17 (by omega) (by omega) ?_
  refine w_const i124_20 kc_1 ?_
  refine w_goto i124_21 g124_21 ?_
  refine w_rz i124_25 r124 nar_z1 ?_
  exact ⟨rfl, rfl⟩
theorem T_isMade_f1 {d : Nat} {D : Mm} {x y : Int32} (h : badR x (nI 1) (nI 30)) : Ct (d + 2) 124 [.int x, .int y] D (Ex (some (.int (nI 0))) D) := by
  refine ent m124 rfl rfl (ls := [.int x, .int y]) rfl ?_
  refine w_ild0 i124_0 ?_
  refine w_const i124_1 kc_1 ?_
  refine w_bip i124_2 kb_30 ?_
  refine w_sI3 i124_4 c110 rfl  rfl ⟨rfl, Nat.le_of_ble_eq_true rfl⟩ (T_isIn_f h) ?_
  refine w_ieqNT i124_7 g124_7 (by omega) (by omega) ?_
  refine w_const i124_24 kc_0 ?_
  refine w_rz i124_25 r124 nar_z0 ?_
  exact ⟨rfl, rfl⟩
theorem T_isMade_f2 {d : Nat} {D : Mm} {x y : Int32} (g : ¬ badR x (nI 1) (nI 30)) (h : badR y (nI 1) (nI 9)) : Ct (d + 2) 124 [.int x, .int y] D (Ex (some (.int (nI 0))) D) := by
  refine ent m124 rfl rfl (ls := [.int x, .int y]) rfl ?_
  refine w_ild0 i124_0 ?_
  refine w_const i124_1 kc_1 ?_
  refine w_bip i124_2 kb_30 ?_
  refine w_sI3 i124_4 c110 rfl  rfl ⟨rfl, Nat.le_of_ble_eq_true rfl⟩ (T_isIn_t g) ?_
  refine w_ieqNF i124_7 (by omega) (by omega) ?_
  refine w_ild1 i124_10 ?_
  refine w_const i124_11 kc_1 ?_
  refine w_bip i124_12 kb_9 ?_
  refine w_sI3 i124_14 c110 rfl  rfl ⟨rfl, Nat.le_of_ble_eq_true rfl⟩ (T_isIn_f h) ?_
  refine w_ieqNT i124_17 g124_17 (by omega) (by omega) ?_
  refine w_const i124_24 kc_0 ?_
  refine w_rz i124_25 r124 nar_z0 ?_
  exact ⟨rfl, rfl⟩
theorem T_isMade_f {d : Nat} {D : Mm} {x y : Int32} (h : badM x y) : Ct (d + 2) 124 [.int x, .int y] D (Ex (some (.int (nI 0))) D) := by
  by_cases g : badR x (nI 1) (nI 30)
  · exact T_isMade_f1 g
  · exact T_isMade_f2 g (h.resolve_left g)
theorem T_claim_t {d : Nat} {D : Mm} {n : Nat} (hn : D 172 0 = nI n) (h12 : n ≤ 12) {j : Nat} (hj : j < 6) (ho : vOpen (D 172) j) : Ct (d + 3) 139 [.ref 171, .int (nI j)] D (Ex (some (.int (mClaim n (D 172) j))) D) := by
  refine ent m139 rfl rfl (ls := [.ref 171, .int (nI j)]) rfl ?_
  refine w_ald0 i139_0 ?_
  refine w_ild1 i139_1 ?_
  refine w_vI2 i139_2 c118 (Or.inl rfl) ⟨by decide +kernel, by decide⟩ rfl ⟨rfl, Nat.le_of_ble_eq_true rfl⟩ (T_isOpen_t hj ho) ?_
  refine w_ieqNF i139_5 (by omega) (by omega) ?_
  refine w_ald0 i139_8 ?_
  refine w_gfR i139_9 (by decide) s_171 rfl ?_
  refine w_ild1 i139_12 ?_
  refine w_const i139_13 kc_3 ?_
  refine w_sI2 i139_14 c114 rfl  rfl ⟨rfl, Nat.le_of_ble_eq_true rfl⟩ T_at ?_
  refine w_ial i139_17 s_172 (by decide) (by omega) rfl ?_
  refine w_ald0 i139_18 ?_
  refine w_ild1 i139_19 ?_
  refine w_vI2 i139_20 c122 (Or.inl rfl) ⟨by decide +kernel, by decide⟩ rfl ⟨rfl, Nat.le_of_ble_eq_true rfl⟩ (T_owed hn h12) ?_
  refine w_iadd i139_23 rfl ?_
  refine w_goto i139_24 g139_24 ?_
  refine w_ri i139_28 r139 ?_
  exact ⟨by rw [mClaim, ifp_t ho], rfl⟩
theorem T_claim_f {d : Nat} {D : Mm} {n : Nat} (hn : D 172 0 = nI n) (h12 : n ≤ 12) {j : Nat} (hj : j < 6) (ho : ¬ vOpen (D 172) j) : Ct (d + 3) 139 [.ref 171, .int (nI j)] D (Ex (some (.int (mClaim n (D 172) j))) D) := by
  refine ent m139 rfl rfl (ls := [.ref 171, .int (nI j)]) rfl ?_
  refine w_ald0 i139_0 ?_
  refine w_ild1 i139_1 ?_
  refine w_vI2 i139_2 c118 (Or.inl rfl) ⟨by decide +kernel, by decide⟩ rfl ⟨rfl, Nat.le_of_ble_eq_true rfl⟩ (T_isOpen_f hj ho) ?_
  refine w_ieqNT i139_5 g139_5 (by omega) (by omega) ?_
  refine w_const i139_27 kc_0 ?_
  refine w_ri i139_28 r139 ?_
  exact ⟨by rw [mClaim, ifp_f ho], rfl⟩
theorem T_claim {d : Nat} {D : Mm} {n : Nat} (hn : D 172 0 = nI n) (h12 : n ≤ 12) {j : Nat} (hj : j < 6) : Ct (d + 3) 139 [.ref 171, .int (nI j)] D (Ex (some (.int (mClaim n (D 172) j))) D) := (Classical.em (vOpen (D 172) j)).elim (T_claim_t hn h12 hj) (T_claim_f hn h12 hj)
theorem T_claims {d : Nat} {D : Mm} {n : Nat} (hn : D 172 0 = nI n) (h12 : n ≤ 12) : Ct (d + 4) 140 [.ref 171] D (Ex (some (.int (mClaims n (D 172)))) D) := by
  refine ent m140 rfl rfl (ls := [.ref 171, .retAddr 0, .retAddr 0]) rfl ?_
  refine w_const i140_0 kc_0 ?_
  refine w_ist1 i140_1 ?_
  refine w_const i140_2 kc_0 ?_
  refine w_ist2 i140_3 ?_
  refine down0 (n := 6) (P := fun i => Wp _ _ _ 4 [.ref 171, .int (sumN i (fun h => mClaim n (D 172) h)), .int (nI i)] [] D) ?_ ?_
  · skip
    refine w_ild2 i140_4 ?_
    refine w_bip i140_5 kb_6 ?_
    refine w_cgeNT i140_7 g140_7 (by omega) (by omega) (by omega) ?_
    refine w_ild1 i140_24 ?_
    refine w_ri i140_25 r140 ?_
    exact ⟨rfl, rfl⟩
  · intro i hi ih
    refine w_ild2 i140_4 ?_
    refine w_bip i140_5 kb_6 ?_
    refine w_cgeNF i140_7 (by omega) (by omega) (by omega) ?_
    refine w_ild1 i140_10 ?_
    refine w_ald0 i140_11 ?_
    refine w_ild2 i140_12 ?_
    refine w_vI2 i140_13 c139 (Or.inl rfl) ⟨by decide +kernel, by decide⟩ rfl ⟨rfl, Nat.le_of_ble_eq_true rfl⟩ (T_claim hn h12 (by omega)) ?_
    refine w_iadd i140_16 rfl ?_
    refine w_ist1 i140_17 ?_
    refine w_inc2 i140_18 (inc1 _) ?_
    refine w_goto i140_21 g140_21 ?_
    exact ih
theorem T_ofAll {d : Nat} {D : Mm} {n : Nat} (hn : D 172 0 = nI n) (h12 : n ≤ 12) {w : Nat} (hw : w < 8) : Ct (d + 2) 182 [.ref 171, .int (nI w)] D (Ex (some (.int (mOfAll n (D 172) w))) D) := by
  refine ent m182 rfl rfl (ls := [.ref 171, .int (nI w), .retAddr 0, .retAddr 0]) rfl ?_
  refine w_const i182_0 kc_0 ?_
  refine w_ist2 i182_1 ?_
  refine w_const i182_2 kc_0 ?_
  refine w_ist3 i182_3 ?_
  refine down0 (n := n) (P := fun i => Wp _ _ _ 4 [.ref 171, .int (nI w), .int (sumN i (fun s => D 172 (30 + 8 * s + w))), .int (nI i)] [] D) ?_ ?_
  · skip
    refine w_ild3 i182_4 ?_
    refine w_ald0 i182_5 ?_
    refine w_gfR i182_6 (by decide) s_171 rfl ?_
    refine w_const i182_9 kc_0 ?_
    refine w_ial i182_10 s_172 (by decide) (by omega) hn ?_
    refine w_cgeNT i182_11 g182_11 (by omega) (by omega) (by omega) ?_
    refine w_ild2 i182_33 ?_
    refine w_ri i182_34 r182 ?_
    exact ⟨rfl, rfl⟩
  · intro i hi ih
    refine w_ild3 i182_4 ?_
    refine w_ald0 i182_5 ?_
    refine w_gfR i182_6 (by decide) s_171 rfl ?_
    refine w_const i182_9 kc_0 ?_
    refine w_ial i182_10 s_172 (by decide) (by omega) hn ?_
    refine w_cgeNF i182_11 (by omega) (by omega) (by omega) ?_
    refine w_ild2 i182_14 ?_
    refine w_ald0 i182_15 ?_
    refine w_gfR i182_16 (by decide) s_171 rfl ?_
    refine w_ild3 i182_19 ?_
    refine w_ild1 i182_20 ?_
    refine w_sI2 i182_21 c115 rfl  rfl ⟨rfl, Nat.le_of_ble_eq_true rfl⟩ T_in ?_
    refine w_ial i182_24 s_172 (by decide) (by omega) rfl ?_
    refine w_iadd i182_25 rfl ?_
    refine w_ist2 i182_26 ?_
    refine w_inc3 i182_27 (inc1 _) ?_
    refine w_goto i182_30 g182_30 ?_
    exact ih
