/-! the stock: debts, a writ, pools, a burning -/
theorem nbS {n s : Nat} (h : s < n) (hn : n ≤ 12) : ¬ badS n (nI s) := fun q => q.elim (fun q => by have := (nlt (a := s) (b := 0) (by omega) (by omega)).mp q; omega) (fun q => by have := (nle (a := n) (b := s) (by omega) (by omega)).mp q; omega)
theorem nbH {j : Nat} (hj : j < 6) : ¬ badH (nI j) := nI_inR (a := 0) (b := 5) (Nat.zero_le _) (by omega) (by decide)
def wO (V : Nat → Int32) (s j y : Nat) : Nat → Int32 := vup (vup V (30 + 8 * s + 3) (nI (j + 1))) (30 + 8 * s + 4) (nI y)
theorem st_O {n s j y : Nat} {V : Nat → Int32} (hs : s < n) (hn : n ≤ 12) (hj : j < 6) (hy : 1 ≤ y ∧ y ≤ 90) (ho : V (6 + 4 * j + 0) = nI 1) (hh : ¬ V (30 + 8 * s + 0) = nI j) (h3 : V (30 + 8 * s + 3) ≤ 0) : oO n V (nI s) (nI j) (nI y) = .inr (mOwed n (wO V s j y) (nI j), wO V s j y) := by
  unfold oO
  rw [ifp_f (fun q => q.elim (nbS hs hn) (nbH hj)), cl_nI (by omega), cl_nI (by omega)]
  unfold vOwes
  rw [ifp_f (nI_inR (a := 1) (b := 90) hy.1 hy.2 (by decide)), ifp_t (show vOpen V j from ho), ifp_f hh, ifp_t h3]
  rfl
def wW (V : Nat → Int32) (s j y : Nat) : Nat → Int32 := vup (vup V (30 + 8 * s + 6) (nI (j + 1))) (30 + 8 * s + 5) (nI y)
theorem st_W {n s j y : Nat} {V : Nat → Int32} (hs : s < n) (hn : n ≤ 12) (hj : j < 6) (hy : 1 ≤ y ∧ y ≤ 24) (ho : V (6 + 4 * j + 0) = nI 1) (hh : ¬ V (30 + 8 * s + 0) = nI j) (h6 : V (30 + 8 * s + 6) ≤ 0) (h2 : ¬ mWritsH n V (nI j) = nI 2) : oW n V (nI j) (nI s) (nI y) = .inr (mWrits n (wW V s j y), wW V s j y) := by
  unfold oW
  rw [ifp_f (fun q => q.elim (nbH hj) (nbS hs hn)), cl_nI (by omega), cl_nI (by omega)]
  unfold vSnuffs
  rw [ifp_f (nI_inR (a := 1) (b := 24) hy.1 hy.2 (by decide)), ifp_t (show vOpen V j from ho), ifp_f hh, ifp_t h6, ifp_f h2]
  rfl
def wP (V : Nat → Int32) (s o y : Nat) : Nat → Int32 := vup (vup V (6 + 4 * o + 3) (V (6 + 4 * o + 3) + nI y)) (30 + 8 * s + 1) (V (30 + 8 * s + 1) - nI y)
theorem st_P {n s o y : Nat} {V : Nat → Int32} (hs : s < n) (hn : n ≤ 12) (ho : o < 6) (hy : 1 ≤ y ∧ y ≤ 30) (h0 : V (30 + 8 * s + 0) = nI o) (hl : nI y ≤ V (30 + 8 * s + 1)) (hne : ¬ V (30 + 8 * s + 1) = nI y) : oP n V (nI s) (nI y) = .inr (mPooled (wP V s o y), wP V s o y) := by
  unfold oP
  rw [ifp_f (nbS hs hn), cl_nI (by omega), h0, cl_nI (by omega)]
  unfold vPools
  rw [ifp_f (nI_inR (a := 1) (b := 30) hy.1 hy.2 (by decide)), ifp_t hl, ifp_f hne]
  rfl
