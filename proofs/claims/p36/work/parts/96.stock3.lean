/-! the stock: the state that it leaves -/
def tW1 : Nat → Int32 := wO sW5 0 1 40
def tW2 : Nat → Int32 := wO tW1 2 0 7
def tW3 : Nat → Int32 := wO tW2 3 1 5
def tW4 : Nat → Int32 := wW tW3 1 2 4
def tW5 : Nat → Int32 := wP tW4 2 1 11
def tW6 : Nat → Int32 := wP tW5 3 2 2
theorem tk_1 : oO 5 sW5 (nI 0) (nI 1) (nI 40) = .inr (mOwed 5 tW1 (nI 1), tW1) := st_O (by decide) (by decide) (by decide) (by decide) (by decide +kernel) (by decide +kernel) (by decide +kernel)
theorem tk_2 : oO 5 tW1 (nI 2) (nI 0) (nI 7) = .inr (mOwed 5 tW2 (nI 0), tW2) := st_O (by decide) (by decide) (by decide) (by decide) (by decide +kernel) (by decide +kernel) (by decide +kernel)
theorem tk_3 : oO 5 tW2 (nI 3) (nI 1) (nI 5) = .inr (mOwed 5 tW3 (nI 1), tW3) := st_O (by decide) (by decide) (by decide) (by decide) (by decide +kernel) (by decide +kernel) (by decide +kernel)
theorem mWH_dec {n : Nat} {V : Nat → Int32} {h : Int32} : mWritsH n V h = sumN n (fun s => if V (30 + 8 * s + 6) = h + nI 1 then nI 1 else nI 0) := by
  unfold mWritsH
  congr 1
  funext s
  exact ifp_dec
theorem tk_4 : oW 5 tW3 (nI 2) (nI 1) (nI 4) = .inr (mWrits 5 tW4, tW4) := st_W (by decide) (by decide) (by decide) (by decide) (by decide +kernel) (by decide +kernel) (by decide +kernel) (by rw [mWH_dec]; decide +kernel)
theorem tk_5 : oP 5 tW4 (nI 2) (nI 11) = .inr (mPooled tW5, tW5) := st_P (by decide) (by decide) (by decide) (by decide) (by decide +kernel) (by decide +kernel) (by decide +kernel)
theorem tk_6 : oP 5 tW5 (nI 3) (nI 2) = .inr (mPooled tW6, tW6) := st_P (by decide) (by decide) (by decide) (by decide) (by decide +kernel) (by decide +kernel) (by decide +kernel)
def tW7 : Nat → Int32 := vB6 tW6 0 (nI 4) (nI 12) (nI 12)
theorem tk_7 : oB 5 tW6 (nI 0) (nI 4) = .inr (nI 12, tW7) := by
  unfold oB
  rw [ifp_f (nbS (by decide) (by decide)), cl_nI (by decide)]
  unfold vBurns
  rw [ifp_f (nI_inR (a := 1) (b := 30) (by decide) (by decide) (by decide)), ifp_t (by decide +kernel), ifp_t (by decide +kernel), ifp_f (by decide +kernel), show nI 4 * tW6 (30 + 8 * 0 + 2) = nI 12 by decide +kernel]
  unfold vBurn1
  rw [ifp_f (by decide +kernel)]
  unfold vBurn2
  rw [ifp_f (by decide +kernel)]
  rfl
