/-! the stock: its orders, one by one -/
theorem ifp_dec {α : Type} {p : Prop} [Decidable p] {a b : α} : ifp p a b = if p then a else b := by
  by_cases h : p
  · rw [ifp_t h, if_pos h]
  · rw [ifp_f h, if_neg h]
theorem mTray_dec {n : Nat} {V : Nat → Int32} {h : Int32} : mTray n V h = sumN n (fun s => if V (30 + 8 * s + 0) = h then V (30 + 8 * s + 1) + nI 1 else nI 0) := by
  unfold mTray
  congr 1
  funext s
  exact ifp_dec
def wS (V : Nat → Int32) (n j w k : Nat) : Nat → Int32 := vMk (vup V 1 (V 1 + nI w)) n (nI j) (nI w) (nI k)
theorem st_S {n j w k : Nat} {V : Nat → Int32} (hj : j < 6) (hn : n < 12) (hw : 1 ≤ w ∧ w ≤ 30) (hk : 1 ≤ k ∧ k ≤ 9) (ho : V (6 + 4 * j + 0) = nI 1) (ht : sumN n (fun s => if (vup V 1 (V 1 + nI w)) (30 + 8 * s + 0) = nI j then (vup V 1 (V 1 + nI w)) (30 + 8 * s + 1) + nI 1 else nI 0) + nI w + nI 1 ≤ nI 60) : oS n V (nI j) (nI w) (nI k) = .inr (nI n, wS V n j w k) := by
  unfold oS
  rw [ifp_f (show ¬ badH (nI j) from nI_inR (a := 0) (b := 5) (Nat.zero_le _) (by omega) (by decide)), cl_nI (by omega)]
  unfold vComes
  rw [ifp_f (show ¬ badM (nI w) (nI k) from fun q => q.elim (nI_inR (a := 1) (b := 30) hw.1 hw.2 (by decide)) (nI_inR (a := 1) (b := 9) hk.1 hk.2 (by decide))), ifp_t (show vOpen V j from ho)]
  unfold vMakes
  rw [ifp_t (by rw [mTray_dec]; exact ht), ifp_f (by omega)]
  rfl
def sW1 : Nat → Int32 := wS (vF 6) 0 0 20 3
def sW2 : Nat → Int32 := wS sW1 1 0 9 2
def sW3 : Nat → Int32 := wS sW2 2 1 30 5
def sW4 : Nat → Int32 := wS sW3 3 2 12 1
def sW5 : Nat → Int32 := wS sW4 4 1 6 9
theorem sk_1 : oS 0 (vF 6) (nI 0) (nI 20) (nI 3) = .inr (nI 0, sW1) := st_S (by decide) (by decide) (by decide) (by decide) (by decide +kernel) (by decide +kernel)
theorem sk_2 : oS 1 sW1 (nI 0) (nI 9) (nI 2) = .inr (nI 1, sW2) := st_S (by decide) (by decide) (by decide) (by decide) (by decide +kernel) (by decide +kernel)
theorem sk_3 : oS 2 sW2 (nI 1) (nI 30) (nI 5) = .inr (nI 2, sW3) := st_S (by decide) (by decide) (by decide) (by decide) (by decide +kernel) (by decide +kernel)
theorem sk_4 : oS 3 sW3 (nI 2) (nI 12) (nI 1) = .inr (nI 3, sW4) := st_S (by decide) (by decide) (by decide) (by decide) (by decide +kernel) (by decide +kernel)
theorem sk_5 : oS 4 sW4 (nI 1) (nI 6) (nI 9) = .inr (nI 4, sW5) := st_S (by decide) (by decide) (by decide) (by decide) (by decide +kernel) (by decide +kernel)
