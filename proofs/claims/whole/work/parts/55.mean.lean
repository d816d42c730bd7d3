/-! the two means, their numbers -/
theorem sN6_bnd {c : Nat → Nat} {k : Nat} : ∀ n, (∀ i, i < n → c i ≤ k) → sN6 n c ≤ k * n := by
  intro n
  induction n with
  | zero => intro _; exact Nat.zero_le _
  | succ n ih =>
    intro h
    rw [sN6, Nat.mul_succ]
    have h1 := ih (fun i hi => h i (by omega))
    have h2 := h n (by omega)
    omega
theorem ofAll_bd {n B : Nat} {V : Nat → Int32} (H : IV n V B) : ∃ a, a ≤ 360 ∧ mOfAll n V 1 = nI a := by
  refine ⟨sN6 n (wxc V), ?_, ofAll_nat H⟩
  have h1 := sN6_bnd (c := wxc V) (k := 30) n (fun s hs => by
    obtain ⟨o, w, k, t, u, z, b, v0, v1, v2, v3, v4, v5, v6, l0, l1, l2, l3, l4, l5, l6, l7, l8⟩ := H.2.2.1 s hs
    unfold wxc
    rw [v1, cl_nI (by omega)]
    exact l1)
  have h2 := H.2.1
  omega
noncomputable def wrc1 (V : Nat → Int32) (s : Nat) : Nat := ifp (V (30 + 8 * s + 6) ≤ 0) 0 1
theorem wrc1_le {V : Nat → Int32} {s : Nat} : wrc1 V s ≤ 1 := by
  unfold wrc1
  rcases ifp_or (p := V (30 + 8 * s + 6) ≤ 0) (a := (0 : Nat)) (b := 1) with ⟨_, e⟩ | ⟨_, e⟩
  · rw [e]; omega
  · rw [e]; omega
theorem writs_bd {n B : Nat} {V : Nat → Int32} (H : IV n V B) : ∃ a, a ≤ 360 ∧ mWrits n V = nI a := by
  have e : mWrits n V = nI (sN6 n (wrc1 V)) := by
    unfold mWrits
    refine sumN_nI n (fun s _ => ?_)
    unfold wrc1
    by_cases h : V (30 + 8 * s + 6) ≤ 0
    · rw [ifp_t h, ifp_t h]
    · rw [ifp_f h, ifp_f h]
  refine ⟨_, ?_, e⟩
  have h1 := sN6_bnd (c := wrc1 V) (k := 1) n (fun s _ => wrc1_le)
  have h2 := H.2.1
  omega
def dvB (a n : Nat) : Bool := isNaN64 (FP.ddiv (FP.i2d (nI a)) (FP.i2d (nI n)))
def fvB (a n : Nat) : Bool := isNaN32 (FP.fdiv (FP.i2f (nI a)) (FP.i2f (nI n)))
theorem dvB_all : ((List.range 361).all fun a => (List.range 12).all fun n => !(dvB a (n + 1)) && !(fvB a (n + 1))) = true := by decide +kernel
theorem dv_no {a n : Nat} (ha : a ≤ 360) (h0 : 1 ≤ n) (hn : n ≤ 12) : dvB a n = false ∧ fvB a n = false := by
  have h := List.all_eq_true.mp dvB_all a (List.mem_range.mpr (by omega))
  have h2 := List.all_eq_true.mp h (n - 1) (List.mem_range.mpr (by omega))
  rw [show n - 1 + 1 = n by omega] at h2
  rw [Bool.and_eq_true] at h2
  exact ⟨by simpa using h2.1, by simpa using h2.2⟩
def dwB (a n : Nat) : Bool := decide (FP.ddiv (FP.i2d (nI a)) (FP.i2d (nI n)) &&& 0x7fffffffffffffff ≤ 0x7ff0000000000000)
def fwB (a n : Nat) : Bool := decide (FP.fdiv (FP.i2f (nI a)) (FP.i2f (nI n)) &&& 0x7fffffff ≤ 0x7f800000)
theorem dwB_all : ((List.range 361).all fun a => (List.range 12).all fun n => dwB a (n + 1) && fwB a (n + 1)) = true := by decide +kernel
theorem dw_no {a n : Nat} (ha : a ≤ 360) (h0 : 1 ≤ n) (hn : n ≤ 12) : vf_n64 (FP.ddiv (FP.i2d (nI a)) (FP.i2d (nI n))) ∧ vf_n32 (FP.fdiv (FP.i2f (nI a)) (FP.i2f (nI n))) := by
  have h := List.all_eq_true.mp dwB_all a (List.mem_range.mpr (by omega))
  have h2 := List.all_eq_true.mp h (n - 1) (List.mem_range.mpr (by omega))
  rw [show n - 1 + 1 = n by omega] at h2
  rw [Bool.and_eq_true] at h2
  exact ⟨by unfold vf_n64; exact of_decide_eq_true h2.1, by unfold vf_n32; exact of_decide_eq_true h2.2⟩
def mnD (n a : Nat) : UInt64 := if n = 0 then FP.dconst0 else FP.ddiv (FP.i2d (nI a)) (FP.i2d (nI n))
def mnF (n a : Nat) : UInt32 := if n = 0 then FP.fconst0 else FP.fdiv (FP.i2f (nI a)) (FP.i2f (nI n))
