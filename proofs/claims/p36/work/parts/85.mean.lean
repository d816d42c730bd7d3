/-! the two means -/
def dwB (a n : Nat) : Bool := decide (FP.ddiv (FP.i2d (nI a)) (FP.i2d (nI n)) &&& 0x7fffffffffffffff ≤ 0x7ff0000000000000)
def fwB (a n : Nat) : Bool := decide (FP.fdiv (FP.i2f (nI a)) (FP.i2f (nI n)) &&& 0x7fffffff ≤ 0x7f800000)
theorem dwB_all : ((List.range 361).all fun a => (List.range 12).all fun n => dwB a (n + 1) && fwB a (n + 1)) = true := by decide +kernel
theorem dw_no {a n : Nat} (ha : a ≤ 360) (h0 : 1 ≤ n) (hn : n ≤ 12) : vf_n64 (FP.ddiv (FP.i2d (nI a)) (FP.i2d (nI n))) ∧ vf_n32 (FP.fdiv (FP.i2f (nI a)) (FP.i2f (nI n))) := by
  have h := List.all_eq_true.mp dwB_all a (List.mem_range.mpr (by omega))
  have h2 := List.all_eq_true.mp h (n - 1) (List.mem_range.mpr (by omega))
  rw [show n - 1 + 1 = n by omega] at h2
  rw [Bool.and_eq_true] at h2
  exact ⟨by unfold vf_n64; exact of_decide_eq_true h2.1, by unfold vf_n32; exact of_decide_eq_true h2.2⟩
def mnD (n a : Nat) : UInt64 := if n = 0 then FP.dconst0 else FP.ddiv (FP.i2d (nI a)) (FP.i2d (nI n))
def mnF (n a : Nat) : UInt32 := if n = 0 then FP.fconst0 else FP.fdiv (FP.i2f (nI a)) (FP.i2f (nI n))
theorem mn_eq : ((List.range 361).all fun a => (List.range 13).all fun n => decide (Op.cmpValue (FP.dcmp (mnD n a) (mnD n a)) .l = nI 0)) = true ∧ ((List.range 13).all fun a => (List.range 13).all fun n => decide (Op.cmpValue (FP.fcmp (mnF n a) (mnF n a)) .l = nI 0)) = true := by decide +kernel
theorem mnD_eq {a n : Nat} (ha : a ≤ 360) (hn : n ≤ 12) : Op.cmpValue (FP.dcmp (mnD n a) (mnD n a)) .l = nI 0 := of_decide_eq_true (List.all_eq_true.mp (List.all_eq_true.mp mn_eq.1 a (List.mem_range.mpr (by omega))) n (List.mem_range.mpr (by omega)))
theorem mnF_eq {a n : Nat} (ha : a ≤ 12) (hn : n ≤ 12) : Op.cmpValue (FP.fcmp (mnF n a) (mnF n a)) .l = nI 0 := of_decide_eq_true (List.all_eq_true.mp (List.all_eq_true.mp mn_eq.2 a (List.mem_range.mpr (by omega))) n (List.mem_range.mpr (by omega)))
set_option maxHeartbeats 100000 in
theorem K_mean {d : Nat} {D : Mm} {n a : Nat} {V : Nat → Int32} (R : Rel D n V) (hle : n ≤ 12) (ha : a ≤ 360) (e : mOfAll n V 1 = nI a) : Ct (d + 2) 120 [.ref 0] D (Ex (some (.double (mnD n a))) D) := by
  refine ent m120 rfl rfl (ls := [.ref 0, .retAddr 0]) rfl ?_
  refine w_ald0 i120_0 ?_
  refine w_gfR i120_1 (by decide) s_0 rfl ?_
  refine w_gfR i120_4 (by decide) s_1 rfl ?_
  refine w_gfI i120_7 (by decide) s_2 rfl R.ct ?_
  refine w_ist1 i120_10 ?_
  refine w_ild1 i120_11 ?_
  refine w_ineN i120_12 g120_12 (by omega) (fun h12 => ?_) (fun h12 => ?_)
  · skip
    refine w_ald0 i120_19 ?_
    refine w_gfR i120_20 (by decide) s_0 rfl ?_
    refine w_gfR i120_23 (by decide) s_1 rfl ?_
    refine w_VD1 i120_26 c50 (Or.inl rfl) (Or.inl ⟨by decide +kernel, by decide⟩) (by repeat (first | exact nvL_nil | refine nvL_cons (by first | exact True.intro | exact nvSt (by decide) | exact nvK (by omega) (by omega)) ?_)) ⟨(by repeat (first | exact nvL_nil | refine nvL_cons (by first | exact True.intro | exact nvSt (by decide) | exact nvK (by omega) (by omega)) ?_)), rfl, Nat.le_of_ble_eq_true rfl⟩ (Ex_go (e ▸ K_allWax R hle) ?_)
    refine w_i2d i120_29 ?_
    refine w_ild1 i120_30 ?_
    refine w_i2d i120_31 ?_
    refine w_ddiv i120_32 (dw_no ha (by omega) hle).1 ?_
    refine w_rd i120_33 rfl ?_
    refine ⟨?_, rfl⟩
    unfold mnD
    first | rw [if_pos (by omega)] | rw [if_neg (by omega)]
  · skip
    refine w_dconst i120_15 ?_
    refine w_goto i120_16 g120_16 ?_
    refine w_rd i120_33 rfl ?_
    refine ⟨?_, rfl⟩
    unfold mnD
    first | rw [if_pos (by omega)] | rw [if_neg (by omega)]
set_option maxHeartbeats 100000 in
theorem K_share {d : Nat} {D : Mm} {n a : Nat} {V : Nat → Int32} (R : Rel D n V) (hle : n ≤ 12) (hb : byV n V) (ha : a ≤ 12) (e : mWrits n V = nI a) : Ct (d + 2) 121 [.ref 0] D (Ex (some (.float (mnF n a))) D) := by
  refine ent m121 rfl rfl (ls := [.ref 0, .retAddr 0]) rfl ?_
  refine w_ald0 i121_0 ?_
  refine w_gfR i121_1 (by decide) s_0 rfl ?_
  refine w_gfR i121_4 (by decide) s_1 rfl ?_
  refine w_gfI i121_7 (by decide) s_2 rfl R.ct ?_
  refine w_ist1 i121_10 ?_
  refine w_ild1 i121_11 ?_
  refine w_ineN i121_12 g121_12 (by omega) (fun h12 => ?_) (fun h12 => ?_)
  · skip
    refine w_ald0 i121_19 ?_
    refine w_gfR i121_20 (by decide) s_0 rfl ?_
    refine w_gfR i121_23 (by decide) s_1 rfl ?_
    refine w_VD1 i121_26 c49 (Or.inl rfl) (Or.inl ⟨by decide +kernel, by decide⟩) (by repeat (first | exact nvL_nil | refine nvL_cons (by first | exact True.intro | exact nvSt (by decide) | exact nvK (by omega) (by omega)) ?_)) ⟨(by repeat (first | exact nvL_nil | refine nvL_cons (by first | exact True.intro | exact nvSt (by decide) | exact nvK (by omega) (by omega)) ?_)), rfl, Nat.le_of_ble_eq_true rfl⟩ (Ex_go (e ▸ K_allWrits R hle hb) ?_)
    refine w_i2f i121_29 ?_
    refine w_ild1 i121_30 ?_
    refine w_i2f i121_31 ?_
    refine w_fdiv i121_32 (dw_no (by omega) (by omega) hle).2 ?_
    refine w_rf i121_33 rfl ?_
    refine ⟨?_, rfl⟩
    unfold mnF
    first | rw [if_pos (by omega)] | rw [if_neg (by omega)]
  · skip
    refine w_fconst i121_15 ?_
    refine w_goto i121_16 g121_16 ?_
    refine w_rf i121_33 rfl ?_
    refine ⟨?_, rfl⟩
    unfold mnF
    first | rw [if_pos (by omega)] | rw [if_neg (by omega)]
