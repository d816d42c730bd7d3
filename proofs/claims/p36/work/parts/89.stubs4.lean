/-! the law's stubs: the lines -/
set_option maxHeartbeats 1000000 in
theorem su_e {d : Nat} {D : Mm} {Q : Option Value → Mm → Prop} {n B s r ar sd nd : Nat} {V : Nat → Int32} {l3 l5 l6 l7 x : Int32} {ln : List Nat} (R : Rel D n V) (H : IV n V B) (hs : s < n) (S : SbR D 170 ln) (hda : dv D ar) (xd : TxD D sd nd (tlV V s)) (hdd : dyn D sd 9) (hnd : dyn D nd 22) (hu0 : nxt D ≤ usd D) (hu1 : usd D ≤ 800000) (hx : 0 ≤ x) (hx0 : x = 0 → l3 ≤ nI r) (hk : ∀ D2, FrT D D2 → SbR D2 170 (tlV V s) → nxt D2 ≤ usd D2 → usd D2 ≤ usd D + 143 → Wp (d + 10) 113 Q 15 [.ref 0, .int (nI n), .ref ar, .int (nI r), .int (nI (s + 1)), .int l5, .int l6, .int l7, .ref sd, .int (nI 1), .int (nI r), .int x] [] D2) : Wp (d + 10) 113 Q 447 [.ref 0, .int (nI n), .ref ar, .int l3, .int (nI s), .int l5, .int l6, .int l7, .ref sd, .int (nI 1), .int (nI r), .int x] [] D := by
  have hBE := DBv
  have hds := hdd.1
  refine w_ild9 i113_447 ?_
  refine w_ieqNF i113_449 (by omega) (by omega) ?_
  refine w_ild11 i113_452 ?_
  refine w_iltF i113_454 hx ?_
  refine w_ild11 i113_457 ?_
  refine w_ine i113_459 g113_459  (fun h459 => ?_) (fun h459 => ?_)
  · skip
    refine w_ald0 i113_468 ?_
    refine w_ald0 i113_469 ?_
    refine w_ild4 i113_470 ?_
    refine w_VD2 i113_472 c76 (Or.inl rfl) (Or.inl ⟨by decide +kernel, by decide⟩) (by repeat (first | exact nvL_nil | refine nvL_cons (by first | exact True.intro | exact nvSt (by decide) | exact nvD hda | exact nvD hds | exact nvD (dv_le hda fa.t.2) | exact nvD (dv_le hds fa.t.2) | exact nvD (dv_le hda f2.2) | exact nvD (dv_le hds f2.2) | exact nvD hs2 | exact nvK (by omega) (by omega)) ?_)) ⟨(by repeat (first | exact nvL_nil | refine nvL_cons (by first | exact True.intro | exact nvSt (by decide) | exact nvD hda | exact nvD hds | exact nvD (dv_le hda fa.t.2) | exact nvD (dv_le hds fa.t.2) | exact nvD (dv_le hda f2.2) | exact nvD (dv_le hds f2.2) | exact nvD hs2 | exact nvK (by omega) (by omega)) ?_)), rfl, Nat.le_of_ble_eq_true rfl⟩ ?_
    refine K_tellV R H hs S (fun Da sa fa => ?_)
    have ena := fa.nx
    refine w_SD2 i113_475 c110 rfl (by repeat (first | exact nvL_nil | refine nvL_cons (by first | exact True.intro | exact nvSt (by decide) | exact nvD hda | exact nvD hds | exact nvD (dv_le hda fa.t.2) | exact nvD (dv_le hds fa.t.2) | exact nvD (dv_le hda f2.2) | exact nvD (dv_le hds f2.2) | exact nvD hs2 | exact nvK (by omega) (by omega)) ?_)) ⟨(by repeat (first | exact nvL_nil | refine nvL_cons (by first | exact True.intro | exact nvSt (by decide) | exact nvD hda | exact nvD hds | exact nvD (dv_le hda fa.t.2) | exact nvD (dv_le hds fa.t.2) | exact nvD (dv_le hda f2.2) | exact nvD (dv_le hds f2.2) | exact nvD hs2 | exact nvK (by omega) (by omega)) ?_)), rfl, Nat.le_of_ble_eq_true rfl⟩ ?_
    refine K_line sa (by have := tlV_len H hs; omega) (by rw [ena.1, ena.2]; exact hu0) (by rw [ena.2]; omega) (fun Db s2 nb x2 hd2 hg fb h3 h4 => ?_)
    have hlt := tlV_len H hs
    rw [ena.1] at hg
    rw [ena.2] at h4
    have hs2 := hd2.1
    have f2 : FrT D Db := fa.t.tr fb.t
    have xd2 : TxD Db sd nd (tlV V s) := by
      have hg1 := dyn_ge hdd
      have hg2 := dyn_ge hnd
      exact xd.fr f2.2 (Or.inr (f2.1 sd hdd.1.2 (by omega) (by omega) (by omega))) (Or.inr (f2.1 nd hnd.1.2 (by omega) (by omega) (by omega)))
    have hdd2 : dyn Db sd 9 := dyn_fr hdd f2.2 (f2.1 sd hdd.1.2 (by have := dyn_ge hdd; omega) (by have := dyn_ge hdd; omega) (by have := dyn_ge hdd; omega))
    have hne : s2 ≠ sd := by have := hdd.1.2; omega
    refine w_ald8 i113_478 ?_
    refine w_VD2 i113_480 c142 (Or.inl rfl) (x2.rec (by decide +kernel)) (by repeat (first | exact nvL_nil | refine nvL_cons (by first | exact True.intro | exact nvSt (by decide) | exact nvD hda | exact nvD hds | exact nvD (dv_le hda fa.t.2) | exact nvD (dv_le hds fa.t.2) | exact nvD (dv_le hda f2.2) | exact nvD (dv_le hds f2.2) | exact nvD hs2 | exact nvK (by omega) (by omega)) ?_)) ⟨(by repeat (first | exact nvL_nil | refine nvL_cons (by first | exact True.intro | exact nvSt (by decide) | exact nvD hda | exact nvD hds | exact nvD (dv_le hda fa.t.2) | exact nvD (dv_le hds fa.t.2) | exact nvD (dv_le hda f2.2) | exact nvD (dv_le hds f2.2) | exact nvD hs2 | exact nvK (by omega) (by omega)) ?_)), rfl, Nat.le_of_ble_eq_true rfl⟩ (Ex_go (K_eqD x2 xd2 hd2 hdd2 hne) ?_)
    refine w_ineNT i113_483 g113_483 (by omega) (by omega) ?_
    refine w_ild10 i113_488 ?_
    refine w_ist3 i113_490 ?_
    refine w_inc4 i113_491 (inc1 _) ?_
    refine w_goto i113_494 g113_494 ?_
    exact hk Db f2 (fb.sb (Or.inr rfl) sa) h3 (by omega)
  · skip
    refine w_ild10 i113_462 ?_
    refine w_ild3 i113_464 ?_
    refine w_cltF i113_465 (hx0 (by assumption)) ?_
    refine w_ald0 i113_468 ?_
    refine w_ald0 i113_469 ?_
    refine w_ild4 i113_470 ?_
    refine w_VD2 i113_472 c76 (Or.inl rfl) (Or.inl ⟨by decide +kernel, by decide⟩) (by repeat (first | exact nvL_nil | refine nvL_cons (by first | exact True.intro | exact nvSt (by decide) | exact nvD hda | exact nvD hds | exact nvD (dv_le hda fa.t.2) | exact nvD (dv_le hds fa.t.2) | exact nvD (dv_le hda f2.2) | exact nvD (dv_le hds f2.2) | exact nvD hs2 | exact nvK (by omega) (by omega)) ?_)) ⟨(by repeat (first | exact nvL_nil | refine nvL_cons (by first | exact True.intro | exact nvSt (by decide) | exact nvD hda | exact nvD hds | exact nvD (dv_le hda fa.t.2) | exact nvD (dv_le hds fa.t.2) | exact nvD (dv_le hda f2.2) | exact nvD (dv_le hds f2.2) | exact nvD hs2 | exact nvK (by omega) (by omega)) ?_)), rfl, Nat.le_of_ble_eq_true rfl⟩ ?_
    refine K_tellV R H hs S (fun Da sa fa => ?_)
    have ena := fa.nx
    refine w_SD2 i113_475 c110 rfl (by repeat (first | exact nvL_nil | refine nvL_cons (by first | exact True.intro | exact nvSt (by decide) | exact nvD hda | exact nvD hds | exact nvD (dv_le hda fa.t.2) | exact nvD (dv_le hds fa.t.2) | exact nvD (dv_le hda f2.2) | exact nvD (dv_le hds f2.2) | exact nvD hs2 | exact nvK (by omega) (by omega)) ?_)) ⟨(by repeat (first | exact nvL_nil | refine nvL_cons (by first | exact True.intro | exact nvSt (by decide) | exact nvD hda | exact nvD hds | exact nvD (dv_le hda fa.t.2) | exact nvD (dv_le hds fa.t.2) | exact nvD (dv_le hda f2.2) | exact nvD (dv_le hds f2.2) | exact nvD hs2 | exact nvK (by omega) (by omega)) ?_)), rfl, Nat.le_of_ble_eq_true rfl⟩ ?_
    refine K_line sa (by have := tlV_len H hs; omega) (by rw [ena.1, ena.2]; exact hu0) (by rw [ena.2]; omega) (fun Db s2 nb x2 hd2 hg fb h3 h4 => ?_)
    have hlt := tlV_len H hs
    rw [ena.1] at hg
    rw [ena.2] at h4
    have hs2 := hd2.1
    have f2 : FrT D Db := fa.t.tr fb.t
    have xd2 : TxD Db sd nd (tlV V s) := by
      have hg1 := dyn_ge hdd
      have hg2 := dyn_ge hnd
      exact xd.fr f2.2 (Or.inr (f2.1 sd hdd.1.2 (by omega) (by omega) (by omega))) (Or.inr (f2.1 nd hnd.1.2 (by omega) (by omega) (by omega)))
    have hdd2 : dyn Db sd 9 := dyn_fr hdd f2.2 (f2.1 sd hdd.1.2 (by have := dyn_ge hdd; omega) (by have := dyn_ge hdd; omega) (by have := dyn_ge hdd; omega))
    have hne : s2 ≠ sd := by have := hdd.1.2; omega
    refine w_ald8 i113_478 ?_
    refine w_VD2 i113_480 c142 (Or.inl rfl) (x2.rec (by decide +kernel)) (by repeat (first | exact nvL_nil | refine nvL_cons (by first | exact True.intro | exact nvSt (by decide) | exact nvD hda | exact nvD hds | exact nvD (dv_le hda fa.t.2) | exact nvD (dv_le hds fa.t.2) | exact nvD (dv_le hda f2.2) | exact nvD (dv_le hds f2.2) | exact nvD hs2 | exact nvK (by omega) (by omega)) ?_)) ⟨(by repeat (first | exact nvL_nil | refine nvL_cons (by first | exact True.intro | exact nvSt (by decide) | exact nvD hda | exact nvD hds | exact nvD (dv_le hda fa.t.2) | exact nvD (dv_le hds fa.t.2) | exact nvD (dv_le hda f2.2) | exact nvD (dv_le hds f2.2) | exact nvD hs2 | exact nvK (by omega) (by omega)) ?_)), rfl, Nat.le_of_ble_eq_true rfl⟩ (Ex_go (K_eqD x2 xd2 hd2 hdd2 hne) ?_)
    refine w_ineNT i113_483 g113_483 (by omega) (by omega) ?_
    refine w_ild10 i113_488 ?_
    refine w_ist3 i113_490 ?_
    refine w_inc4 i113_491 (inc1 _) ?_
    refine w_goto i113_494 g113_494 ?_
    exact hk Db f2 (fb.sb (Or.inr rfl) sa) h3 (by omega)
