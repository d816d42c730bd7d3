/-! the law's stubs: their end -/
set_option maxHeartbeats 1000000 in
theorem su_x1 {d : Nat} {D : Mm} {Q : Option Value → Mm → Prop} {n B A0 A1 A2 ar : Nat} {V : Nat → Int32} {l3 : Int32} {l5 l6 l7 l8 l9 l10 l11 : Value} (n5 : nvV D l5) (n6 : nvV D l6) (n7 : nvV D l7) (n8 : nvV D l8) (n9 : nvV D l9) (n10 : nvV D l10) (n11 : nvV D l11) (R : Rel D n V) (H : IV n V B) (hby : byV n V) (ha : dyn D ar 20) (hc : cap D ar = 3) (hn : n = 0) (e0 : D ar 0 = nI A0) (e1 : D ar 1 = nI A1) (e2 : D ar 2 = nI A2) (hA0 : A0 ≤ 360) (hA2 : A2 ≤ 12) (hA1 : A1 ≤ 2000) (w0 : mOfAll n V 1 = nI A0) (w1 : mOfAll n V 4 = nI A1) (w2 : mWrits n V = nI A2) (hk : Q (some (.int (nI 1))) D) : Wp (d + 10) 113 Q 15 [.ref 0, .int (nI n), .ref ar, .int l3, .int (nI n), l5, l6, l7, l8, l9, l10, l11] [] D := by
  have hda := ha.1
  have hn12 := H.2.1
  refine w_ild4 i113_15 ?_
  refine w_ild1 i113_17 ?_
  refine w_cgeNT i113_18 g113_18 (by omega) (by omega) (Nat.le_refl _) ?_
  refine w_ild1 i113_497 ?_
  refine w_ineNF i113_498 (by omega) (by omega) ?_
  refine w_dconst i113_501 ?_
  rw [show FP.dconst0 = mnD n A0 from (if_pos hn).symm]
  refine w_goto i113_502 g113_502 ?_
  refine w_dst4 i113_512 ?_
  refine w_ild1 i113_514 ?_
  refine w_ineNF i113_515 (by omega) (by omega) ?_
  refine w_fconst i113_518 ?_
  rw [show FP.fconst0 = mnF n A2 from (if_pos hn).symm]
  refine w_goto i113_519 g113_519 ?_
  refine w_fst6 i113_529 ?_
  refine w_ald0 i113_531 ?_
  refine w_const i113_532 kc_2 ?_
  refine w_VD2 i113_533 c80 (Or.inl rfl) (Or.inl ⟨by decide +kernel, by decide⟩) (by repeat (first | exact nvL_nil | refine nvL_cons (by first | exact True.intro | exact nvSt (by decide) | exact nvD hda | exact n8 | exact n9 | exact n10 | exact n11 | exact n5 | exact n6 | exact n7 | exact nvK (by omega) (by omega)) ?_)) ⟨(by repeat (first | exact nvL_nil | refine nvL_cons (by first | exact True.intro | exact nvSt (by decide) | exact nvD hda | exact n8 | exact n9 | exact n10 | exact n11 | exact n5 | exact n6 | exact n7 | exact nvK (by omega) (by omega)) ?_)), rfl, Nat.le_of_ble_eq_true rfl⟩ (Ex_go (K_acc2 R H.2.1 H.op hby) ?_)
  rw [w2]
  refine w_ald2 i113_536 ?_
  refine w_const i113_537 kc_2 ?_
  refine w_ialD i113_538 ha (by rw [hc]; decide) (by rw [hc]; decide) e2 ?_
  refine w_cneNF i113_539 (by omega) (by omega) rfl ?_
  refine w_ald0 i113_542 ?_
  refine w_const i113_543 kc_3 ?_
  refine w_VD2 i113_544 c80 (Or.inl rfl) (Or.inl ⟨by decide +kernel, by decide⟩) (by repeat (first | exact nvL_nil | refine nvL_cons (by first | exact True.intro | exact nvSt (by decide) | exact nvD hda | exact n8 | exact n9 | exact n10 | exact n11 | exact n5 | exact n6 | exact n7 | exact nvK (by omega) (by omega)) ?_)) ⟨(by repeat (first | exact nvL_nil | refine nvL_cons (by first | exact True.intro | exact nvSt (by decide) | exact nvD hda | exact n8 | exact n9 | exact n10 | exact n11 | exact n5 | exact n6 | exact n7 | exact nvK (by omega) (by omega)) ?_)), rfl, Nat.le_of_ble_eq_true rfl⟩ (Ex_go (K_acc3 R H.2.1 H.op hby) ?_)
  rw [w0]
  refine w_ald2 i113_547 ?_
  refine w_const i113_548 kc_0 ?_
  refine w_ialD i113_549 ha (by rw [hc]; decide) (by rw [hc]; decide) e0 ?_
  refine w_cneNF i113_550 (by omega) (by omega) rfl ?_
  refine w_ald0 i113_553 ?_
  refine w_bip i113_554 kb_10 ?_
  refine w_VD2 i113_556 c80 (Or.inl rfl) (Or.inl ⟨by decide +kernel, by decide⟩) (by repeat (first | exact nvL_nil | refine nvL_cons (by first | exact True.intro | exact nvSt (by decide) | exact nvD hda | exact n8 | exact n9 | exact n10 | exact n11 | exact n5 | exact n6 | exact n7 | exact nvK (by omega) (by omega)) ?_)) ⟨(by repeat (first | exact nvL_nil | refine nvL_cons (by first | exact True.intro | exact nvSt (by decide) | exact nvD hda | exact n8 | exact n9 | exact n10 | exact n11 | exact n5 | exact n6 | exact n7 | exact nvK (by omega) (by omega)) ?_)), rfl, Nat.le_of_ble_eq_true rfl⟩ (Ex_go (K_acc10 R H.2.1 H.op hby) ?_)
  rw [w1]
  refine w_ald2 i113_559 ?_
  refine w_const i113_560 kc_1 ?_
  refine w_ialD i113_561 ha (by rw [hc]; decide) (by rw [hc]; decide) e1 ?_
  refine w_cneNF i113_562 (by omega) (by omega) rfl ?_
  refine w_ald0 i113_565 ?_
  refine w_VD1 i113_566 c120 (Or.inl rfl) (Or.inl ⟨by decide +kernel, by decide⟩) (by repeat (first | exact nvL_nil | refine nvL_cons (by first | exact True.intro | exact nvSt (by decide) | exact nvD hda | exact n8 | exact n9 | exact n10 | exact n11 | exact n5 | exact n6 | exact n7 | exact nvK (by omega) (by omega)) ?_)) ⟨(by repeat (first | exact nvL_nil | refine nvL_cons (by first | exact True.intro | exact nvSt (by decide) | exact nvD hda | exact n8 | exact n9 | exact n10 | exact n11 | exact n5 | exact n6 | exact n7 | exact nvK (by omega) (by omega)) ?_)), rfl, Nat.le_of_ble_eq_true rfl⟩ (Ex_go (K_mean R H.2.1 hA0 w0) ?_)
  refine w_dld4 i113_569 ?_
  refine w_dcmp i113_571 (mnD_eq hA0 H.2.1) ?_
  refine w_ineNF i113_572 (by omega) (by omega) ?_
  refine w_ald0 i113_575 ?_
  refine w_VD1 i113_576 c121 (Or.inl rfl) (Or.inl ⟨by decide +kernel, by decide⟩) (by repeat (first | exact nvL_nil | refine nvL_cons (by first | exact True.intro | exact nvSt (by decide) | exact nvD hda | exact n8 | exact n9 | exact n10 | exact n11 | exact n5 | exact n6 | exact n7 | exact nvK (by omega) (by omega)) ?_)) ⟨(by repeat (first | exact nvL_nil | refine nvL_cons (by first | exact True.intro | exact nvSt (by decide) | exact nvD hda | exact n8 | exact n9 | exact n10 | exact n11 | exact n5 | exact n6 | exact n7 | exact nvK (by omega) (by omega)) ?_)), rfl, Nat.le_of_ble_eq_true rfl⟩ (Ex_go (K_share R H.2.1 hby hA2 w2) ?_)
  refine w_fld6 i113_579 ?_
  refine w_fcmp i113_581 (mnF_eq hA2 H.2.1) ?_
  refine w_ineNF i113_582 (by omega) (by omega) ?_
  refine w_ald0 i113_585 ?_
  refine w_ild1 i113_586 ?_
  refine w_VD2 i113_587 c73 (Or.inl rfl) (Or.inl ⟨by decide +kernel, by decide⟩) (by repeat (first | exact nvL_nil | refine nvL_cons (by first | exact True.intro | exact nvSt (by decide) | exact nvD hda | exact n8 | exact n9 | exact n10 | exact n11 | exact n5 | exact n6 | exact n7 | exact nvK (by omega) (by omega)) ?_)) ⟨(by repeat (first | exact nvL_nil | refine nvL_cons (by first | exact True.intro | exact nvSt (by decide) | exact nvD hda | exact n8 | exact n9 | exact n10 | exact n11 | exact n5 | exact n6 | exact n7 | exact nvK (by omega) (by omega)) ?_)), rfl, Nat.le_of_ble_eq_true rfl⟩ (Ex_go (K_brightest R H.2.1 H.ltN) ?_)
  rw [bright_no H]
  refine w_sip i113_590 ks_m1011 ?_
  refine w_cneF i113_593  rfl ?_
  refine w_ald0 i113_596 ?_
  refine w_ild1 i113_597 ?_
  refine w_VD2 i113_598 c76 (Or.inl rfl) (Or.inl ⟨by decide +kernel, by decide⟩) (by repeat (first | exact nvL_nil | refine nvL_cons (by first | exact True.intro | exact nvSt (by decide) | exact nvD hda | exact n8 | exact n9 | exact n10 | exact n11 | exact n5 | exact n6 | exact n7 | exact nvK (by omega) (by omega)) ?_)) ⟨(by repeat (first | exact nvL_nil | refine nvL_cons (by first | exact True.intro | exact nvSt (by decide) | exact nvD hda | exact n8 | exact n9 | exact n10 | exact n11 | exact n5 | exact n6 | exact n7 | exact nvK (by omega) (by omega)) ?_)), rfl, Nat.le_of_ble_eq_true rfl⟩ (Ex_go (K_tell_bad R H.2.1 (Or.inr ile_rf)) ?_)
  refine w_sip i113_601 ks_m1011 ?_
  refine w_cneF i113_604  rfl ?_
  refine w_ild1 i113_607 ?_
  refine w_bip i113_608 kb_12 ?_
  refine w_cgtNF i113_610 (by omega) (by omega) (by omega) ?_
  refine w_const i113_613 kc_1 ?_
  refine w_goto i113_614 g113_614 ?_
  refine w_rz i113_618 r113 nar_z1 ?_
  exact hk
set_option maxHeartbeats 1000000 in
theorem su_x0 {d : Nat} {D : Mm} {Q : Option Value → Mm → Prop} {n B A0 A1 A2 ar : Nat} {V : Nat → Int32} {l3 : Int32} {l5 l6 l7 l8 l9 l10 l11 : Value} (n5 : nvV D l5) (n6 : nvV D l6) (n7 : nvV D l7) (n8 : nvV D l8) (n9 : nvV D l9) (n10 : nvV D l10) (n11 : nvV D l11) (R : Rel D n V) (H : IV n V B) (hby : byV n V) (ha : dyn D ar 20) (hc : cap D ar = 3) (hn : ¬ n = 0) (e0 : D ar 0 = nI A0) (e1 : D ar 1 = nI A1) (e2 : D ar 2 = nI A2) (hA0 : A0 ≤ 360) (hA2 : A2 ≤ 12) (hA1 : A1 ≤ 2000) (w0 : mOfAll n V 1 = nI A0) (w1 : mOfAll n V 4 = nI A1) (w2 : mWrits n V = nI A2) (hk : Q (some (.int (nI 1))) D) : Wp (d + 10) 113 Q 15 [.ref 0, .int (nI n), .ref ar, .int l3, .int (nI n), l5, l6, l7, l8, l9, l10, l11] [] D := by
  have hda := ha.1
  have hn12 := H.2.1
  refine w_ild4 i113_15 ?_
  refine w_ild1 i113_17 ?_
  refine w_cgeNT i113_18 g113_18 (by omega) (by omega) (Nat.le_refl _) ?_
  refine w_ild1 i113_497 ?_
  refine w_ineNT i113_498 g113_498 (by omega) (by omega) ?_
  refine w_ald2 i113_505 ?_
  refine w_const i113_506 kc_0 ?_
  refine w_ialD i113_507 ha (by rw [hc]; decide) (by rw [hc]; decide) e0 ?_
  refine w_i2d i113_508 ?_
  refine w_ild1 i113_509 ?_
  refine w_i2d i113_510 ?_
  refine w_ddiv i113_511 (dw_no hA0 (by omega) H.2.1).1 ?_
  rw [show FP.ddiv (FP.i2d (nI A0)) (FP.i2d (nI n)) = mnD n A0 from (if_neg hn).symm]
  refine w_dst4 i113_512 ?_
  refine w_ild1 i113_514 ?_
  refine w_ineNT i113_515 g113_515 (by omega) (by omega) ?_
  refine w_ald2 i113_522 ?_
  refine w_const i113_523 kc_2 ?_
  refine w_ialD i113_524 ha (by rw [hc]; decide) (by rw [hc]; decide) e2 ?_
  refine w_i2f i113_525 ?_
  refine w_ild1 i113_526 ?_
  refine w_i2f i113_527 ?_
  refine w_fdiv i113_528 (dw_no (by omega) (by omega) H.2.1).2 ?_
  rw [show FP.fdiv (FP.i2f (nI A2)) (FP.i2f (nI n)) = mnF n A2 from (if_neg hn).symm]
  refine w_fst6 i113_529 ?_
  refine w_ald0 i113_531 ?_
  refine w_const i113_532 kc_2 ?_
  refine w_VD2 i113_533 c80 (Or.inl rfl) (Or.inl ⟨by decide +kernel, by decide⟩) (by repeat (first | exact nvL_nil | refine nvL_cons (by first | exact True.intro | exact nvSt (by decide) | exact nvD hda | exact n8 | exact n9 | exact n10 | exact n11 | exact n5 | exact n6 | exact n7 | exact nvK (by omega) (by omega)) ?_)) ⟨(by repeat (first | exact nvL_nil | refine nvL_cons (by first | exact True.intro | exact nvSt (by decide) | exact nvD hda | exact n8 | exact n9 | exact n10 | exact n11 | exact n5 | exact n6 | exact n7 | exact nvK (by omega) (by omega)) ?_)), rfl, Nat.le_of_ble_eq_true rfl⟩ (Ex_go (K_acc2 R H.2.1 H.op hby) ?_)
  rw [w2]
  refine w_ald2 i113_536 ?_
  refine w_const i113_537 kc_2 ?_
  refine w_ialD i113_538 ha (by rw [hc]; decide) (by rw [hc]; decide) e2 ?_
  refine w_cneNF i113_539 (by omega) (by omega) rfl ?_
  refine w_ald0 i113_542 ?_
  refine w_const i113_543 kc_3 ?_
  refine w_VD2 i113_544 c80 (Or.inl rfl) (Or.inl ⟨by decide +kernel, by decide⟩) (by repeat (first | exact nvL_nil | refine nvL_cons (by first | exact True.intro | exact nvSt (by decide) | exact nvD hda | exact n8 | exact n9 | exact n10 | exact n11 | exact n5 | exact n6 | exact n7 | exact nvK (by omega) (by omega)) ?_)) ⟨(by repeat (first | exact nvL_nil | refine nvL_cons (by first | exact True.intro | exact nvSt (by decide) | exact nvD hda | exact n8 | exact n9 | exact n10 | exact n11 | exact n5 | exact n6 | exact n7 | exact nvK (by omega) (by omega)) ?_)), rfl, Nat.le_of_ble_eq_true rfl⟩ (Ex_go (K_acc3 R H.2.1 H.op hby) ?_)
  rw [w0]
  refine w_ald2 i113_547 ?_
  refine w_const i113_548 kc_0 ?_
  refine w_ialD i113_549 ha (by rw [hc]; decide) (by rw [hc]; decide) e0 ?_
  refine w_cneNF i113_550 (by omega) (by omega) rfl ?_
  refine w_ald0 i113_553 ?_
  refine w_bip i113_554 kb_10 ?_
  refine w_VD2 i113_556 c80 (Or.inl rfl) (Or.inl ⟨by decide +kernel, by decide⟩) (by repeat (first | exact nvL_nil | refine nvL_cons (by first | exact True.intro | exact nvSt (by decide) | exact nvD hda | exact n8 | exact n9 | exact n10 | exact n11 | exact n5 | exact n6 | exact n7 | exact nvK (by omega) (by omega)) ?_)) ⟨(by repeat (first | exact nvL_nil | refine nvL_cons (by first | exact True.intro | exact nvSt (by decide) | exact nvD hda | exact n8 | exact n9 | exact n10 | exact n11 | exact n5 | exact n6 | exact n7 | exact nvK (by omega) (by omega)) ?_)), rfl, Nat.le_of_ble_eq_true rfl⟩ (Ex_go (K_acc10 R H.2.1 H.op hby) ?_)
  rw [w1]
  refine w_ald2 i113_559 ?_
  refine w_const i113_560 kc_1 ?_
  refine w_ialD i113_561 ha (by rw [hc]; decide) (by rw [hc]; decide) e1 ?_
  refine w_cneNF i113_562 (by omega) (by omega) rfl ?_
  refine w_ald0 i113_565 ?_
  refine w_VD1 i113_566 c120 (Or.inl rfl) (Or.inl ⟨by decide +kernel, by decide⟩) (by repeat (first | exact nvL_nil | refine nvL_cons (by first | exact True.intro | exact nvSt (by decide) | exact nvD hda | exact n8 | exact n9 | exact n10 | exact n11 | exact n5 | exact n6 | exact n7 | exact nvK (by omega) (by omega)) ?_)) ⟨(by repeat (first | exact nvL_nil | refine nvL_cons (by first | exact True.intro | exact nvSt (by decide) | exact nvD hda | exact n8 | exact n9 | exact n10 | exact n11 | exact n5 | exact n6 | exact n7 | exact nvK (by omega) (by omega)) ?_)), rfl, Nat.le_of_ble_eq_true rfl⟩ (Ex_go (K_mean R H.2.1 hA0 w0) ?_)
  refine w_dld4 i113_569 ?_
  refine w_dcmp i113_571 (mnD_eq hA0 H.2.1) ?_
  refine w_ineNF i113_572 (by omega) (by omega) ?_
  refine w_ald0 i113_575 ?_
  refine w_VD1 i113_576 c121 (Or.inl rfl) (Or.inl ⟨by decide +kernel, by decide⟩) (by repeat (first | exact nvL_nil | refine nvL_cons (by first | exact True.intro | exact nvSt (by decide) | exact nvD hda | exact n8 | exact n9 | exact n10 | exact n11 | exact n5 | exact n6 | exact n7 | exact nvK (by omega) (by omega)) ?_)) ⟨(by repeat (first | exact nvL_nil | refine nvL_cons (by first | exact True.intro | exact nvSt (by decide) | exact nvD hda | exact n8 | exact n9 | exact n10 | exact n11 | exact n5 | exact n6 | exact n7 | exact nvK (by omega) (by omega)) ?_)), rfl, Nat.le_of_ble_eq_true rfl⟩ (Ex_go (K_share R H.2.1 hby hA2 w2) ?_)
  refine w_fld6 i113_579 ?_
  refine w_fcmp i113_581 (mnF_eq hA2 H.2.1) ?_
  refine w_ineNF i113_582 (by omega) (by omega) ?_
  refine w_ald0 i113_585 ?_
  refine w_ild1 i113_586 ?_
  refine w_VD2 i113_587 c73 (Or.inl rfl) (Or.inl ⟨by decide +kernel, by decide⟩) (by repeat (first | exact nvL_nil | refine nvL_cons (by first | exact True.intro | exact nvSt (by decide) | exact nvD hda | exact n8 | exact n9 | exact n10 | exact n11 | exact n5 | exact n6 | exact n7 | exact nvK (by omega) (by omega)) ?_)) ⟨(by repeat (first | exact nvL_nil | refine nvL_cons (by first | exact True.intro | exact nvSt (by decide) | exact nvD hda | exact n8 | exact n9 | exact n10 | exact n11 | exact n5 | exact n6 | exact n7 | exact nvK (by omega) (by omega)) ?_)), rfl, Nat.le_of_ble_eq_true rfl⟩ (Ex_go (K_brightest R H.2.1 H.ltN) ?_)
  rw [bright_no H]
  refine w_sip i113_590 ks_m1011 ?_
  refine w_cneF i113_593  rfl ?_
  refine w_ald0 i113_596 ?_
  refine w_ild1 i113_597 ?_
  refine w_VD2 i113_598 c76 (Or.inl rfl) (Or.inl ⟨by decide +kernel, by decide⟩) (by repeat (first | exact nvL_nil | refine nvL_cons (by first | exact True.intro | exact nvSt (by decide) | exact nvD hda | exact n8 | exact n9 | exact n10 | exact n11 | exact n5 | exact n6 | exact n7 | exact nvK (by omega) (by omega)) ?_)) ⟨(by repeat (first | exact nvL_nil | refine nvL_cons (by first | exact True.intro | exact nvSt (by decide) | exact nvD hda | exact n8 | exact n9 | exact n10 | exact n11 | exact n5 | exact n6 | exact n7 | exact nvK (by omega) (by omega)) ?_)), rfl, Nat.le_of_ble_eq_true rfl⟩ (Ex_go (K_tell_bad R H.2.1 (Or.inr ile_rf)) ?_)
  refine w_sip i113_601 ks_m1011 ?_
  refine w_cneF i113_604  rfl ?_
  refine w_ild1 i113_607 ?_
  refine w_bip i113_608 kb_12 ?_
  refine w_cgtNF i113_610 (by omega) (by omega) (by omega) ?_
  refine w_const i113_613 kc_1 ?_
  refine w_goto i113_614 g113_614 ?_
  refine w_rz i113_618 r113 nar_z1 ?_
  exact hk
