/-! the law's houses: their end -/
/-- all but the line's rows and the sharing's is as it was -/
def FrH (D D2 : Mm) : Prop := (∀ q, q < DB + nxt D → q ≠ 4500 → q ≠ 170 → q ≠ 182 → q ≠ 166 → q ≠ 167 → q ≠ 168 → D2 q = D q) ∧ nxt D ≤ nxt D2
theorem FrH.tr {D D2 D3 : Mm} (h : FrH D D2) (g : FrH D2 D3) : FrH D D3 := ⟨fun q a b c e x y z => (g.1 q (by have := h.2; omega) b c e x y z).trans (h.1 q a b c e x y z), Nat.le_trans h.2 g.2⟩
theorem FrT.h {D D2 : Mm} (h : FrT D D2) : FrH D D2 := ⟨fun q a b c e _ _ _ => h.1 q a b c e, h.2⟩
theorem FrS.nx {D D2 : Mm} (h : FrS D D2) : nxt D2 = nxt D ∧ usd D2 = usd D := by
  have e := h 4500 (by decide) (by decide) (by decide)
  unfold nxt usd; rw [e]; exact ⟨rfl, rfl⟩
theorem FrS.h {D D2 : Mm} (h : FrS D D2) : FrH D D2 := ⟨fun q _ _ _ _ x y z => h q x y z, by rw [h.nx.1]; exact Nat.le_refl _⟩
theorem CJ.frH {D D2 : Mm} {n B nx : Nat} {V : Nat → Int32} {hs : HsT} (J : CJ D n V B hs nx) (f : FrH D D2) : CJ D2 n V B hs nx := by
  have hD := DBv
  have f2 : ∀ q, q ≤ 181 → q ≠ 170 → (q < 166 ∨ 168 < q) → D2 q = D q := fun q a b c => f.1 q (by omega) (by omega) b (by omega) (by omega) (by omega) (by omega)
  obtain ⟨R, S, ⟨a1, a2, a3, a4, a5⟩, b⟩ := J
  refine ⟨R.fr (fun q x y => f2 q (by omega) (by omega) (by omega)), S, ⟨a1, a2, by rw [f2 155 (by omega) (by omega) (by omega)]; exact a3, by rw [f2 155 (by omega) (by omega) (by omega)]; exact a4, fun i hi => ⟨(a5 i hi).1, (a5 i hi).2.fr (fun q x y => ?_)⟩⟩, b.fr (f2 169 (by omega) (by omega) (by omega)) (f2 181 (by omega) (by omega) (by omega))⟩
  have := rowb_b (r := (nx + 8 - i) % 9) (by omega)
  exact f2 q (by omega) (by omega) (by omega)
set_option maxHeartbeats 1000000 in
theorem hs_g {d : Nat} {D : Mm} {Q : Option Value → Mm → Prop} {n B o b lo uu : Nat} {ln : List Nat} {V : Nat → Int32} {l5 : Int32} {u8 u9 u10 u11 u12 u13 u14 u15 u16 : Value} (n8 : nvQ u8) (n9 : nvQ u9) (n10 : nvQ u10) (n11 : nvQ u11) (n12 : nvQ u12) (n13 : nvQ u13) (n14 : nvQ u14) (n15 : nvQ u15) (n16 : nvQ u16) (R : Rel D n V) (H : IV n V B) (hB : B ≤ 9000) (g : SbX D lo 80 uu o b (thV V)) (S : SbR D 170 ln) (hu1 : usd D ≤ 500000) (hu2 : uu ≤ 500000) (hq : ∀ D2, FrH D D2 → SbR D2 170 (thV V) → nxt D2 ≤ usd D2 → usd D2 ≤ usd D + 490 → Q (some (.int (nI 1))) D2) : Wp (d + 10) 114 Q 592 [.ref 0, .int (nI (sN6 6 (opc V))), .int (nI (sN6 6 (stc V))), .int (nI (sN6 6 (poc V))), .int (nI (sN6 6 (clmN n V))), .int l5, .ref o, .int (nI 6), u8, u9, u10, u11, u12, u13, u14, u15, u16] [] D := by
  have hBE := DBv
  have h12 := H.2.1
  have hop := H.op
  have hby := (H.hc (show B ≤ 20000 by omega)).2.2.1
  have hS := (H.hc (show B ≤ 20000 by omega)).2.2.2.2.2.2.1
  have hcl := H.clN (show B ≤ 20000 by omega)
  have eO := opens_nat H
  have eS := stores_nat H
  have eP := pooled_nat H
  have e6 : V 1 = mOfAll n V 1 + nI (sN6 6 (stc V)) + nI (sN6 6 (poc V)) + V 2 := by rw [← eS, ← eP]; exact H.bal
  have hnu := g.nu
  have huu := g.uu
  have hgo := dyn_ge g.ob
  have hgb := dyn_ge g.rb
  refine w_ald0 i114_592 ?_
  refine w_const i114_593 kc_1 ?_
  refine w_VD2 i114_594 c80 (Or.inl rfl) (Or.inl ⟨by decide +kernel, by decide⟩) (by repeat (first | exact nvL_nil | refine nvL_cons (by first | exact True.intro | exact nvSt (by decide) | exact nvD g.ob.1 | exact nvD hs2 | exact nvD hs3 | exact n8.nv | exact n9.nv | exact n10.nv | exact n11.nv | exact n12.nv | exact n13.nv | exact n14.nv | exact n15.nv | exact n16.nv | exact nvK (by omega) (by omega)) ?_)) ⟨(by repeat (first | exact nvL_nil | refine nvL_cons (by first | exact True.intro | exact nvSt (by decide) | exact nvD g.ob.1 | exact nvD hs2 | exact nvD hs3 | exact n8.nv | exact n9.nv | exact n10.nv | exact n11.nv | exact n12.nv | exact n13.nv | exact n14.nv | exact n15.nv | exact n16.nv | exact nvK (by omega) (by omega)) ?_)), rfl, Nat.le_of_ble_eq_true rfl⟩ (Ex_go (K_acc1 R h12 hop hby) ?_)
  rw [eO]
  refine w_ild1 i114_597 ?_
  refine w_cneF i114_598  rfl ?_
  refine w_ald0 i114_601 ?_
  refine w_const i114_602 kc_4 ?_
  refine w_VD2 i114_603 c80 (Or.inl rfl) (Or.inl ⟨by decide +kernel, by decide⟩) (by repeat (first | exact nvL_nil | refine nvL_cons (by first | exact True.intro | exact nvSt (by decide) | exact nvD g.ob.1 | exact nvD hs2 | exact nvD hs3 | exact n8.nv | exact n9.nv | exact n10.nv | exact n11.nv | exact n12.nv | exact n13.nv | exact n14.nv | exact n15.nv | exact n16.nv | exact nvK (by omega) (by omega)) ?_)) ⟨(by repeat (first | exact nvL_nil | refine nvL_cons (by first | exact True.intro | exact nvSt (by decide) | exact nvD g.ob.1 | exact nvD hs2 | exact nvD hs3 | exact n8.nv | exact n9.nv | exact n10.nv | exact n11.nv | exact n12.nv | exact n13.nv | exact n14.nv | exact n15.nv | exact n16.nv | exact nvK (by omega) (by omega)) ?_)), rfl, Nat.le_of_ble_eq_true rfl⟩ (Ex_go (K_acc4 R h12 hop hby) ?_)
  rw [eS]
  refine w_ild2 i114_606 ?_
  refine w_cneF i114_607  rfl ?_
  refine w_ald0 i114_610 ?_
  refine w_const i114_611 kc_5 ?_
  refine w_VD2 i114_612 c80 (Or.inl rfl) (Or.inl ⟨by decide +kernel, by decide⟩) (by repeat (first | exact nvL_nil | refine nvL_cons (by first | exact True.intro | exact nvSt (by decide) | exact nvD g.ob.1 | exact nvD hs2 | exact nvD hs3 | exact n8.nv | exact n9.nv | exact n10.nv | exact n11.nv | exact n12.nv | exact n13.nv | exact n14.nv | exact n15.nv | exact n16.nv | exact nvK (by omega) (by omega)) ?_)) ⟨(by repeat (first | exact nvL_nil | refine nvL_cons (by first | exact True.intro | exact nvSt (by decide) | exact nvD g.ob.1 | exact nvD hs2 | exact nvD hs3 | exact n8.nv | exact n9.nv | exact n10.nv | exact n11.nv | exact n12.nv | exact n13.nv | exact n14.nv | exact n15.nv | exact n16.nv | exact nvK (by omega) (by omega)) ?_)), rfl, Nat.le_of_ble_eq_true rfl⟩ (Ex_go (K_acc5 R h12 hop hby) ?_)
  rw [eP]
  refine w_ild3 i114_615 ?_
  refine w_cneF i114_616  rfl ?_
  refine w_ald0 i114_619 ?_
  refine w_bip i114_620 kb_6 ?_
  refine w_VD2 i114_622 c80 (Or.inl rfl) (Or.inl ⟨by decide +kernel, by decide⟩) (by repeat (first | exact nvL_nil | refine nvL_cons (by first | exact True.intro | exact nvSt (by decide) | exact nvD g.ob.1 | exact nvD hs2 | exact nvD hs3 | exact n8.nv | exact n9.nv | exact n10.nv | exact n11.nv | exact n12.nv | exact n13.nv | exact n14.nv | exact n15.nv | exact n16.nv | exact nvK (by omega) (by omega)) ?_)) ⟨(by repeat (first | exact nvL_nil | refine nvL_cons (by first | exact True.intro | exact nvSt (by decide) | exact nvD g.ob.1 | exact nvD hs2 | exact nvD hs3 | exact n8.nv | exact n9.nv | exact n10.nv | exact n11.nv | exact n12.nv | exact n13.nv | exact n14.nv | exact n15.nv | exact n16.nv | exact nvK (by omega) (by omega)) ?_)), rfl, Nat.le_of_ble_eq_true rfl⟩ (Ex_go (K_acc6 R h12 hop hby) ?_)
  refine w_ald0 i114_625 ?_
  refine w_const i114_626 kc_3 ?_
  refine w_VD2 i114_627 c80 (Or.inl rfl) (Or.inl ⟨by decide +kernel, by decide⟩) (by repeat (first | exact nvL_nil | refine nvL_cons (by first | exact True.intro | exact nvSt (by decide) | exact nvD g.ob.1 | exact nvD hs2 | exact nvD hs3 | exact n8.nv | exact n9.nv | exact n10.nv | exact n11.nv | exact n12.nv | exact n13.nv | exact n14.nv | exact n15.nv | exact n16.nv | exact nvK (by omega) (by omega)) ?_)) ⟨(by repeat (first | exact nvL_nil | refine nvL_cons (by first | exact True.intro | exact nvSt (by decide) | exact nvD g.ob.1 | exact nvD hs2 | exact nvD hs3 | exact n8.nv | exact n9.nv | exact n10.nv | exact n11.nv | exact n12.nv | exact n13.nv | exact n14.nv | exact n15.nv | exact n16.nv | exact nvK (by omega) (by omega)) ?_)), rfl, Nat.le_of_ble_eq_true rfl⟩ (Ex_go (K_acc3 R h12 hop hby) ?_)
  refine w_ild2 i114_630 ?_
  refine w_iadd i114_631 rfl ?_
  refine w_ild3 i114_632 ?_
  refine w_iadd i114_633 rfl ?_
  refine w_ald0 i114_634 ?_
  refine w_bip i114_635 kb_7 ?_
  refine w_VD2 i114_637 c80 (Or.inl rfl) (Or.inl ⟨by decide +kernel, by decide⟩) (by repeat (first | exact nvL_nil | refine nvL_cons (by first | exact True.intro | exact nvSt (by decide) | exact nvD g.ob.1 | exact nvD hs2 | exact nvD hs3 | exact n8.nv | exact n9.nv | exact n10.nv | exact n11.nv | exact n12.nv | exact n13.nv | exact n14.nv | exact n15.nv | exact n16.nv | exact nvK (by omega) (by omega)) ?_)) ⟨(by repeat (first | exact nvL_nil | refine nvL_cons (by first | exact True.intro | exact nvSt (by decide) | exact nvD g.ob.1 | exact nvD hs2 | exact nvD hs3 | exact n8.nv | exact n9.nv | exact n10.nv | exact n11.nv | exact n12.nv | exact n13.nv | exact n14.nv | exact n15.nv | exact n16.nv | exact nvK (by omega) (by omega)) ?_)), rfl, Nat.le_of_ble_eq_true rfl⟩ (Ex_go (K_acc7 R h12 hop hby) ?_)
  refine w_iadd i114_640 rfl ?_
  refine w_cneF i114_641  e6 ?_
  refine w_const i114_644 kc_1 ?_
  refine w_goto i114_645 g114_645 ?_
  refine w_ist7 i114_649 ?_
  refine w_ild7 i114_651 ?_
  refine w_ieqNF i114_653 (by omega) (by omega) ?_
  refine w_ald0 i114_656 ?_
  refine w_VD1 i114_657 c81 (Or.inl rfl) (Or.inl ⟨by decide +kernel, by decide⟩) (by repeat (first | exact nvL_nil | refine nvL_cons (by first | exact True.intro | exact nvSt (by decide) | exact nvD g.ob.1 | exact nvD hs2 | exact nvD hs3 | exact n8.nv | exact n9.nv | exact n10.nv | exact n11.nv | exact n12.nv | exact n13.nv | exact n14.nv | exact n15.nv | exact n16.nv | exact nvK (by omega) (by omega)) ?_)) ⟨(by repeat (first | exact nvL_nil | refine nvL_cons (by first | exact True.intro | exact nvSt (by decide) | exact nvD g.ob.1 | exact nvD hs2 | exact nvD hs3 | exact n8.nv | exact n9.nv | exact n10.nv | exact n11.nv | exact n12.nv | exact n13.nv | exact n14.nv | exact n15.nv | exact n16.nv | exact nvK (by omega) (by omega)) ?_)), rfl, Nat.le_of_ble_eq_true rfl⟩ ?_
  refine K_isBal R h12 hop hS H.bal H.wb (fun D2 f2 => ?_)
  have R := R.frS f2
  have S := S.fr (f2 170 (by decide) (by decide) (by decide)) (f2 182 (by decide) (by decide) (by decide))
  have hgo := dyn_ge g.ob
  have hgb := dyn_ge g.rb
  have en2 := f2.nx
  have g := g.mv (u2 := uu) (f2 o (by omega) (by omega) (by omega)) (f2 b (by omega) (by omega) (by omega)) (by rw [en2.1]; exact Nat.le_refl _) (by rw [en2.1, en2.2]; exact hnu) (by rw [en2.2]; exact Nat.le_refl _) huu
  refine w_const i114_660 kc_1 ?_
  refine w_cneF i114_661  rfl ?_
  refine w_ald0 i114_664 ?_
  refine w_ald0 i114_665 ?_
  refine w_VD1 i114_666 c77 (Or.inl rfl) (Or.inl ⟨by decide +kernel, by decide⟩) (by repeat (first | exact nvL_nil | refine nvL_cons (by first | exact True.intro | exact nvSt (by decide) | exact nvD g.ob.1 | exact nvD hs2 | exact nvD hs3 | exact n8.nv | exact n9.nv | exact n10.nv | exact n11.nv | exact n12.nv | exact n13.nv | exact n14.nv | exact n15.nv | exact n16.nv | exact nvK (by omega) (by omega)) ?_)) ⟨(by repeat (first | exact nvL_nil | refine nvL_cons (by first | exact True.intro | exact nvSt (by decide) | exact nvD g.ob.1 | exact nvD hs2 | exact nvD hs3 | exact n8.nv | exact n9.nv | exact n10.nv | exact n11.nv | exact n12.nv | exact n13.nv | exact n14.nv | exact n15.nv | exact n16.nv | exact nvK (by omega) (by omega)) ?_)), rfl, Nat.le_of_ble_eq_true rfl⟩ ?_
  refine K_tellHV R H hB S (fun D3 S f3 => ?_)
  have hlv := thV_len (V := V)
  have en3 := f3.nx
  have R := f3.t.rel R
  have g := g.mv (u2 := uu) (f3 o (by omega) (by omega)) (f3 b (by omega) (by omega)) (by rw [en3.1]; exact Nat.le_refl _) (by rw [en3.1, en3.2, en2.1, en2.2]; exact hnu) (by rw [en3.2]; exact Nat.le_refl _) huu
  refine w_SD2 i114_669 c110 rfl (by repeat (first | exact nvL_nil | refine nvL_cons (by first | exact True.intro | exact nvSt (by decide) | exact nvD g.ob.1 | exact nvD hs2 | exact nvD hs3 | exact n8.nv | exact n9.nv | exact n10.nv | exact n11.nv | exact n12.nv | exact n13.nv | exact n14.nv | exact n15.nv | exact n16.nv | exact nvK (by omega) (by omega)) ?_)) ⟨(by repeat (first | exact nvL_nil | refine nvL_cons (by first | exact True.intro | exact nvSt (by decide) | exact nvD g.ob.1 | exact nvD hs2 | exact nvD hs3 | exact n8.nv | exact n9.nv | exact n10.nv | exact n11.nv | exact n12.nv | exact n13.nv | exact n14.nv | exact n15.nv | exact n16.nv | exact nvK (by omega) (by omega)) ?_)), rfl, Nat.le_of_ble_eq_true rfl⟩ ?_
  refine K_line S (by omega) (by rw [en3.1, en3.2, en2.1, en2.2]; exact hnu) (by rw [en3.2, en2.2]; omega) (fun D4 s2 nb2 x2 hd2 hg2 f4 h4n h4u => ?_)
  have hs2 := hd2.1
  have hl4 := f4.2
  rw [en3.1, en2.1] at hg2
  rw [en3.2, en2.2] at h4u
  rw [en3.1, en2.1] at hl4
  have R := f4.rel R
  have S := f4.sb (Or.inr rfl) S
  have g := g.mv (u2 := uu + 403) (f4.1 o (by rw [en3.1, en2.1]; omega) (by omega)) (f4.1 b (by rw [en3.1, en2.1]; omega) (by omega)) f4.2 h4n (by rw [en3.2, en2.2]; omega) (by omega)
  have hgd2 := dyn_ge hd2
  have hnd2 : dyn D4 nb2 22 := by
    rcases x2.2.2 with ⟨q1, q2, -⟩ | ⟨q1, q2, -⟩
    · exact q2
    · omega
  have hgn2 := dyn_ge hnd2
  refine w_ald6 i114_672 ?_
  refine w_VD1 i114_674 c135 (Or.inl rfl) (g.rec (by decide +kernel)) (by repeat (first | exact nvL_nil | refine nvL_cons (by first | exact True.intro | exact nvSt (by decide) | exact nvD g.ob.1 | exact nvD hs2 | exact nvD hs3 | exact n8.nv | exact n9.nv | exact n10.nv | exact n11.nv | exact n12.nv | exact n13.nv | exact n14.nv | exact n15.nv | exact n16.nv | exact nvK (by omega) (by omega)) ?_)) ⟨(by repeat (first | exact nvL_nil | refine nvL_cons (by first | exact True.intro | exact nvSt (by decide) | exact nvD g.ob.1 | exact nvD hs2 | exact nvD hs3 | exact n8.nv | exact n9.nv | exact n10.nv | exact n11.nv | exact n12.nv | exact n13.nv | exact n14.nv | exact n15.nv | exact n16.nv | exact nvK (by omega) (by omega)) ?_)), rfl, Nat.le_of_ble_eq_true rfl⟩ ?_
  refine K_tsD g (by show (thV V).length ≤ 80; omega) (by omega) (fun D5 s3 nb3 x3 hd3 hg3 f5 h5n h5u => ?_)
  have hs3 := hd3.1
  have hl5 := f5.2
  have R := f5.rel R
  have S := f5.sb (Or.inr rfl) S
  have x2 := x2.fr f5.2 (Or.inr (f5.1 s2 (by omega) (by omega))) (Or.inr (f5.1 nb2 (by omega) (by omega)))
  have hd2 := dyn_fr hd2 f5.2 (f5.1 s2 (by omega) (by omega))
  have hs2 := hd2.1
  have g := g.mv (u2 := uu + 500) (f5.1 o (by omega) (by omega)) (f5.1 b (by omega) (by omega)) f5.2 h5n (by rw [h5u]; omega) (by omega)
  have hne : s2 ≠ s3 := by omega
  refine w_VD2 i114_677 c142 (Or.inl rfl) (x2.rec (by decide +kernel)) (by repeat (first | exact nvL_nil | refine nvL_cons (by first | exact True.intro | exact nvSt (by decide) | exact nvD g.ob.1 | exact nvD hs2 | exact nvD hs3 | exact n8.nv | exact n9.nv | exact n10.nv | exact n11.nv | exact n12.nv | exact n13.nv | exact n14.nv | exact n15.nv | exact n16.nv | exact nvK (by omega) (by omega)) ?_)) ⟨(by repeat (first | exact nvL_nil | refine nvL_cons (by first | exact True.intro | exact nvSt (by decide) | exact nvD g.ob.1 | exact nvD hs2 | exact nvD hs3 | exact n8.nv | exact n9.nv | exact n10.nv | exact n11.nv | exact n12.nv | exact n13.nv | exact n14.nv | exact n15.nv | exact n16.nv | exact nvK (by omega) (by omega)) ?_)), rfl, Nat.le_of_ble_eq_true rfl⟩ (Ex_go (K_eqD x2 x3 hd2 hd3 hne) ?_)
  refine w_ieqNF i114_680 (by omega) (by omega) ?_
  refine w_ald0 i114_683 ?_
  refine w_bip i114_684 kb_6 ?_
  refine w_VD2 i114_686 c72 (Or.inl rfl) (Or.inl ⟨by decide +kernel, by decide⟩) (by repeat (first | exact nvL_nil | refine nvL_cons (by first | exact True.intro | exact nvSt (by decide) | exact nvD g.ob.1 | exact nvD hs2 | exact nvD hs3 | exact n8.nv | exact n9.nv | exact n10.nv | exact n11.nv | exact n12.nv | exact n13.nv | exact n14.nv | exact n15.nv | exact n16.nv | exact nvK (by omega) (by omega)) ?_)) ⟨(by repeat (first | exact nvL_nil | refine nvL_cons (by first | exact True.intro | exact nvSt (by decide) | exact nvD g.ob.1 | exact nvD hs2 | exact nvD hs3 | exact n8.nv | exact n9.nv | exact n10.nv | exact n11.nv | exact n12.nv | exact n13.nv | exact n14.nv | exact n15.nv | exact n16.nv | exact nvK (by omega) (by omega)) ?_)), rfl, Nat.le_of_ble_eq_true rfl⟩ (Ex_go (K_ranked R h12 hop hcl H.stN) ?_)
  rw [ranked_no H (show B ≤ 20000 by omega)]
  refine w_sip i114_689 ks_m1011 ?_
  refine w_cneF i114_692  rfl ?_
  refine w_ald0 i114_695 ?_
  refine w_ild3 i114_696 ?_
  refine w_ild4 i114_697 ?_
  refine w_SD3 i114_699 c115 rfl (by repeat (first | exact nvL_nil | refine nvL_cons (by first | exact True.intro | exact nvSt (by decide) | exact nvD g.ob.1 | exact nvD hs2 | exact nvD hs3 | exact n8.nv | exact n9.nv | exact n10.nv | exact n11.nv | exact n12.nv | exact n13.nv | exact n14.nv | exact n15.nv | exact n16.nv | exact nvK (by omega) (by omega)) ?_)) ⟨(by repeat (first | exact nvL_nil | refine nvL_cons (by first | exact True.intro | exact nvSt (by decide) | exact nvD g.ob.1 | exact nvD hs2 | exact nvD hs3 | exact n8.nv | exact n9.nv | exact n10.nv | exact n11.nv | exact n12.nv | exact n13.nv | exact n14.nv | exact n15.nv | exact n16.nv | exact nvK (by omega) (by omega)) ?_)), rfl, Nat.le_of_ble_eq_true rfl⟩ ?_
  refine K_parts R H (show B ≤ 20000 by omega) (fun D6 f6 => ?_)
  have R := R.frS f6
  have S := S.fr (f6 170 (by decide) (by decide) (by decide)) (f6 182 (by decide) (by decide) (by decide))
  have hgo5 := dyn_ge g.ob
  have hgb5 := dyn_ge g.rb
  have en6 := f6.nx
  have g := g.mv (u2 := uu + 500) (f6 o (by omega) (by omega) (by omega)) (f6 b (by omega) (by omega) (by omega)) (by rw [en6.1]; exact Nat.le_refl _) (by rw [en6.1, en6.2]; exact h5n) (by rw [en6.2]; exact Nat.le_refl _) (by omega)
  refine w_ieqNF i114_702 (by omega) (by omega) ?_
  refine w_ald0 i114_705 ?_
  refine w_ild1 i114_706 ?_
  refine w_SD2 i114_707 c116 rfl (by repeat (first | exact nvL_nil | refine nvL_cons (by first | exact True.intro | exact nvSt (by decide) | exact nvD g.ob.1 | exact nvD hs2 | exact nvD hs3 | exact n8.nv | exact n9.nv | exact n10.nv | exact n11.nv | exact n12.nv | exact n13.nv | exact n14.nv | exact n15.nv | exact n16.nv | exact nvK (by omega) (by omega)) ?_)) ⟨(by repeat (first | exact nvL_nil | refine nvL_cons (by first | exact True.intro | exact nvSt (by decide) | exact nvD g.ob.1 | exact nvD hs2 | exact nvD hs3 | exact n8.nv | exact n9.nv | exact n10.nv | exact n11.nv | exact n12.nv | exact n13.nv | exact n14.nv | exact n15.nv | exact n16.nv | exact nvK (by omega) (by omega)) ?_)), rfl, Nat.le_of_ble_eq_true rfl⟩ (Ex_go (K_heirs R H) ?_)
  refine w_ieqNF i114_710 (by omega) (by omega) ?_
  refine w_const i114_713 kc_1 ?_
  refine w_goto i114_714 g114_714 ?_
  refine w_rz i114_718 r114 nar_z1 ?_
  refine hq D6 (((f2.h.tr f3.t.h).tr (f4.t.h.tr f5.t.h)).tr f6.h) S (by rw [en6.1, en6.2]; exact h5n) ?_
  rw [en6.2, h5u]
  show usd D4 + (thV V).length + 6 ≤ _
  omega
