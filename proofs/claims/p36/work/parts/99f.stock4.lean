/-! the law's stock -/
theorem inl_ne {o : Out} {a : Int32} {W : Nat → Int32} {p : Int32 × List (Int32 × Int32)} (h : o = .inr (a, W)) (g : o = .inl p) : False := by rw [h] at g; cases g
theorem inr_eq {o : Out} {a y : Int32} {W V2 : Nat → Int32} (h : o = .inr (a, W)) (g : o = .inr (y, V2)) : y = a ∧ V2 = W := by
  rw [h] at g
  cases g
  exact ⟨rfl, rfl⟩
theorem owed_sm {n B h : Nat} {V : Nat → Int32} (H : IV n V B) : ∃ x, x ≤ 10000 ∧ mOwed n V (nI h) = nI x := by
  obtain ⟨e, l⟩ := mOwed_nat (h := h) (fun s hs => (H.2.2.1 s hs).ow) H.2.1
  exact ⟨_, by omega, e⟩
theorem writs_sm {n B : Nat} {V : Nat → Int32} (H : IV n V B) : ∃ x, x ≤ 10000 ∧ mWrits n V = nI x := ⟨_, by have := wic_n H; omega, writs_nat⟩
theorem pooled_sm {n B : Nat} {V : Nat → Int32} (H : IV n V B) (hB : B ≤ 9000) : ∃ x, x ≤ 10000 ∧ mPooled V = nI x := ⟨_, by have := SM_le H; omega, pooled_nat H⟩
/-- what the sharing answers -/
theorem shares_sm {n : Nat} {P : Nat → Int32} : ∃ x, x ≤ 6 ∧ sumN 6 (fun h => ifp (P h ≤ 0) (nI 0) (nI 1)) = nI x := by
  have e : sumN 6 (fun h => ifp (P h ≤ 0) (nI 0) (nI 1)) = nI (sN6 6 (fun h => ifp (P h ≤ 0) 0 1)) := sumN_nI 6 (fun h _ => by
    by_cases z : P h ≤ 0
    · rw [ifp_t z, ifp_t z]
    · rw [ifp_f z, ifp_f z])
  refine ⟨_, ?_, e⟩
  have := sN6_c (f := fun h => ifp (P h ≤ 0) 0 1) (c := 1) 6 (fun i _ => by
    show ifp (P i ≤ 0) 0 1 ≤ 1
    by_cases z : P i ≤ 0
    · rw [ifp_t z]; exact Nat.zero_le 1
    · rw [ifp_f z]; exact Nat.le_refl 1)
  omega
theorem passed_sm {n : Nat} {V : Nat → Int32} {x : Int32} (h12 : n ≤ 12) : ∃ c, c ≤ 12 ∧ vPaC n V x = nI c := by
  have e : vPaC n V x = nI (sN6 n (fun s => ifp (V (30 + 8 * s + 6) = 0) 0 (ifp (V (30 + 8 * s + 5) ≤ x) 1 0))) := sumN_nI n (fun s _ => by
    by_cases z : V (30 + 8 * s + 6) = 0
    · rw [ifp_t z, ifp_t z]
    · rw [ifp_f z, ifp_f z]
      by_cases y : V (30 + 8 * s + 5) ≤ x
      · rw [ifp_t y, ifp_t y]
      · rw [ifp_f y, ifp_f y])
  refine ⟨_, ?_, e⟩
  have := sN6_c (f := fun s => ifp (V (30 + 8 * s + 6) = 0) 0 (ifp (V (30 + 8 * s + 5) ≤ x) 1 0)) (c := 1) n (fun s _ => by
    show ifp (V (30 + 8 * s + 6) = 0) 0 (ifp (V (30 + 8 * s + 5) ≤ x) 1 0) ≤ 1
    by_cases z : V (30 + 8 * s + 6) = 0
    · rw [ifp_t z]; exact Nat.zero_le 1
    · rw [ifp_f z]
      by_cases y : V (30 + 8 * s + 5) ≤ x
      · rw [ifp_t y]; exact Nat.le_refl 1
      · rw [ifp_f y]; exact Nat.zero_le 1)
  omega
theorem Pa_f {x : Int32} {s i f : Nat} {V : Nat → Int32} (hf : f < 5) : vPa x s V (30 + 8 * i + f) = V (30 + 8 * i + f) := by
  unfold vPa
  exact own_ifp rfl (own_ifp ((updJ (by omega)).trans (updJ (by omega))) ((updJ (by omega)).trans (updJ (by omega))))
theorem itrPa_f {x : Int32} {i f : Nat} {V : Nat → Int32} (hf : f < 5) : ∀ n, itr (vPa x) n V (30 + 8 * i + f) = V (30 + 8 * i + f) := by
  intro n
  induction n with
  | zero => rfl
  | succ n ih => exact (Pa_f hf).trans ih
noncomputable def tW8 : Nat → Int32 := itr (vSh (vParts 5 tW7)) 6 tW7
noncomputable def tW9 : Nat → Int32 := vup (itr (vPa (nI 2)) 5 tW8) 5 (itr (vPa (nI 2)) 5 tW8 5 + nI 2)
noncomputable def tW10 : Nat → Int32 := vup tW9 (6 + 4 * 4 + 1) (nI 2)
theorem t8_at {j : Nat} (h : ∀ i, i < 6 → j ≠ 6 + 4 * i + 2 ∧ j ≠ 6 + 4 * i + 3) : tW8 j = tW7 j := Sh_lo 6 h
theorem t9_at {j : Nat} (h5 : j ≠ 5) (h : j < 30) (h2 : ∀ i, i < 6 → j ≠ 6 + 4 * i + 2 ∧ j ≠ 6 + 4 * i + 3) : tW9 j = tW7 j := (updJ h5).trans ((itr_hi own_Pa (Or.inr h)).trans (t8_at h2))
theorem t9_st {i f : Nat} (hf : f < 5) : tW9 (30 + 8 * i + f) = tW7 (30 + 8 * i + f) := (updJ (by omega)).trans ((itrPa_f hf 5).trans (t8_at (fun k hk => by omega)))
theorem tk_8 {B : Nat} (H : IV 5 tW7 B) (X : XG 5 tW7 B) (hB : B ≤ 9000) : vShares 5 tW7 = .inr (sumN 6 (fun h => ifp (vParts 5 tW7 h ≤ 0) (nI 0) (nI 1)), tW8) := by
  have h1 : ¬ mPooled tW7 = 0 := by
    show ¬ sumN 6 (fun h => tW7 (6 + 4 * h + 3)) = 0
    decide +kernel
  have HD := shD_clm H (show B ≤ 20000 by omega)
  have h2 : ¬ mClaims 5 tW7 = 0 := by
    rw [HD.cl]
    have e := clm_sum H X hB (show 1 < 6 by decide)
    have o1 : opc tW7 1 = 1 := by decide +kernel
    have p1 : poc tW7 1 = 11 := by decide +kernel
    rw [if_pos o1, p1] at e
    have g := sN6_elt (f := clmN 5 tW7) (i := 1) 6 (by decide)
    intro q
    have := (nI_eq0 HD.2.2.2.1).mp q
    omega
  unfold vShares
  rw [ifp_f h1, ifp_f h2]
  rfl
theorem tk_9 : vPasses 5 tW8 (nI 2) = .inr (vPaC 5 tW8 (nI 2), tW9) := by
  unfold vPasses
  rw [ifp_f (nI_inR (a := 1) (b := 24) (by decide) (by decide) (by decide))]
  rfl
theorem tk_10 : oH tW9 (nI 4) (nI 2) = .inr (nI 5, tW10) := by
  unfold oH
  rw [ifp_f (fun q => q.elim (nbH (by decide)) (nbH (by decide))), cl_nI (by decide), cl_nI (by decide)]
  unfold vTells
  have e : tW9 (6 + 4 * 4 + 1) = nI 5 := (t9_at (by decide) (by decide) (fun i hi => by omega)).trans (by decide +kernel)
  rw [e, ifp_f (by decide)]
  rfl
theorem tk_11 : oP 5 tW10 (nI 4) (nI 3) = .inr (mPooled (wP tW10 4 1 3), wP tW10 4 1 3) := by
  have e1 : tW10 (30 + 8 * 4 + 1) = nI 6 := (updJ (by decide)).trans ((t9_st (by decide)).trans (by decide +kernel))
  have e0 : tW10 (30 + 8 * 4 + 0) = nI 1 := (updJ (by decide)).trans ((t9_st (by decide)).trans (by decide +kernel))
  exact st_P (by decide) (by decide) (by decide) (by decide) e0 (by rw [e1]; decide) (by rw [e1]; decide)
theorem t8_0 : cl (tW8 0) = 5 := by rw [t8_at (fun i hi => by omega)]; decide +kernel
theorem t9_0 : cl (tW9 0) = 5 := by rw [t9_at (by decide) (by decide) (fun i hi => by omega)]; decide +kernel
theorem t10_0 : cl (tW10 0) = 5 := by
  have e : tW10 0 = tW9 0 := updJ (by decide)
  rw [e]; exact t9_0
theorem t11_0 : cl (wP tW10 4 1 3 0) = 5 := by
  have e : wP tW10 4 1 3 0 = tW10 0 := (updJ (by decide)).trans (updJ (by decide))
  rw [e]; exact t10_0
theorem cj_re {D : Mm} {m B nx : Nat} {V : Nat → Int32} {hs : HsT} (e : cl (V 0) = m) (J : CJ D (cl (V 0)) V B hs nx) : ∃ hs2 nx2, CJ D m V B hs2 nx2 := by
  rw [e] at J
  exact ⟨hs, nx, J⟩
set_option maxHeartbeats 2000000 in
theorem KL_stock {d : Nat} {D : Mm} {Q : Option Value → Mm → Prop} (J : CJ D 0 (vF 6) 0 [] 0) (hq : ∀ D2 n B V hs nx m, CJ D2 n V B hs nx → B ≤ 480 → FrJ D D2 → 0 < m → m < 1000000 → Q (some (.int (nI m))) D2) : Ct (d + 10) 112 [.ref 0] D Q := by
  have F : FrJ D D := FrJ.rf
  have hq2 := hq
  refine ent m112 rfl rfl (ls := [.ref 0, .retAddr 0]) rfl ?_
  refine w_ald0 i112_0 ?_
  refine w_const i112_1 kc_0 ?_
  refine w_bip i112_2 kb_20 ?_
  refine w_const i112_4 kc_3 ?_
  refine w_VD4 i112_5 c54 (Or.inl rfl) (Or.inl ⟨by decide +kernel, by decide⟩) (by repeat (first | exact nvL_nil | refine nvL_cons (by first | exact True.intro | exact nvSt (by decide) | exact nvK (by omega) (by omega)) ?_)) ⟨(by repeat (first | exact nvL_nil | refine nvL_cons (by first | exact True.intro | exact nvSt (by decide) | exact nvK (by omega) (by omega)) ?_)), rfl, Nat.le_of_ble_eq_true rfl⟩ ?_
  refine J_S J (by omega) (fun x rs e => (inl_ne (sk_1) e).elim) (fun y V2 e hy D J f => ?_)
  obtain ⟨rfl, rfl⟩ := inr_eq (sk_1) e
  obtain ⟨hs, nx, J⟩ := cj_re (m := 1) (by decide +kernel) J
  have F := F.tr f
  have H := J.iv
  have X := J.xg
  refine w_ald0 i112_8 ?_
  refine w_const i112_9 kc_0 ?_
  refine w_bip i112_10 kb_9 ?_
  refine w_const i112_12 kc_2 ?_
  refine w_VD4 i112_13 c54 (Or.inl rfl) (Or.inl ⟨by decide +kernel, by decide⟩) (by repeat (first | exact nvL_nil | refine nvL_cons (by first | exact True.intro | exact nvSt (by decide) | exact nvK (by omega) (by omega)) ?_)) ⟨(by repeat (first | exact nvL_nil | refine nvL_cons (by first | exact True.intro | exact nvSt (by decide) | exact nvK (by omega) (by omega)) ?_)), rfl, Nat.le_of_ble_eq_true rfl⟩ ?_
  refine J_S J (by omega) (fun x rs e => (inl_ne (sk_2) e).elim) (fun y V2 e hy D J f => ?_)
  obtain ⟨rfl, rfl⟩ := inr_eq (sk_2) e
  obtain ⟨hs, nx, J⟩ := cj_re (m := 2) (by decide +kernel) J
  have F := F.tr f
  have H := J.iv
  have X := J.xg
  refine w_iadd i112_16 (nI_add _ _) ?_
  refine w_ald0 i112_17 ?_
  refine w_const i112_18 kc_1 ?_
  refine w_bip i112_19 kb_30 ?_
  refine w_const i112_21 kc_5 ?_
  refine w_VD4 i112_22 c54 (Or.inl rfl) (Or.inl ⟨by decide +kernel, by decide⟩) (by repeat (first | exact nvL_nil | refine nvL_cons (by first | exact True.intro | exact nvSt (by decide) | exact nvK (by omega) (by omega)) ?_)) ⟨(by repeat (first | exact nvL_nil | refine nvL_cons (by first | exact True.intro | exact nvSt (by decide) | exact nvK (by omega) (by omega)) ?_)), rfl, Nat.le_of_ble_eq_true rfl⟩ ?_
  refine J_S J (by omega) (fun x rs e => (inl_ne (sk_3) e).elim) (fun y V2 e hy D J f => ?_)
  obtain ⟨rfl, rfl⟩ := inr_eq (sk_3) e
  obtain ⟨hs, nx, J⟩ := cj_re (m := 3) (by decide +kernel) J
  have F := F.tr f
  have H := J.iv
  have X := J.xg
  refine w_iadd i112_25 (nI_add _ _) ?_
  refine w_ald0 i112_26 ?_
  refine w_const i112_27 kc_2 ?_
  refine w_bip i112_28 kb_12 ?_
  refine w_const i112_30 kc_1 ?_
  refine w_VD4 i112_31 c54 (Or.inl rfl) (Or.inl ⟨by decide +kernel, by decide⟩) (by repeat (first | exact nvL_nil | refine nvL_cons (by first | exact True.intro | exact nvSt (by decide) | exact nvK (by omega) (by omega)) ?_)) ⟨(by repeat (first | exact nvL_nil | refine nvL_cons (by first | exact True.intro | exact nvSt (by decide) | exact nvK (by omega) (by omega)) ?_)), rfl, Nat.le_of_ble_eq_true rfl⟩ ?_
  refine J_S J (by omega) (fun x rs e => (inl_ne (sk_4) e).elim) (fun y V2 e hy D J f => ?_)
  obtain ⟨rfl, rfl⟩ := inr_eq (sk_4) e
  obtain ⟨hs, nx, J⟩ := cj_re (m := 4) (by decide +kernel) J
  have F := F.tr f
  have H := J.iv
  have X := J.xg
  refine w_iadd i112_34 (nI_add _ _) ?_
  refine w_ald0 i112_35 ?_
  refine w_const i112_36 kc_1 ?_
  refine w_bip i112_37 kb_6 ?_
  refine w_bip i112_39 kb_9 ?_
  refine w_VD4 i112_41 c54 (Or.inl rfl) (Or.inl ⟨by decide +kernel, by decide⟩) (by repeat (first | exact nvL_nil | refine nvL_cons (by first | exact True.intro | exact nvSt (by decide) | exact nvK (by omega) (by omega)) ?_)) ⟨(by repeat (first | exact nvL_nil | refine nvL_cons (by first | exact True.intro | exact nvSt (by decide) | exact nvK (by omega) (by omega)) ?_)), rfl, Nat.le_of_ble_eq_true rfl⟩ ?_
  refine J_S J (by omega) (fun x rs e => (inl_ne (sk_5) e).elim) (fun y V2 e hy D J f => ?_)
  obtain ⟨rfl, rfl⟩ := inr_eq (sk_5) e
  obtain ⟨hs, nx, J⟩ := cj_re (m := 5) (by decide +kernel) J
  have F := F.tr f
  have H := J.iv
  have X := J.xg
  refine w_iadd i112_44 (nI_add _ _) ?_
  refine w_ist1 i112_45 ?_
  refine w_ild1 i112_46 ?_
  refine w_ald0 i112_47 ?_
  refine w_const i112_48 kc_0 ?_
  refine w_const i112_49 kc_1 ?_
  refine w_bip i112_50 kb_40 ?_
  refine w_VD4 i112_52 c56 (Or.inl rfl) (Or.inl ⟨by decide +kernel, by decide⟩) (by repeat (first | exact nvL_nil | refine nvL_cons (by first | exact True.intro | exact nvSt (by decide) | exact nvK (by omega) (by omega)) ?_)) ⟨(by repeat (first | exact nvL_nil | refine nvL_cons (by first | exact True.intro | exact nvSt (by decide) | exact nvK (by omega) (by omega)) ?_)), rfl, Nat.le_of_ble_eq_true rfl⟩ ?_
  refine J_O J (by omega) (fun x rs e => (inl_ne (tk_1) e).elim) (fun y V2 e hy D J f => ?_)
  obtain ⟨rfl, rfl⟩ := inr_eq (tk_1) e
  obtain ⟨hs, nx, J⟩ := cj_re (m := 5) (by decide +kernel) J
  have F := F.tr f
  have H := J.iv
  have X := J.xg
  obtain ⟨x1, hx1, ex1⟩ := owed_sm (h := 1) H
  rw [ex1]
  refine w_ald0 i112_55 ?_
  refine w_const i112_56 kc_2 ?_
  refine w_const i112_57 kc_0 ?_
  refine w_bip i112_58 kb_7 ?_
  refine w_VD4 i112_60 c56 (Or.inl rfl) (Or.inl ⟨by decide +kernel, by decide⟩) (by repeat (first | exact nvL_nil | refine nvL_cons (by first | exact True.intro | exact nvSt (by decide) | exact nvK (by omega) (by omega)) ?_)) ⟨(by repeat (first | exact nvL_nil | refine nvL_cons (by first | exact True.intro | exact nvSt (by decide) | exact nvK (by omega) (by omega)) ?_)), rfl, Nat.le_of_ble_eq_true rfl⟩ ?_
  refine J_O J (by omega) (fun x rs e => (inl_ne (tk_2) e).elim) (fun y V2 e hy D J f => ?_)
  obtain ⟨rfl, rfl⟩ := inr_eq (tk_2) e
  obtain ⟨hs, nx, J⟩ := cj_re (m := 5) (by decide +kernel) J
  have F := F.tr f
  have H := J.iv
  have X := J.xg
  obtain ⟨x2, hx2, ex2⟩ := owed_sm (h := 0) H
  rw [ex2]
  refine w_iadd i112_63 (nI_add _ _) ?_
  refine w_ald0 i112_64 ?_
  refine w_const i112_65 kc_3 ?_
  refine w_const i112_66 kc_1 ?_
  refine w_const i112_67 kc_5 ?_
  refine w_VD4 i112_68 c56 (Or.inl rfl) (Or.inl ⟨by decide +kernel, by decide⟩) (by repeat (first | exact nvL_nil | refine nvL_cons (by first | exact True.intro | exact nvSt (by decide) | exact nvK (by omega) (by omega)) ?_)) ⟨(by repeat (first | exact nvL_nil | refine nvL_cons (by first | exact True.intro | exact nvSt (by decide) | exact nvK (by omega) (by omega)) ?_)), rfl, Nat.le_of_ble_eq_true rfl⟩ ?_
  refine J_O J (by omega) (fun x rs e => (inl_ne (tk_3) e).elim) (fun y V2 e hy D J f => ?_)
  obtain ⟨rfl, rfl⟩ := inr_eq (tk_3) e
  obtain ⟨hs, nx, J⟩ := cj_re (m := 5) (by decide +kernel) J
  have F := F.tr f
  have H := J.iv
  have X := J.xg
  obtain ⟨x3, hx3, ex3⟩ := owed_sm (h := 1) H
  rw [ex3]
  refine w_iadd i112_71 (nI_add _ _) ?_
  refine w_ald0 i112_72 ?_
  refine w_const i112_73 kc_2 ?_
  refine w_const i112_74 kc_1 ?_
  refine w_const i112_75 kc_4 ?_
  refine w_VD4 i112_76 c57 (Or.inl rfl) (Or.inl ⟨by decide +kernel, by decide⟩) (by repeat (first | exact nvL_nil | refine nvL_cons (by first | exact True.intro | exact nvSt (by decide) | exact nvK (by omega) (by omega)) ?_)) ⟨(by repeat (first | exact nvL_nil | refine nvL_cons (by first | exact True.intro | exact nvSt (by decide) | exact nvK (by omega) (by omega)) ?_)), rfl, Nat.le_of_ble_eq_true rfl⟩ ?_
  refine J_W J (by omega) (fun x rs e => (inl_ne (tk_4) e).elim) (fun y V2 e hy D J f => ?_)
  obtain ⟨rfl, rfl⟩ := inr_eq (tk_4) e
  obtain ⟨hs, nx, J⟩ := cj_re (m := 5) (by decide +kernel) J
  have F := F.tr f
  have H := J.iv
  have X := J.xg
  obtain ⟨x4, hx4, ex4⟩ := writs_sm H
  rw [ex4]
  refine w_iadd i112_79 (nI_add _ _) ?_
  refine w_ald0 i112_80 ?_
  refine w_const i112_81 kc_2 ?_
  refine w_bip i112_82 kb_11 ?_
  refine w_VD3 i112_84 c59 (Or.inl rfl) (Or.inl ⟨by decide +kernel, by decide⟩) (by repeat (first | exact nvL_nil | refine nvL_cons (by first | exact True.intro | exact nvSt (by decide) | exact nvK (by omega) (by omega)) ?_)) ⟨(by repeat (first | exact nvL_nil | refine nvL_cons (by first | exact True.intro | exact nvSt (by decide) | exact nvK (by omega) (by omega)) ?_)), rfl, Nat.le_of_ble_eq_true rfl⟩ ?_
  refine J_P J (by omega) (fun x rs e => (inl_ne (tk_5) e).elim) (fun y V2 e hy D J f => ?_)
  obtain ⟨rfl, rfl⟩ := inr_eq (tk_5) e
  obtain ⟨hs, nx, J⟩ := cj_re (m := 5) (by decide +kernel) J
  have F := F.tr f
  have H := J.iv
  have X := J.xg
  obtain ⟨x5, hx5, ex5⟩ := pooled_sm H (by omega)
  rw [ex5]
  refine w_iadd i112_87 (nI_add _ _) ?_
  refine w_ald0 i112_88 ?_
  refine w_const i112_89 kc_3 ?_
  refine w_const i112_90 kc_2 ?_
  refine w_VD3 i112_91 c59 (Or.inl rfl) (Or.inl ⟨by decide +kernel, by decide⟩) (by repeat (first | exact nvL_nil | refine nvL_cons (by first | exact True.intro | exact nvSt (by decide) | exact nvK (by omega) (by omega)) ?_)) ⟨(by repeat (first | exact nvL_nil | refine nvL_cons (by first | exact True.intro | exact nvSt (by decide) | exact nvK (by omega) (by omega)) ?_)), rfl, Nat.le_of_ble_eq_true rfl⟩ ?_
  refine J_P J (by omega) (fun x rs e => (inl_ne (tk_6) e).elim) (fun y V2 e hy D J f => ?_)
  obtain ⟨rfl, rfl⟩ := inr_eq (tk_6) e
  obtain ⟨hs, nx, J⟩ := cj_re (m := 5) (by decide +kernel) J
  have F := F.tr f
  have H := J.iv
  have X := J.xg
  obtain ⟨x6, hx6, ex6⟩ := pooled_sm H (by omega)
  rw [ex6]
  refine w_iadd i112_94 (nI_add _ _) ?_
  refine w_iadd i112_95 (nI_add _ _) ?_
  refine w_ist1 i112_96 ?_
  refine w_ild1 i112_97 ?_
  refine w_ald0 i112_98 ?_
  refine w_const i112_99 kc_0 ?_
  refine w_const i112_100 kc_4 ?_
  refine w_VD3 i112_101 c55 (Or.inl rfl) (Or.inl ⟨by decide +kernel, by decide⟩) (by repeat (first | exact nvL_nil | refine nvL_cons (by first | exact True.intro | exact nvSt (by decide) | exact nvK (by omega) (by omega)) ?_)) ⟨(by repeat (first | exact nvL_nil | refine nvL_cons (by first | exact True.intro | exact nvSt (by decide) | exact nvK (by omega) (by omega)) ?_)), rfl, Nat.le_of_ble_eq_true rfl⟩ ?_
  refine J_B J (by omega) (fun x rs e => (inl_ne (tk_7) e).elim) (fun y V2 e hy D J f => ?_)
  obtain ⟨rfl, rfl⟩ := inr_eq (tk_7) e
  obtain ⟨hs, nx, J⟩ := cj_re (m := 5) (by decide +kernel) J
  have F := F.tr f
  have H := J.iv
  have X := J.xg
  refine w_iadd i112_104 (nI_add _ _) ?_
  refine w_ald0 i112_105 ?_
  refine w_VD1 i112_106 c60 (Or.inl rfl) (Or.inl ⟨by decide +kernel, by decide⟩) (by repeat (first | exact nvL_nil | refine nvL_cons (by first | exact True.intro | exact nvSt (by decide) | exact nvK (by omega) (by omega)) ?_)) ⟨(by repeat (first | exact nvL_nil | refine nvL_cons (by first | exact True.intro | exact nvSt (by decide) | exact nvK (by omega) (by omega)) ?_)), rfl, Nat.le_of_ble_eq_true rfl⟩ ?_
  refine J_D J (by omega) (fun x rs e => (inl_ne (tk_8 H X (by omega)) e).elim) (fun y V2 e hy D J f => ?_)
  obtain ⟨rfl, rfl⟩ := inr_eq (tk_8 H X (by omega)) e
  obtain ⟨hs, nx, J⟩ := cj_re (m := 5) (t8_0) J
  have F := F.tr f
  have H := J.iv
  have X := J.xg
  obtain ⟨x7, hx7, ex7⟩ := shares_sm (n := 5) (P := vParts 5 tW7)
  rw [ex7]
  refine w_iadd i112_109 (nI_add _ _) ?_
  refine w_ald0 i112_110 ?_
  refine w_const i112_111 kc_2 ?_
  refine w_VD2 i112_112 c66 (Or.inl rfl) (Or.inl ⟨by decide +kernel, by decide⟩) (by repeat (first | exact nvL_nil | refine nvL_cons (by first | exact True.intro | exact nvSt (by decide) | exact nvK (by omega) (by omega)) ?_)) ⟨(by repeat (first | exact nvL_nil | refine nvL_cons (by first | exact True.intro | exact nvSt (by decide) | exact nvK (by omega) (by omega)) ?_)), rfl, Nat.le_of_ble_eq_true rfl⟩ ?_
  refine J_T J (by omega) (fun x rs e => (inl_ne (tk_9) e).elim) (fun y V2 e hy D J f => ?_)
  obtain ⟨rfl, rfl⟩ := inr_eq (tk_9) e
  obtain ⟨hs, nx, J⟩ := cj_re (m := 5) (t9_0) J
  have F := F.tr f
  have H := J.iv
  have X := J.xg
  obtain ⟨x8, hx8, ex8⟩ := passed_sm (n := 5) (V := tW8) (x := nI 2) (by decide)
  rw [ex8]
  refine w_iadd i112_115 (nI_add _ _) ?_
  refine w_ald0 i112_116 ?_
  refine w_const i112_117 kc_4 ?_
  refine w_const i112_118 kc_2 ?_
  refine w_VD3 i112_119 c64 (Or.inl rfl) (Or.inl ⟨by decide +kernel, by decide⟩) (by repeat (first | exact nvL_nil | refine nvL_cons (by first | exact True.intro | exact nvSt (by decide) | exact nvK (by omega) (by omega)) ?_)) ⟨(by repeat (first | exact nvL_nil | refine nvL_cons (by first | exact True.intro | exact nvSt (by decide) | exact nvK (by omega) (by omega)) ?_)), rfl, Nat.le_of_ble_eq_true rfl⟩ ?_
  refine J_H J (by omega) (fun x rs e => (inl_ne (tk_10) e).elim) (fun y V2 e hy D J f => ?_)
  obtain ⟨rfl, rfl⟩ := inr_eq (tk_10) e
  obtain ⟨hs, nx, J⟩ := cj_re (m := 5) (t10_0) J
  have F := F.tr f
  have H := J.iv
  have X := J.xg
  refine w_iadd i112_122 (nI_add _ _) ?_
  refine w_ald0 i112_123 ?_
  refine w_const i112_124 kc_4 ?_
  refine w_const i112_125 kc_3 ?_
  refine w_VD3 i112_126 c59 (Or.inl rfl) (Or.inl ⟨by decide +kernel, by decide⟩) (by repeat (first | exact nvL_nil | refine nvL_cons (by first | exact True.intro | exact nvSt (by decide) | exact nvK (by omega) (by omega)) ?_)) ⟨(by repeat (first | exact nvL_nil | refine nvL_cons (by first | exact True.intro | exact nvSt (by decide) | exact nvK (by omega) (by omega)) ?_)), rfl, Nat.le_of_ble_eq_true rfl⟩ ?_
  refine J_P J (by omega) (fun x rs e => (inl_ne (tk_11) e).elim) (fun y V2 e hy D J f => ?_)
  obtain ⟨rfl, rfl⟩ := inr_eq (tk_11) e
  obtain ⟨hs, nx, J⟩ := cj_re (m := 5) (t11_0) J
  have F := F.tr f
  have H := J.iv
  have X := J.xg
  obtain ⟨x9, hx9, ex9⟩ := pooled_sm H (by omega)
  rw [ex9]
  refine w_iadd i112_129 (nI_add _ _) ?_
  refine w_ri i112_130 r112 ?_
  exact hq2 D _ _ _ _ _ _ J (by omega) F (by omega) (by omega)
