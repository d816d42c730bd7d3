/-! the law's foretelling: an ending -/
theorem inl_eq {o : Out} {x0 x : Int32} {r0 rs : List (Int32 × Int32)} (h : o = .inl (x0, r0)) (g : o = .inl (x, rs)) : x = x0 ∧ rs = r0 := by
  rw [h] at g
  cases g
  exact ⟨rfl, rfl⟩
theorem inr_ne {o : Out} {x0 a : Int32} {r0 : List (Int32 × Int32)} {W : Nat → Int32} (h : o = .inl (x0, r0)) (g : o = .inr (a, W)) : False := by rw [h] at g; cases g
theorem rs_0 {a b : Int32} {t : List (Int32 × Int32)} : resR ((a, b) :: t) 0 (nI 0) = a := ifp_t rfl
theorem rs_1 {a b : Int32} {t : List (Int32 × Int32)} : resR ((a, b) :: t) 0 (nI 1) = b := ifp_f (by decide)
theorem rs_2 {a b u v : Int32} {t : List (Int32 × Int32)} : resR ((a, b) :: (u, v) :: t) 1 (nI 0) = u := ifp_t rfl
theorem rs_3 {a b u v : Int32} {t : List (Int32 × Int32)} : resR ((a, b) :: (u, v) :: t) 1 (nI 1) = v := ifp_f (by decide)
theorem Sav.bt {D D2 : Mm} {ob n B : Nat} {V : Nat → Int32} (h : Sav D n V B) (hb : dyn D ob 8) (g : BtX D D2 ob) : Sav D2 n V B := h.re (fun q hq => g.1 q (by have := dyn_ge hb; omega))
set_option maxHeartbeats 1000000 in
theorem fo_0 {d : Nat} {D : Mm} {Q : Option Value → Mm → Prop} {n B nx ob : Nat} {V : Nat → Int32} {hs : HsT} {u2 u3 u4 u5 u6 u7 u8 u9 u10 u11 u12 u13 u14 u15 u16 u17 u18 u19 u20 : Value} (n2 : nvQ u2) (n3 : nvQ u3) (n4 : nvQ u4) (n5 : nvQ u5) (n6 : nvQ u6) (n7 : nvQ u7) (n8 : nvQ u8) (n9 : nvQ u9) (n10 : nvQ u10) (n11 : nvQ u11) (n12 : nvQ u12) (n13 : nvQ u13) (n14 : nvQ u14) (n15 : nvQ u15) (n16 : nvQ u16) (n17 : nvQ u17) (n18 : nvQ u18) (n19 : nvQ u19) (n20 : nvQ u20) (J : CJ D n V B hs nx) (hb : dyn D ob 8) (hk : ∀ D2 h, h < 6 → CJ D2 n V B hs nx → Sav D2 n V B → dyn D2 ob 8 → FrKb ob D D2 → Wp (d + 10) 117 Q 15 [.ref 0, .ref ob, .int (nI n), .int (nI 1), .int (nI h), u5, u6, u7, u8, u9, u10, u11, u12, u13, u14, u15, u16, u17, u18, u19, u20] [] D2) : Wp (d + 10) 117 Q 0 [.ref 0, .ref ob, u2, u3, u4, u5, u6, u7, u8, u9, u10, u11, u12, u13, u14, u15, u16, u17, u18, u19, u20] [] D := by
  refine w_ald0 i117_0 ?_
  refine w_VD1 i117_1 c83 (Or.inl rfl) (Or.inl ⟨by decide +kernel, by decide⟩) (by repeat (first | exact nvL_nil | refine nvL_cons (by first | exact True.intro | exact nvSt (by decide) | exact nvD hb.1 | exact n2.nv | exact n3.nv | exact n4.nv | exact n5.nv | exact n6.nv | exact n7.nv | exact n8.nv | exact n9.nv | exact n10.nv | exact n11.nv | exact n12.nv | exact n13.nv | exact n14.nv | exact n15.nv | exact n16.nv | exact n17.nv | exact n18.nv | exact n19.nv | exact n20.nv | exact nvK (by omega) (by omega)) ?_)) ⟨(by repeat (first | exact nvL_nil | refine nvL_cons (by first | exact True.intro | exact nvSt (by decide) | exact nvD hb.1 | exact n2.nv | exact n3.nv | exact n4.nv | exact n5.nv | exact n6.nv | exact n7.nv | exact n8.nv | exact n9.nv | exact n10.nv | exact n11.nv | exact n12.nv | exact n13.nv | exact n14.nv | exact n15.nv | exact n16.nv | exact n17.nv | exact n18.nv | exact n19.nv | exact n20.nv | exact nvK (by omega) (by omega)) ?_)), rfl, Nat.le_of_ble_eq_true rfl⟩ ?_
  refine J_save J (fun D J S f => ?_)
  have hb0 := dyn_ge hb
  have hb := dyn_fr hb (by unfold nxt; rw [f 4500 (by decide)]; exact Nat.le_refl _) (f ob (by omega))
  have F : FrKb ob _ D := fun q a b => f q (by omega)
  refine w_ist2 i117_4 ?_
  refine w_const i117_5 kc_1 ?_
  refine w_ist3 i117_6 ?_
  refine w_ald1 i117_7 ?_
  refine w_bip i117_8 kb_6 ?_
  refine w_VD2 i117_10 c119 (Or.inl rfl) (Or.inr ⟨hb.1, by rw [hb.2]; decide +kernel, by rw [hb.2]; decide⟩) (by repeat (first | exact nvL_nil | refine nvL_cons (by first | exact True.intro | exact nvSt (by decide) | exact nvD hb.1 | exact n2.nv | exact n3.nv | exact n4.nv | exact n5.nv | exact n6.nv | exact n7.nv | exact n8.nv | exact n9.nv | exact n10.nv | exact n11.nv | exact n12.nv | exact n13.nv | exact n14.nv | exact n15.nv | exact n16.nv | exact n17.nv | exact n18.nv | exact n19.nv | exact n20.nv | exact nvK (by omega) (by omega)) ?_)) ⟨(by repeat (first | exact nvL_nil | refine nvL_cons (by first | exact True.intro | exact nvSt (by decide) | exact nvD hb.1 | exact n2.nv | exact n3.nv | exact n4.nv | exact n5.nv | exact n6.nv | exact n7.nv | exact n8.nv | exact n9.nv | exact n10.nv | exact n11.nv | exact n12.nv | exact n13.nv | exact n14.nv | exact n15.nv | exact n16.nv | exact n17.nv | exact n18.nv | exact n19.nv | exact n20.nv | exact nvK (by omega) (by omega)) ?_)), rfl, Nat.le_of_ble_eq_true rfl⟩ ?_
  refine K_next hb (by decide) (by decide) (fun D h hh g => ?_)
  have J := J.bt hb g
  have S := S.bt hb g
  have F := F.bt g
  have hb := g.2
  refine w_ist4 i117_13 ?_
  exact hk D h hh J S hb F
set_option maxHeartbeats 1000000 in
theorem fo_1 {d : Nat} {D : Mm} {Q : Option Value → Mm → Prop} {n B nx ob h : Nat} {V : Nat → Int32} {hs : HsT} {l2 l3 hi me : Int32} {u5 u6 u7 u8 u9 u10 u11 u12 u13 u14 u15 u16 u17 u18 u19 u20 : Value} (n5 : nvQ u5) (n6 : nvQ u6) (n7 : nvQ u7) (n8 : nvQ u8) (n9 : nvQ u9) (n10 : nvQ u10) (n11 : nvQ u11) (n12 : nvQ u12) (n13 : nvQ u13) (n14 : nvQ u14) (n15 : nvQ u15) (n16 : nvQ u16) (n17 : nvQ u17) (n18 : nvQ u18) (n19 : nvQ u19) (n20 : nvQ u20) (R : Rel D n V) (h12 : n ≤ 12) (hop : opV V) (hby : byV n V) (hb : dyn D ob 8) (ci : Ct (d + 10) 68 [.ref 0, .int (nI h)] D (Ex (some (.int hi)) D)) (cm : Ct (d + 10) 69 [.ref 0, .int (nI h)] D (Ex (some (.int me)) D)) (hk : Wp (d + 10) 117 Q 57 [.ref 0, .ref ob, .int l2, .int l3, .int (nI h), .int hi, .int me, .int (mOpens V), .int (mOfAll n V 1 + mStores V + mPooled V), u9, u10, u11, u12, u13, u14, u15, u16, u17, u18, u19, u20] [] D) : Wp (d + 10) 117 Q 15 [.ref 0, .ref ob, .int l2, .int l3, .int (nI h), u5, u6, u7, u8, u9, u10, u11, u12, u13, u14, u15, u16, u17, u18, u19, u20] [] D := by
  refine w_ald0 i117_15 ?_
  refine w_ild4 i117_16 ?_
  refine w_VD2 i117_18 c68 (Or.inl rfl) (Or.inl ⟨by decide +kernel, by decide⟩) (by repeat (first | exact nvL_nil | refine nvL_cons (by first | exact True.intro | exact nvSt (by decide) | exact nvD hb.1 | exact n2.nv | exact n3.nv | exact n4.nv | exact n5.nv | exact n6.nv | exact n7.nv | exact n8.nv | exact n9.nv | exact n10.nv | exact n11.nv | exact n12.nv | exact n13.nv | exact n14.nv | exact n15.nv | exact n16.nv | exact n17.nv | exact n18.nv | exact n19.nv | exact n20.nv | exact nvK (by omega) (by omega)) ?_)) ⟨(by repeat (first | exact nvL_nil | refine nvL_cons (by first | exact True.intro | exact nvSt (by decide) | exact nvD hb.1 | exact n2.nv | exact n3.nv | exact n4.nv | exact n5.nv | exact n6.nv | exact n7.nv | exact n8.nv | exact n9.nv | exact n10.nv | exact n11.nv | exact n12.nv | exact n13.nv | exact n14.nv | exact n15.nv | exact n16.nv | exact n17.nv | exact n18.nv | exact n19.nv | exact n20.nv | exact nvK (by omega) (by omega)) ?_)), rfl, Nat.le_of_ble_eq_true rfl⟩ (Ex_go ci ?_)
  refine w_ist5 i117_21 ?_
  refine w_ald0 i117_23 ?_
  refine w_ild4 i117_24 ?_
  refine w_VD2 i117_26 c69 (Or.inl rfl) (Or.inl ⟨by decide +kernel, by decide⟩) (by repeat (first | exact nvL_nil | refine nvL_cons (by first | exact True.intro | exact nvSt (by decide) | exact nvD hb.1 | exact n2.nv | exact n3.nv | exact n4.nv | exact n5.nv | exact n6.nv | exact n7.nv | exact n8.nv | exact n9.nv | exact n10.nv | exact n11.nv | exact n12.nv | exact n13.nv | exact n14.nv | exact n15.nv | exact n16.nv | exact n17.nv | exact n18.nv | exact n19.nv | exact n20.nv | exact nvK (by omega) (by omega)) ?_)) ⟨(by repeat (first | exact nvL_nil | refine nvL_cons (by first | exact True.intro | exact nvSt (by decide) | exact nvD hb.1 | exact n2.nv | exact n3.nv | exact n4.nv | exact n5.nv | exact n6.nv | exact n7.nv | exact n8.nv | exact n9.nv | exact n10.nv | exact n11.nv | exact n12.nv | exact n13.nv | exact n14.nv | exact n15.nv | exact n16.nv | exact n17.nv | exact n18.nv | exact n19.nv | exact n20.nv | exact nvK (by omega) (by omega)) ?_)), rfl, Nat.le_of_ble_eq_true rfl⟩ (Ex_go cm ?_)
  refine w_ist6 i117_29 ?_
  refine w_ald0 i117_31 ?_
  refine w_const i117_32 kc_1 ?_
  refine w_VD2 i117_33 c80 (Or.inl rfl) (Or.inl ⟨by decide +kernel, by decide⟩) (by repeat (first | exact nvL_nil | refine nvL_cons (by first | exact True.intro | exact nvSt (by decide) | exact nvD hb.1 | exact n2.nv | exact n3.nv | exact n4.nv | exact n5.nv | exact n6.nv | exact n7.nv | exact n8.nv | exact n9.nv | exact n10.nv | exact n11.nv | exact n12.nv | exact n13.nv | exact n14.nv | exact n15.nv | exact n16.nv | exact n17.nv | exact n18.nv | exact n19.nv | exact n20.nv | exact nvK (by omega) (by omega)) ?_)) ⟨(by repeat (first | exact nvL_nil | refine nvL_cons (by first | exact True.intro | exact nvSt (by decide) | exact nvD hb.1 | exact n2.nv | exact n3.nv | exact n4.nv | exact n5.nv | exact n6.nv | exact n7.nv | exact n8.nv | exact n9.nv | exact n10.nv | exact n11.nv | exact n12.nv | exact n13.nv | exact n14.nv | exact n15.nv | exact n16.nv | exact n17.nv | exact n18.nv | exact n19.nv | exact n20.nv | exact nvK (by omega) (by omega)) ?_)), rfl, Nat.le_of_ble_eq_true rfl⟩ (Ex_go (K_acc1 R h12 hop hby) ?_)
  refine w_ist7 i117_36 ?_
  refine w_ald0 i117_38 ?_
  refine w_const i117_39 kc_3 ?_
  refine w_VD2 i117_40 c80 (Or.inl rfl) (Or.inl ⟨by decide +kernel, by decide⟩) (by repeat (first | exact nvL_nil | refine nvL_cons (by first | exact True.intro | exact nvSt (by decide) | exact nvD hb.1 | exact n2.nv | exact n3.nv | exact n4.nv | exact n5.nv | exact n6.nv | exact n7.nv | exact n8.nv | exact n9.nv | exact n10.nv | exact n11.nv | exact n12.nv | exact n13.nv | exact n14.nv | exact n15.nv | exact n16.nv | exact n17.nv | exact n18.nv | exact n19.nv | exact n20.nv | exact nvK (by omega) (by omega)) ?_)) ⟨(by repeat (first | exact nvL_nil | refine nvL_cons (by first | exact True.intro | exact nvSt (by decide) | exact nvD hb.1 | exact n2.nv | exact n3.nv | exact n4.nv | exact n5.nv | exact n6.nv | exact n7.nv | exact n8.nv | exact n9.nv | exact n10.nv | exact n11.nv | exact n12.nv | exact n13.nv | exact n14.nv | exact n15.nv | exact n16.nv | exact n17.nv | exact n18.nv | exact n19.nv | exact n20.nv | exact nvK (by omega) (by omega)) ?_)), rfl, Nat.le_of_ble_eq_true rfl⟩ (Ex_go (K_acc3 R h12 hop hby) ?_)
  refine w_ald0 i117_43 ?_
  refine w_const i117_44 kc_4 ?_
  refine w_VD2 i117_45 c80 (Or.inl rfl) (Or.inl ⟨by decide +kernel, by decide⟩) (by repeat (first | exact nvL_nil | refine nvL_cons (by first | exact True.intro | exact nvSt (by decide) | exact nvD hb.1 | exact n2.nv | exact n3.nv | exact n4.nv | exact n5.nv | exact n6.nv | exact n7.nv | exact n8.nv | exact n9.nv | exact n10.nv | exact n11.nv | exact n12.nv | exact n13.nv | exact n14.nv | exact n15.nv | exact n16.nv | exact n17.nv | exact n18.nv | exact n19.nv | exact n20.nv | exact nvK (by omega) (by omega)) ?_)) ⟨(by repeat (first | exact nvL_nil | refine nvL_cons (by first | exact True.intro | exact nvSt (by decide) | exact nvD hb.1 | exact n2.nv | exact n3.nv | exact n4.nv | exact n5.nv | exact n6.nv | exact n7.nv | exact n8.nv | exact n9.nv | exact n10.nv | exact n11.nv | exact n12.nv | exact n13.nv | exact n14.nv | exact n15.nv | exact n16.nv | exact n17.nv | exact n18.nv | exact n19.nv | exact n20.nv | exact nvK (by omega) (by omega)) ?_)), rfl, Nat.le_of_ble_eq_true rfl⟩ (Ex_go (K_acc4 R h12 hop hby) ?_)
  refine w_iadd i117_48 rfl ?_
  refine w_ald0 i117_49 ?_
  refine w_const i117_50 kc_5 ?_
  refine w_VD2 i117_51 c80 (Or.inl rfl) (Or.inl ⟨by decide +kernel, by decide⟩) (by repeat (first | exact nvL_nil | refine nvL_cons (by first | exact True.intro | exact nvSt (by decide) | exact nvD hb.1 | exact n2.nv | exact n3.nv | exact n4.nv | exact n5.nv | exact n6.nv | exact n7.nv | exact n8.nv | exact n9.nv | exact n10.nv | exact n11.nv | exact n12.nv | exact n13.nv | exact n14.nv | exact n15.nv | exact n16.nv | exact n17.nv | exact n18.nv | exact n19.nv | exact n20.nv | exact nvK (by omega) (by omega)) ?_)) ⟨(by repeat (first | exact nvL_nil | refine nvL_cons (by first | exact True.intro | exact nvSt (by decide) | exact nvD hb.1 | exact n2.nv | exact n3.nv | exact n4.nv | exact n5.nv | exact n6.nv | exact n7.nv | exact n8.nv | exact n9.nv | exact n10.nv | exact n11.nv | exact n12.nv | exact n13.nv | exact n14.nv | exact n15.nv | exact n16.nv | exact n17.nv | exact n18.nv | exact n19.nv | exact n20.nv | exact nvK (by omega) (by omega)) ?_)), rfl, Nat.le_of_ble_eq_true rfl⟩ (Ex_go (K_acc5 R h12 hop hby) ?_)
  refine w_iadd i117_54 rfl ?_
  refine w_ist8 i117_55 ?_
  exact hk
set_option maxHeartbeats 1000000 in
theorem fo_2_2 {d : Nat} {D : Mm} {Q : Option Value → Mm → Prop} {n B nx ob h : Nat} {V : Nat → Int32} {hs : HsT} {l7 l8 : Int32} {u6 : Value} (n6 : nvQ u6) {u9 u10 u11 u12 u13 u14 u15 u16 u17 u18 u19 u20 : Value} (n9 : nvQ u9) (n10 : nvQ u10) (n11 : nvQ u11) (n12 : nvQ u12) (n13 : nvQ u13) (n14 : nvQ u14) (n15 : nvQ u15) (n16 : nvQ u16) (n17 : nvQ u17) (n18 : nvQ u18) (n19 : nvQ u19) (n20 : nvQ u20) (J : CJ D n V B hs nx) (hB : B ≤ 9000) (hb : dyn D ob 8) (hh : h < 6) (hE : oE n V (nI h) = .inl (-1014, [(nI 2, nI h)])) (hk : ∀ D2, CJ D2 n V B hs nx → FrJ D D2 → dyn D2 ob 8 → Wp (d + 10) 117 Q 192 [.ref 0, .ref ob, .int (nI n), .int (nI 1), .int (nI h), .int (-1015), u6, .int l7, .int l8, .int (-1014), u10, u11, u12, u13, u14, u15, u16, u17, u18, u19, u20] [] D2) : Wp (d + 10) 117 Q 57 [.ref 0, .ref ob, .int (nI n), .int (nI 1), .int (nI h), .int (-1015), u6, .int l7, .int l8, u9, u10, u11, u12, u13, u14, u15, u16, u17, u18, u19, u20] [] D := by
  refine w_ald0 i117_57 ?_
  refine w_ild4 i117_58 ?_
  refine w_VD2 i117_60 c65 (Or.inl rfl) (Or.inl ⟨by decide +kernel, by decide⟩) (by repeat (first | exact nvL_nil | refine nvL_cons (by first | exact True.intro | exact nvSt (by decide) | exact nvD hb.1 | exact n6.nv | exact n9.nv | exact n10.nv | exact n11.nv | exact n12.nv | exact n13.nv | exact n14.nv | exact n15.nv | exact n16.nv | exact n17.nv | exact n18.nv | exact n19.nv | exact n20.nv | exact nvK (by omega) (by omega)) ?_)) ⟨(by repeat (first | exact nvL_nil | refine nvL_cons (by first | exact True.intro | exact nvSt (by decide) | exact nvD hb.1 | exact n6.nv | exact n9.nv | exact n10.nv | exact n11.nv | exact n12.nv | exact n13.nv | exact n14.nv | exact n15.nv | exact n16.nv | exact n17.nv | exact n18.nv | exact n19.nv | exact n20.nv | exact nvK (by omega) (by omega)) ?_)), rfl, Nat.le_of_ble_eq_true rfl⟩ ?_
  refine J_E J hB (fun x rs e D J f rc => ?_) (fun y V2 e => (inr_ne hE e).elim)
  obtain ⟨rfl, rfl⟩ := inl_eq hE e
  have rc := rc (List.cons_ne_nil _ _)
  have hb := f.dy hb
  refine w_ist9 i117_63 ?_
  refine w_ild3 i117_65 ?_
  refine w_ild5 i117_66 ?_
  refine w_sip i117_68 ks_m1015 ?_
  refine w_cneF i117_71  rfl ?_
  refine w_ild9 i117_74 ?_
  refine w_sip i117_76 ks_m1014 ?_
  refine w_cneF i117_79  rfl ?_
  refine w_ald0 i117_82 ?_
  refine w_const i117_83 kc_0 ?_
  refine w_const i117_84 kc_0 ?_
  refine w_VD3 i117_85 c79 (Or.inl rfl) (Or.inl ⟨by decide +kernel, by decide⟩) (by repeat (first | exact nvL_nil | refine nvL_cons (by first | exact True.intro | exact nvSt (by decide) | exact nvD hb.1 | exact n6.nv | exact n9.nv | exact n10.nv | exact n11.nv | exact n12.nv | exact n13.nv | exact n14.nv | exact n15.nv | exact n16.nv | exact n17.nv | exact n18.nv | exact n19.nv | exact n20.nv | exact nvK (by omega) (by omega)) ?_)) ⟨(by repeat (first | exact nvL_nil | refine nvL_cons (by first | exact True.intro | exact nvSt (by decide) | exact nvD hb.1 | exact n6.nv | exact n9.nv | exact n10.nv | exact n11.nv | exact n12.nv | exact n13.nv | exact n14.nv | exact n15.nv | exact n16.nv | exact n17.nv | exact n18.nv | exact n19.nv | exact n20.nv | exact nvK (by omega) (by omega)) ?_)), rfl, Nat.le_of_ble_eq_true rfl⟩ (Ex_go (K_reason rc (Nat.le_of_ble_eq_true rfl) (w := 0) (by decide)) ?_)
  rw [rs_0]
  refine w_const i117_88 kc_2 ?_
  refine w_ceqNT i117_89 g117_89 (by omega) (by omega) (by omega) ?_
  refine w_ald0 i117_103 ?_
  refine w_const i117_104 kc_0 ?_
  refine w_const i117_105 kc_1 ?_
  refine w_VD3 i117_106 c79 (Or.inl rfl) (Or.inl ⟨by decide +kernel, by decide⟩) (by repeat (first | exact nvL_nil | refine nvL_cons (by first | exact True.intro | exact nvSt (by decide) | exact nvD hb.1 | exact n6.nv | exact n9.nv | exact n10.nv | exact n11.nv | exact n12.nv | exact n13.nv | exact n14.nv | exact n15.nv | exact n16.nv | exact n17.nv | exact n18.nv | exact n19.nv | exact n20.nv | exact nvK (by omega) (by omega)) ?_)) ⟨(by repeat (first | exact nvL_nil | refine nvL_cons (by first | exact True.intro | exact nvSt (by decide) | exact nvD hb.1 | exact n6.nv | exact n9.nv | exact n10.nv | exact n11.nv | exact n12.nv | exact n13.nv | exact n14.nv | exact n15.nv | exact n16.nv | exact n17.nv | exact n18.nv | exact n19.nv | exact n20.nv | exact nvK (by omega) (by omega)) ?_)), rfl, Nat.le_of_ble_eq_true rfl⟩ (Ex_go (K_reason rc (Nat.le_of_ble_eq_true rfl) (w := 0) (by decide)) ?_)
  rw [rs_1]
  refine w_ild4 i117_109 ?_
  refine w_cneF i117_111  rfl ?_
  refine w_const i117_114 kc_1 ?_
  refine w_goto i117_115 g117_115 ?_
  refine w_iand i117_190 (v := nI 1) (by decide) ?_
  refine w_ist3 i117_191 ?_
  exact hk D J f hb
set_option maxHeartbeats 1000000 in
theorem fo_2_15 {d : Nat} {D : Mm} {Q : Option Value → Mm → Prop} {n B nx ob h : Nat} {V : Nat → Int32} {hs : HsT} {l7 l8 : Int32} {u6 : Value} (n6 : nvQ u6) {u9 u10 u11 u12 u13 u14 u15 u16 u17 u18 u19 u20 : Value} (n9 : nvQ u9) (n10 : nvQ u10) (n11 : nvQ u11) (n12 : nvQ u12) (n13 : nvQ u13) (n14 : nvQ u14) (n15 : nvQ u15) (n16 : nvQ u16) (n17 : nvQ u17) (n18 : nvQ u18) (n19 : nvQ u19) (n20 : nvQ u20) (J : CJ D n V B hs nx) (hB : B ≤ 9000) (hb : dyn D ob 8) (hh : h < 6) (hE : oE n V (nI h) = .inl (-1014, [(nI 15, nI h)])) (hk : ∀ D2, CJ D2 n V B hs nx → FrJ D D2 → dyn D2 ob 8 → Wp (d + 10) 117 Q 192 [.ref 0, .ref ob, .int (nI n), .int (nI 1), .int (nI h), .int (-1015), u6, .int l7, .int l8, .int (-1014), u10, u11, u12, u13, u14, u15, u16, u17, u18, u19, u20] [] D2) : Wp (d + 10) 117 Q 57 [.ref 0, .ref ob, .int (nI n), .int (nI 1), .int (nI h), .int (-1015), u6, .int l7, .int l8, u9, u10, u11, u12, u13, u14, u15, u16, u17, u18, u19, u20] [] D := by
  refine w_ald0 i117_57 ?_
  refine w_ild4 i117_58 ?_
  refine w_VD2 i117_60 c65 (Or.inl rfl) (Or.inl ⟨by decide +kernel, by decide⟩) (by repeat (first | exact nvL_nil | refine nvL_cons (by first | exact True.intro | exact nvSt (by decide) | exact nvD hb.1 | exact n6.nv | exact n9.nv | exact n10.nv | exact n11.nv | exact n12.nv | exact n13.nv | exact n14.nv | exact n15.nv | exact n16.nv | exact n17.nv | exact n18.nv | exact n19.nv | exact n20.nv | exact nvK (by omega) (by omega)) ?_)) ⟨(by repeat (first | exact nvL_nil | refine nvL_cons (by first | exact True.intro | exact nvSt (by decide) | exact nvD hb.1 | exact n6.nv | exact n9.nv | exact n10.nv | exact n11.nv | exact n12.nv | exact n13.nv | exact n14.nv | exact n15.nv | exact n16.nv | exact n17.nv | exact n18.nv | exact n19.nv | exact n20.nv | exact nvK (by omega) (by omega)) ?_)), rfl, Nat.le_of_ble_eq_true rfl⟩ ?_
  refine J_E J hB (fun x rs e D J f rc => ?_) (fun y V2 e => (inr_ne hE e).elim)
  obtain ⟨rfl, rfl⟩ := inl_eq hE e
  have rc := rc (List.cons_ne_nil _ _)
  have hb := f.dy hb
  refine w_ist9 i117_63 ?_
  refine w_ild3 i117_65 ?_
  refine w_ild5 i117_66 ?_
  refine w_sip i117_68 ks_m1015 ?_
  refine w_cneF i117_71  rfl ?_
  refine w_ild9 i117_74 ?_
  refine w_sip i117_76 ks_m1014 ?_
  refine w_cneF i117_79  rfl ?_
  refine w_ald0 i117_82 ?_
  refine w_const i117_83 kc_0 ?_
  refine w_const i117_84 kc_0 ?_
  refine w_VD3 i117_85 c79 (Or.inl rfl) (Or.inl ⟨by decide +kernel, by decide⟩) (by repeat (first | exact nvL_nil | refine nvL_cons (by first | exact True.intro | exact nvSt (by decide) | exact nvD hb.1 | exact n6.nv | exact n9.nv | exact n10.nv | exact n11.nv | exact n12.nv | exact n13.nv | exact n14.nv | exact n15.nv | exact n16.nv | exact n17.nv | exact n18.nv | exact n19.nv | exact n20.nv | exact nvK (by omega) (by omega)) ?_)) ⟨(by repeat (first | exact nvL_nil | refine nvL_cons (by first | exact True.intro | exact nvSt (by decide) | exact nvD hb.1 | exact n6.nv | exact n9.nv | exact n10.nv | exact n11.nv | exact n12.nv | exact n13.nv | exact n14.nv | exact n15.nv | exact n16.nv | exact n17.nv | exact n18.nv | exact n19.nv | exact n20.nv | exact nvK (by omega) (by omega)) ?_)), rfl, Nat.le_of_ble_eq_true rfl⟩ (Ex_go (K_reason rc (Nat.le_of_ble_eq_true rfl) (w := 0) (by decide)) ?_)
  rw [rs_0]
  refine w_const i117_88 kc_2 ?_
  refine w_ceqNF i117_89 (by omega) (by omega) (by omega) ?_
  refine w_ald0 i117_92 ?_
  refine w_const i117_93 kc_0 ?_
  refine w_const i117_94 kc_0 ?_
  refine w_VD3 i117_95 c79 (Or.inl rfl) (Or.inl ⟨by decide +kernel, by decide⟩) (by repeat (first | exact nvL_nil | refine nvL_cons (by first | exact True.intro | exact nvSt (by decide) | exact nvD hb.1 | exact n6.nv | exact n9.nv | exact n10.nv | exact n11.nv | exact n12.nv | exact n13.nv | exact n14.nv | exact n15.nv | exact n16.nv | exact n17.nv | exact n18.nv | exact n19.nv | exact n20.nv | exact nvK (by omega) (by omega)) ?_)) ⟨(by repeat (first | exact nvL_nil | refine nvL_cons (by first | exact True.intro | exact nvSt (by decide) | exact nvD hb.1 | exact n6.nv | exact n9.nv | exact n10.nv | exact n11.nv | exact n12.nv | exact n13.nv | exact n14.nv | exact n15.nv | exact n16.nv | exact n17.nv | exact n18.nv | exact n19.nv | exact n20.nv | exact nvK (by omega) (by omega)) ?_)), rfl, Nat.le_of_ble_eq_true rfl⟩ (Ex_go (K_reason rc (Nat.le_of_ble_eq_true rfl) (w := 0) (by decide)) ?_)
  rw [rs_0]
  refine w_bip i117_98 kb_15 ?_
  refine w_cneNF i117_100 (by omega) (by omega) (by omega) ?_
  refine w_ald0 i117_103 ?_
  refine w_const i117_104 kc_0 ?_
  refine w_const i117_105 kc_1 ?_
  refine w_VD3 i117_106 c79 (Or.inl rfl) (Or.inl ⟨by decide +kernel, by decide⟩) (by repeat (first | exact nvL_nil | refine nvL_cons (by first | exact True.intro | exact nvSt (by decide) | exact nvD hb.1 | exact n6.nv | exact n9.nv | exact n10.nv | exact n11.nv | exact n12.nv | exact n13.nv | exact n14.nv | exact n15.nv | exact n16.nv | exact n17.nv | exact n18.nv | exact n19.nv | exact n20.nv | exact nvK (by omega) (by omega)) ?_)) ⟨(by repeat (first | exact nvL_nil | refine nvL_cons (by first | exact True.intro | exact nvSt (by decide) | exact nvD hb.1 | exact n6.nv | exact n9.nv | exact n10.nv | exact n11.nv | exact n12.nv | exact n13.nv | exact n14.nv | exact n15.nv | exact n16.nv | exact n17.nv | exact n18.nv | exact n19.nv | exact n20.nv | exact nvK (by omega) (by omega)) ?_)), rfl, Nat.le_of_ble_eq_true rfl⟩ (Ex_go (K_reason rc (Nat.le_of_ble_eq_true rfl) (w := 0) (by decide)) ?_)
  rw [rs_1]
  refine w_ild4 i117_109 ?_
  refine w_cneF i117_111  rfl ?_
  refine w_const i117_114 kc_1 ?_
  refine w_goto i117_115 g117_115 ?_
  refine w_iand i117_190 (v := nI 1) (by decide) ?_
  refine w_ist3 i117_191 ?_
  exact hk D J f hb
set_option maxHeartbeats 1000000 in
theorem fo_3 {d : Nat} {D : Mm} {Q : Option Value → Mm → Prop} {n B nx ob h r : Nat} {V : Nat → Int32} {hs : HsT} {l7 l8 me : Int32} {W : Nat → Int32} {u9 u10 u11 u12 u13 u14 u15 u16 u17 u18 u19 u20 : Value} (n9 : nvQ u9) (n10 : nvQ u10) (n11 : nvQ u11) (n12 : nvQ u12) (n13 : nvQ u13) (n14 : nvQ u14) (n15 : nvQ u15) (n16 : nvQ u16) (n17 : nvQ u17) (n18 : nvQ u18) (n19 : nvQ u19) (n20 : nvQ u20) (J : CJ D n V B hs nx) (hB : B ≤ 8000) (hb : dyn D ob 8) (hh : h < 6) (hr : r < 6) (hE : oE n V (nI h) = .inr (nI r, W)) (e0 : nI (cl (W 0)) = nI n - me) (e1 : mOpens W = l7 - nI 1) (e2 : W (6 + 4 * h + 0) = nI 0) (e3 : mOfAll (cl (W 0)) W 1 + mStores W + mPooled W = l8) (hk : ∀ D2 hs2 nx2, CJ D2 (cl (W 0)) W (B + 30) hs2 nx2 → FrJ D D2 → dyn D2 ob 8 → Wp (d + 10) 117 Q 192 [.ref 0, .ref ob, .int (nI n), .int (nI 1), .int (nI h), .int (nI r), .int me, .int l7, .int l8, .int (nI r), u10, u11, u12, u13, u14, u15, u16, u17, u18, u19, u20] [] D2) : Wp (d + 10) 117 Q 57 [.ref 0, .ref ob, .int (nI n), .int (nI 1), .int (nI h), .int (nI r), .int me, .int l7, .int l8, u9, u10, u11, u12, u13, u14, u15, u16, u17, u18, u19, u20] [] D := by
  have hB8 := hB
  have hB : B ≤ 9000 := by omega
  refine w_ald0 i117_57 ?_
  refine w_ild4 i117_58 ?_
  refine w_VD2 i117_60 c65 (Or.inl rfl) (Or.inl ⟨by decide +kernel, by decide⟩) (by repeat (first | exact nvL_nil | refine nvL_cons (by first | exact True.intro | exact nvSt (by decide) | exact nvD hb.1 | exact n6.nv | exact n9.nv | exact n10.nv | exact n11.nv | exact n12.nv | exact n13.nv | exact n14.nv | exact n15.nv | exact n16.nv | exact n17.nv | exact n18.nv | exact n19.nv | exact n20.nv | exact nvK (by omega) (by omega)) ?_)) ⟨(by repeat (first | exact nvL_nil | refine nvL_cons (by first | exact True.intro | exact nvSt (by decide) | exact nvD hb.1 | exact n6.nv | exact n9.nv | exact n10.nv | exact n11.nv | exact n12.nv | exact n13.nv | exact n14.nv | exact n15.nv | exact n16.nv | exact n17.nv | exact n18.nv | exact n19.nv | exact n20.nv | exact nvK (by omega) (by omega)) ?_)), rfl, Nat.le_of_ble_eq_true rfl⟩ ?_
  refine J_E J hB (fun x rs e => (inl_ne hE e).elim) (fun y V2 e hy D J f => ?_)
  obtain ⟨rfl, rfl⟩ := inr_eq hE e
  have hb := f.dy hb
  have R := J.R
  have h12 := J.h12
  have hop := J.op
  have hby := J.by_ (show B + 30 ≤ 9000 by omega)
  refine w_ist9 i117_63 ?_
  refine w_ild3 i117_65 ?_
  refine w_ild5 i117_66 ?_
  refine w_sip i117_68 ks_m1015 ?_
  refine w_cneT i117_71 g117_71  (ne15 (by omega)) ?_
  refine w_ild9 i117_122 ?_
  refine w_ild5 i117_124 ?_
  refine w_cneF i117_126  rfl ?_
  refine w_ald0 i117_129 ?_
  refine w_const i117_130 kc_0 ?_
  refine w_VD2 i117_131 c80 (Or.inl rfl) (Or.inl ⟨by decide +kernel, by decide⟩) (by repeat (first | exact nvL_nil | refine nvL_cons (by first | exact True.intro | exact nvSt (by decide) | exact nvD hb.1 | exact n6.nv | exact n9.nv | exact n10.nv | exact n11.nv | exact n12.nv | exact n13.nv | exact n14.nv | exact n15.nv | exact n16.nv | exact n17.nv | exact n18.nv | exact n19.nv | exact n20.nv | exact nvK (by omega) (by omega)) ?_)) ⟨(by repeat (first | exact nvL_nil | refine nvL_cons (by first | exact True.intro | exact nvSt (by decide) | exact nvD hb.1 | exact n6.nv | exact n9.nv | exact n10.nv | exact n11.nv | exact n12.nv | exact n13.nv | exact n14.nv | exact n15.nv | exact n16.nv | exact n17.nv | exact n18.nv | exact n19.nv | exact n20.nv | exact nvK (by omega) (by omega)) ?_)), rfl, Nat.le_of_ble_eq_true rfl⟩ (Ex_go (K_acc0 R h12 hop hby) ?_)
  refine w_ild2 i117_134 ?_
  refine w_ild6 i117_135 ?_
  refine w_isub i117_137 rfl ?_
  refine w_cneF i117_138  e0 ?_
  refine w_ald0 i117_141 ?_
  refine w_const i117_142 kc_1 ?_
  refine w_VD2 i117_143 c80 (Or.inl rfl) (Or.inl ⟨by decide +kernel, by decide⟩) (by repeat (first | exact nvL_nil | refine nvL_cons (by first | exact True.intro | exact nvSt (by decide) | exact nvD hb.1 | exact n6.nv | exact n9.nv | exact n10.nv | exact n11.nv | exact n12.nv | exact n13.nv | exact n14.nv | exact n15.nv | exact n16.nv | exact n17.nv | exact n18.nv | exact n19.nv | exact n20.nv | exact nvK (by omega) (by omega)) ?_)) ⟨(by repeat (first | exact nvL_nil | refine nvL_cons (by first | exact True.intro | exact nvSt (by decide) | exact nvD hb.1 | exact n6.nv | exact n9.nv | exact n10.nv | exact n11.nv | exact n12.nv | exact n13.nv | exact n14.nv | exact n15.nv | exact n16.nv | exact n17.nv | exact n18.nv | exact n19.nv | exact n20.nv | exact nvK (by omega) (by omega)) ?_)), rfl, Nat.le_of_ble_eq_true rfl⟩ (Ex_go (K_acc1 R h12 hop hby) ?_)
  refine w_ild7 i117_146 ?_
  refine w_const i117_148 kc_1 ?_
  refine w_isub i117_149 rfl ?_
  refine w_cneF i117_150  e1 ?_
  refine w_ald0 i117_153 ?_
  refine w_ild4 i117_154 ?_
  refine w_const i117_156 kc_0 ?_
  refine w_VD3 i117_157 c67 (Or.inl rfl) (Or.inl ⟨by decide +kernel, by decide⟩) (by repeat (first | exact nvL_nil | refine nvL_cons (by first | exact True.intro | exact nvSt (by decide) | exact nvD hb.1 | exact n6.nv | exact n9.nv | exact n10.nv | exact n11.nv | exact n12.nv | exact n13.nv | exact n14.nv | exact n15.nv | exact n16.nv | exact n17.nv | exact n18.nv | exact n19.nv | exact n20.nv | exact nvK (by omega) (by omega)) ?_)) ⟨(by repeat (first | exact nvL_nil | refine nvL_cons (by first | exact True.intro | exact nvSt (by decide) | exact nvD hb.1 | exact n6.nv | exact n9.nv | exact n10.nv | exact n11.nv | exact n12.nv | exact n13.nv | exact n14.nv | exact n15.nv | exact n16.nv | exact n17.nv | exact n18.nv | exact n19.nv | exact n20.nv | exact nvK (by omega) (by omega)) ?_)), rfl, Nat.le_of_ble_eq_true rfl⟩ (Ex_go (K_houseOf_0 R h12 hop hh) ?_)
  rw [e2]
  refine w_ineNF i117_160 (by omega) (by omega) ?_
  refine w_ald0 i117_163 ?_
  refine w_const i117_164 kc_3 ?_
  refine w_VD2 i117_165 c80 (Or.inl rfl) (Or.inl ⟨by decide +kernel, by decide⟩) (by repeat (first | exact nvL_nil | refine nvL_cons (by first | exact True.intro | exact nvSt (by decide) | exact nvD hb.1 | exact n6.nv | exact n9.nv | exact n10.nv | exact n11.nv | exact n12.nv | exact n13.nv | exact n14.nv | exact n15.nv | exact n16.nv | exact n17.nv | exact n18.nv | exact n19.nv | exact n20.nv | exact nvK (by omega) (by omega)) ?_)) ⟨(by repeat (first | exact nvL_nil | refine nvL_cons (by first | exact True.intro | exact nvSt (by decide) | exact nvD hb.1 | exact n6.nv | exact n9.nv | exact n10.nv | exact n11.nv | exact n12.nv | exact n13.nv | exact n14.nv | exact n15.nv | exact n16.nv | exact n17.nv | exact n18.nv | exact n19.nv | exact n20.nv | exact nvK (by omega) (by omega)) ?_)), rfl, Nat.le_of_ble_eq_true rfl⟩ (Ex_go (K_acc3 R h12 hop hby) ?_)
  refine w_ald0 i117_168 ?_
  refine w_const i117_169 kc_4 ?_
  refine w_VD2 i117_170 c80 (Or.inl rfl) (Or.inl ⟨by decide +kernel, by decide⟩) (by repeat (first | exact nvL_nil | refine nvL_cons (by first | exact True.intro | exact nvSt (by decide) | exact nvD hb.1 | exact n6.nv | exact n9.nv | exact n10.nv | exact n11.nv | exact n12.nv | exact n13.nv | exact n14.nv | exact n15.nv | exact n16.nv | exact n17.nv | exact n18.nv | exact n19.nv | exact n20.nv | exact nvK (by omega) (by omega)) ?_)) ⟨(by repeat (first | exact nvL_nil | refine nvL_cons (by first | exact True.intro | exact nvSt (by decide) | exact nvD hb.1 | exact n6.nv | exact n9.nv | exact n10.nv | exact n11.nv | exact n12.nv | exact n13.nv | exact n14.nv | exact n15.nv | exact n16.nv | exact n17.nv | exact n18.nv | exact n19.nv | exact n20.nv | exact nvK (by omega) (by omega)) ?_)), rfl, Nat.le_of_ble_eq_true rfl⟩ (Ex_go (K_acc4 R h12 hop hby) ?_)
  refine w_iadd i117_173 rfl ?_
  refine w_ald0 i117_174 ?_
  refine w_const i117_175 kc_5 ?_
  refine w_VD2 i117_176 c80 (Or.inl rfl) (Or.inl ⟨by decide +kernel, by decide⟩) (by repeat (first | exact nvL_nil | refine nvL_cons (by first | exact True.intro | exact nvSt (by decide) | exact nvD hb.1 | exact n6.nv | exact n9.nv | exact n10.nv | exact n11.nv | exact n12.nv | exact n13.nv | exact n14.nv | exact n15.nv | exact n16.nv | exact n17.nv | exact n18.nv | exact n19.nv | exact n20.nv | exact nvK (by omega) (by omega)) ?_)) ⟨(by repeat (first | exact nvL_nil | refine nvL_cons (by first | exact True.intro | exact nvSt (by decide) | exact nvD hb.1 | exact n6.nv | exact n9.nv | exact n10.nv | exact n11.nv | exact n12.nv | exact n13.nv | exact n14.nv | exact n15.nv | exact n16.nv | exact n17.nv | exact n18.nv | exact n19.nv | exact n20.nv | exact nvK (by omega) (by omega)) ?_)), rfl, Nat.le_of_ble_eq_true rfl⟩ (Ex_go (K_acc5 R h12 hop hby) ?_)
  refine w_iadd i117_179 rfl ?_
  refine w_ild8 i117_180 ?_
  refine w_cneF i117_182  e3 ?_
  refine w_const i117_185 kc_1 ?_
  refine w_goto i117_186 g117_186 ?_
  refine w_iand i117_190 (v := nI 1) (by decide) ?_
  refine w_ist3 i117_191 ?_
  exact hk D _ _ J f hb
set_option maxHeartbeats 1000000 in
theorem fo_4 {d : Nat} {D : Mm} {Q : Option Value → Mm → Prop} {n B nx ob m C : Nat} {V : Nat → Int32} {hs : HsT} {W : Nat → Int32} {u4 u5 u6 u7 u8 u9 u10 u11 u12 u13 u14 u15 u16 u17 u18 u19 u20 : Value} (n4 : nvQ u4) (n5 : nvQ u5) (n6 : nvQ u6) (n7 : nvQ u7) (n8 : nvQ u8) (n9 : nvQ u9) (n10 : nvQ u10) (n11 : nvQ u11) (n12 : nvQ u12) (n13 : nvQ u13) (n14 : nvQ u14) (n15 : nvQ u15) (n16 : nvQ u16) (n17 : nvQ u17) (n18 : nvQ u18) (n19 : nvQ u19) (n20 : nvQ u20) (J : CJ D m W C hs nx) (S : Sav D n V B) (hC : B ≤ C) (hb : dyn D ob 8) (hk : ∀ D2, CJ D2 n V B [] nx → Sav D2 n V B → FrJ D D2 → dyn D2 ob 8 → Wp (d + 10) 117 Q 208 [.ref 0, .ref ob, .int (nI n), .int (nI 1), u4, u5, u6, u7, u8, u9, u10, u11, u12, u13, u14, u15, u16, u17, u18, u19, u20] [] D2) : Wp (d + 10) 117 Q 192 [.ref 0, .ref ob, .int (nI n), .int (nI 1), u4, u5, u6, u7, u8, u9, u10, u11, u12, u13, u14, u15, u16, u17, u18, u19, u20] [] D := by
  refine w_ild3 i117_192 ?_
  refine w_ald0 i117_193 ?_
  refine w_VD1 i117_194 c84 (Or.inl rfl) (Or.inl ⟨by decide +kernel, by decide⟩) (by repeat (first | exact nvL_nil | refine nvL_cons (by first | exact True.intro | exact nvSt (by decide) | exact nvD hb.1 | exact n4.nv | exact n5.nv | exact n6.nv | exact n7.nv | exact n8.nv | exact n9.nv | exact n10.nv | exact n11.nv | exact n12.nv | exact n13.nv | exact n14.nv | exact n15.nv | exact n16.nv | exact n17.nv | exact n18.nv | exact n19.nv | exact n20.nv | exact nvK (by omega) (by omega)) ?_)) ⟨(by repeat (first | exact nvL_nil | refine nvL_cons (by first | exact True.intro | exact nvSt (by decide) | exact nvD hb.1 | exact n4.nv | exact n5.nv | exact n6.nv | exact n7.nv | exact n8.nv | exact n9.nv | exact n10.nv | exact n11.nv | exact n12.nv | exact n13.nv | exact n14.nv | exact n15.nv | exact n16.nv | exact n17.nv | exact n18.nv | exact n19.nv | exact n20.nv | exact nvK (by omega) (by omega)) ?_)), rfl, Nat.le_of_ble_eq_true rfl⟩ ?_
  refine J_rest J S hC (fun D J S f => ?_)
  have hb := f.dy hb
  refine w_ild2 i117_197 ?_
  refine w_cneF i117_198  rfl ?_
  refine w_const i117_201 kc_1 ?_
  refine w_goto i117_202 g117_202 ?_
  refine w_iand i117_206 (v := nI 1) (by decide) ?_
  refine w_ist3 i117_207 ?_
  exact hk D J S f hb
