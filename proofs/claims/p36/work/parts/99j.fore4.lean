/-! the law's foretelling: a burning -/
set_option maxHeartbeats 1000000 in
theorem fo_9z {d : Nat} {D : Mm} {Q : Option Value → Mm → Prop} {n B nx ob ar : Nat} {V : Nat → Int32} {hs : HsT} {u4 u5 u6 u7 u8 u9 u11 u12 u13 u14 u15 u16 u17 u18 u19 u20 : Value} (n4 : nvQ u4) (n5 : nvQ u5) (n6 : nvQ u6) (n7 : nvQ u7) (n8 : nvQ u8) (n9 : nvQ u9) (n11 : nvQ u11) (n12 : nvQ u12) (n13 : nvQ u13) (n14 : nvQ u14) (n15 : nvQ u15) (n16 : nvQ u16) (n17 : nvQ u17) (n18 : nvQ u18) (n19 : nvQ u19) (n20 : nvQ u20) (h0 : n = 0) (hk : Wp (d + 10) 117 Q 651 [.ref 0, .ref ob, .int (nI n), .int (nI 1), u4, u5, u6, u7, u8, u9, .ref ar, u11, u12, u13, u14, u15, u16, u17, u18, u19, u20] [] D) : Wp (d + 10) 117 Q 396 [.ref 0, .ref ob, .int (nI n), .int (nI 1), u4, u5, u6, u7, u8, u9, .ref ar, u11, u12, u13, u14, u15, u16, u17, u18, u19, u20] [] D := by
  have hn : n < 2147483648 := by omega
  refine w_ild2 i117_396 ?_
  refine w_ileNT i117_397 g117_397 (by omega) (Nat.le_of_eq h0) ?_
  exact hk
set_option maxHeartbeats 1000000 in
theorem fo_9 {d : Nat} {D : Mm} {Q : Option Value → Mm → Prop} {n B nx ob ar : Nat} {V : Nat → Int32} {hs : HsT} {u4 u5 u6 u7 u8 u9 u11 u12 u13 u14 u15 u16 u17 u18 u19 u20 : Value} (n4 : nvQ u4) (n5 : nvQ u5) (n6 : nvQ u6) (n7 : nvQ u7) (n8 : nvQ u8) (n9 : nvQ u9) (n11 : nvQ u11) (n12 : nvQ u12) (n13 : nvQ u13) (n14 : nvQ u14) (n15 : nvQ u15) (n16 : nvQ u16) (n17 : nvQ u17) (n18 : nvQ u18) (n19 : nvQ u19) (n20 : nvQ u20) (J : CJ D n V B hs nx) (S : Sav D n V B) (hb : dyn D ob 8) (ha : dyn D ar 20) (hne : ar ≠ ob) (h0 : 0 < n) (hk : ∀ D2 s r, s < n → r < 5 → CJ D2 n V B hs nx → Sav D2 n V B → dyn D2 ob 8 → dyn D2 ar 20 → (∀ q, q ≠ ob → D2 q = D q) → Wp (d + 10) 117 Q 416 [.ref 0, .ref ob, .int (nI n), .int (nI 1), u4, u5, u6, u7, u8, u9, .ref ar, u11, u12, .int (nI s), .int (nI (1 + r)), u15, u16, u17, u18, u19, u20] [] D2) : Wp (d + 10) 117 Q 396 [.ref 0, .ref ob, .int (nI n), .int (nI 1), u4, u5, u6, u7, u8, u9, .ref ar, u11, u12, u13, u14, u15, u16, u17, u18, u19, u20] [] D := by
  have hn : n < 2147483648 := by have := J.h12; omega
  have hbo : 4500 ≠ ob := by have := dyn_ge hb; omega
  refine w_ild2 i117_396 ?_
  refine w_ileNF i117_397 (by omega) h0 ?_
  refine w_ald1 i117_400 ?_
  refine w_ild2 i117_401 ?_
  refine w_VD2 i117_402 c119 (Or.inl rfl) (Or.inr ⟨hb.1, by rw [hb.2]; decide +kernel, by rw [hb.2]; decide⟩) (by repeat (first | exact nvL_nil | refine nvL_cons (by first | exact True.intro | exact nvSt (by decide) | exact nvD hb.1 | exact nvD ha.1 | exact n4.nv | exact n5.nv | exact n6.nv | exact n7.nv | exact n8.nv | exact n9.nv | exact n11.nv | exact n12.nv | exact n13.nv | exact n14.nv | exact n15.nv | exact n16.nv | exact n17.nv | exact n18.nv | exact n19.nv | exact n20.nv | exact nvK (by omega) (by omega)) ?_)) ⟨(by repeat (first | exact nvL_nil | refine nvL_cons (by first | exact True.intro | exact nvSt (by decide) | exact nvD hb.1 | exact nvD ha.1 | exact n4.nv | exact n5.nv | exact n6.nv | exact n7.nv | exact n8.nv | exact n9.nv | exact n11.nv | exact n12.nv | exact n13.nv | exact n14.nv | exact n15.nv | exact n16.nv | exact n17.nv | exact n18.nv | exact n19.nv | exact n20.nv | exact nvK (by omega) (by omega)) ?_)), rfl, Nat.le_of_ble_eq_true rfl⟩ ?_
  refine K_next hb (by omega) (by have := J.h12; omega) (fun D s hs g => ?_)
  have J := J.bt hb g
  have S := S.bt hb g
  have hga := dyn_ge ha
  have en : nxt D = nxt _ := congrArg (fun r => (r 0).toNatClampNeg) (g.1 4500 hbo)
  have ha := dyn_fr ha (by rw [en]; exact Nat.le_refl _) (g.1 ar hne)
  have hb := g.2
  have F := g.1
  refine w_ist13 i117_405 ?_
  refine w_const i117_407 kc_1 ?_
  refine w_ald1 i117_408 ?_
  refine w_const i117_409 kc_5 ?_
  refine w_VD2 i117_410 c119 (Or.inl rfl) (Or.inr ⟨hb.1, by rw [hb.2]; decide +kernel, by rw [hb.2]; decide⟩) (by repeat (first | exact nvL_nil | refine nvL_cons (by first | exact True.intro | exact nvSt (by decide) | exact nvD hb.1 | exact nvD ha.1 | exact n4.nv | exact n5.nv | exact n6.nv | exact n7.nv | exact n8.nv | exact n9.nv | exact n11.nv | exact n12.nv | exact n13.nv | exact n14.nv | exact n15.nv | exact n16.nv | exact n17.nv | exact n18.nv | exact n19.nv | exact n20.nv | exact nvK (by omega) (by omega)) ?_)) ⟨(by repeat (first | exact nvL_nil | refine nvL_cons (by first | exact True.intro | exact nvSt (by decide) | exact nvD hb.1 | exact nvD ha.1 | exact n4.nv | exact n5.nv | exact n6.nv | exact n7.nv | exact n8.nv | exact n9.nv | exact n11.nv | exact n12.nv | exact n13.nv | exact n14.nv | exact n15.nv | exact n16.nv | exact n17.nv | exact n18.nv | exact n19.nv | exact n20.nv | exact nvK (by omega) (by omega)) ?_)), rfl, Nat.le_of_ble_eq_true rfl⟩ ?_
  refine K_next hb (by decide) (by decide) (fun D r hr g => ?_)
  have J := J.bt hb g
  have S := S.bt hb g
  have hga := dyn_ge ha
  have en : nxt D = nxt _ := congrArg (fun r => (r 0).toNatClampNeg) (g.1 4500 hbo)
  have ha := dyn_fr ha (by rw [en]; exact Nat.le_refl _) (g.1 ar hne)
  have hb := g.2
  have F := fun q (a : q ≠ ob) => (g.1 q a).trans (F q a)
  refine w_iadd i117_413 (nI_add _ _) ?_
  refine w_ist14 i117_414 ?_
  exact hk D s r hs hr J S hb ha F
theorem fo_min {a b : Nat} (ha : a < 2147483648) (hb : b < 2147483648) : ifp (nI a ≤ nI b) (nI a) (nI b) = nI (min a b) := by
  by_cases z : a ≤ b
  · rw [ifp_t ((nle ha hb).mpr z), Nat.min_eq_left z]
  · rw [ifp_f (fun q => z ((nle ha hb).mp q)), Nat.min_eq_right (by omega)]
set_option maxHeartbeats 1000000 in
theorem fo_10 {d : Nat} {D : Mm} {Q : Option Value → Mm → Prop} {n B nx ob ar s x w z u k : Nat} {V : Nat → Int32} {hs : HsT} {u4 u5 u6 u7 u8 u9 u11 u12 u15 u16 u17 u18 u19 u20 : Value} (n4 : nvQ u4) (n5 : nvQ u5) (n6 : nvQ u6) (n7 : nvQ u7) (n8 : nvQ u8) (n9 : nvQ u9) (n11 : nvQ u11) (n12 : nvQ u12) (n15 : nvQ u15) (n16 : nvQ u16) (n17 : nvQ u17) (n18 : nvQ u18) (n19 : nvQ u19) (n20 : nvQ u20) (R : Rel D n V) (h12 : n ≤ 12) (hop : opV V) (hby : byV n V) (hb : dyn D ob 8) (ha : dyn D ar 20) (hs : s < n) (v1 : vStubOf V s 1 = nI w) (v2 : vStubOf V s 2 = nI k) (v4 : vStubOf V s 4 = nI u) (v5 : vStubOf V s 5 = nI z) (hu : u ≤ 90) (hxk : x * k ≤ 1000) (hk : Wp (d + 10) 117 Q 473 [.ref 0, .ref ob, .int (nI n), .int (nI 1), u4, u5, u6, u7, u8, u9, .ref ar, u11, u12, .int (nI s), .int (nI x), .int (nI w), .int (nI z), .int (nI (min u (x * k))), .int (V 3), .int (nI k), u20] [] D) : Wp (d + 10) 117 Q 416 [.ref 0, .ref ob, .int (nI n), .int (nI 1), u4, u5, u6, u7, u8, u9, .ref ar, u11, u12, .int (nI s), .int (nI x), u15, u16, u17, u18, u19, u20] [] D := by
  refine w_ald0 i117_416 ?_
  refine w_ild13 i117_417 ?_
  refine w_const i117_419 kc_1 ?_
  refine w_VD3 i117_420 c58 (Or.inl rfl) (Or.inl ⟨by decide +kernel, by decide⟩) (by repeat (first | exact nvL_nil | refine nvL_cons (by first | exact True.intro | exact nvSt (by decide) | exact nvD hb.1 | exact nvD ha.1 | exact n4.nv | exact n5.nv | exact n6.nv | exact n7.nv | exact n8.nv | exact n9.nv | exact n11.nv | exact n12.nv | exact n15.nv | exact n16.nv | exact n17.nv | exact n18.nv | exact n19.nv | exact n20.nv | exact nvK (by omega) (by omega)) ?_)) ⟨(by repeat (first | exact nvL_nil | refine nvL_cons (by first | exact True.intro | exact nvSt (by decide) | exact nvD hb.1 | exact nvD ha.1 | exact n4.nv | exact n5.nv | exact n6.nv | exact n7.nv | exact n8.nv | exact n9.nv | exact n11.nv | exact n12.nv | exact n15.nv | exact n16.nv | exact n17.nv | exact n18.nv | exact n19.nv | exact n20.nv | exact nvK (by omega) (by omega)) ?_)), rfl, Nat.le_of_ble_eq_true rfl⟩ (Ex_go (K_stubOf_1 R h12 hs) ?_)
  rw [v1]
  refine w_ist15 i117_423 ?_
  refine w_ald0 i117_425 ?_
  refine w_ild13 i117_426 ?_
  refine w_const i117_428 kc_5 ?_
  refine w_VD3 i117_429 c58 (Or.inl rfl) (Or.inl ⟨by decide +kernel, by decide⟩) (by repeat (first | exact nvL_nil | refine nvL_cons (by first | exact True.intro | exact nvSt (by decide) | exact nvD hb.1 | exact nvD ha.1 | exact n4.nv | exact n5.nv | exact n6.nv | exact n7.nv | exact n8.nv | exact n9.nv | exact n11.nv | exact n12.nv | exact n15.nv | exact n16.nv | exact n17.nv | exact n18.nv | exact n19.nv | exact n20.nv | exact nvK (by omega) (by omega)) ?_)) ⟨(by repeat (first | exact nvL_nil | refine nvL_cons (by first | exact True.intro | exact nvSt (by decide) | exact nvD hb.1 | exact nvD ha.1 | exact n4.nv | exact n5.nv | exact n6.nv | exact n7.nv | exact n8.nv | exact n9.nv | exact n11.nv | exact n12.nv | exact n15.nv | exact n16.nv | exact n17.nv | exact n18.nv | exact n19.nv | exact n20.nv | exact nvK (by omega) (by omega)) ?_)), rfl, Nat.le_of_ble_eq_true rfl⟩ (Ex_go (K_stubOf_5 R h12 hs) ?_)
  rw [v5]
  refine w_ist16 i117_432 ?_
  refine w_ald0 i117_434 ?_
  refine w_ild13 i117_435 ?_
  refine w_const i117_437 kc_4 ?_
  refine w_VD3 i117_438 c58 (Or.inl rfl) (Or.inl ⟨by decide +kernel, by decide⟩) (by repeat (first | exact nvL_nil | refine nvL_cons (by first | exact True.intro | exact nvSt (by decide) | exact nvD hb.1 | exact nvD ha.1 | exact n4.nv | exact n5.nv | exact n6.nv | exact n7.nv | exact n8.nv | exact n9.nv | exact n11.nv | exact n12.nv | exact n15.nv | exact n16.nv | exact n17.nv | exact n18.nv | exact n19.nv | exact n20.nv | exact nvK (by omega) (by omega)) ?_)) ⟨(by repeat (first | exact nvL_nil | refine nvL_cons (by first | exact True.intro | exact nvSt (by decide) | exact nvD hb.1 | exact nvD ha.1 | exact n4.nv | exact n5.nv | exact n6.nv | exact n7.nv | exact n8.nv | exact n9.nv | exact n11.nv | exact n12.nv | exact n15.nv | exact n16.nv | exact n17.nv | exact n18.nv | exact n19.nv | exact n20.nv | exact nvK (by omega) (by omega)) ?_)), rfl, Nat.le_of_ble_eq_true rfl⟩ (Ex_go (K_stubOf_4 R h12 hs) ?_)
  rw [v4]
  refine w_ild14 i117_441 ?_
  refine w_ald0 i117_443 ?_
  refine w_ild13 i117_444 ?_
  refine w_const i117_446 kc_2 ?_
  refine w_VD3 i117_447 c58 (Or.inl rfl) (Or.inl ⟨by decide +kernel, by decide⟩) (by repeat (first | exact nvL_nil | refine nvL_cons (by first | exact True.intro | exact nvSt (by decide) | exact nvD hb.1 | exact nvD ha.1 | exact n4.nv | exact n5.nv | exact n6.nv | exact n7.nv | exact n8.nv | exact n9.nv | exact n11.nv | exact n12.nv | exact n15.nv | exact n16.nv | exact n17.nv | exact n18.nv | exact n19.nv | exact n20.nv | exact nvK (by omega) (by omega)) ?_)) ⟨(by repeat (first | exact nvL_nil | refine nvL_cons (by first | exact True.intro | exact nvSt (by decide) | exact nvD hb.1 | exact nvD ha.1 | exact n4.nv | exact n5.nv | exact n6.nv | exact n7.nv | exact n8.nv | exact n9.nv | exact n11.nv | exact n12.nv | exact n15.nv | exact n16.nv | exact n17.nv | exact n18.nv | exact n19.nv | exact n20.nv | exact nvK (by omega) (by omega)) ?_)), rfl, Nat.le_of_ble_eq_true rfl⟩ (Ex_go (K_stubOf_2 R h12 hs) ?_)
  rw [v2]
  refine w_imul i117_450 (nI_mul _ _) ?_
  refine w_SD2 i117_451 c202 rfl (by repeat (first | exact nvL_nil | refine nvL_cons (by first | exact True.intro | exact nvSt (by decide) | exact nvD hb.1 | exact nvD ha.1 | exact n4.nv | exact n5.nv | exact n6.nv | exact n7.nv | exact n8.nv | exact n9.nv | exact n11.nv | exact n12.nv | exact n15.nv | exact n16.nv | exact n17.nv | exact n18.nv | exact n19.nv | exact n20.nv | exact nvK (by omega) (by omega)) ?_)) ⟨(by repeat (first | exact nvL_nil | refine nvL_cons (by first | exact True.intro | exact nvSt (by decide) | exact nvD hb.1 | exact nvD ha.1 | exact n4.nv | exact n5.nv | exact n6.nv | exact n7.nv | exact n8.nv | exact n9.nv | exact n11.nv | exact n12.nv | exact n15.nv | exact n16.nv | exact n17.nv | exact n18.nv | exact n19.nv | exact n20.nv | exact nvK (by omega) (by omega)) ?_)), rfl, Nat.le_of_ble_eq_true rfl⟩ (Ex_go K_min ?_)
  rw [fo_min (by omega) (by omega)]
  refine w_ist17 i117_454 ?_
  refine w_ald0 i117_456 ?_
  refine w_bip i117_457 kb_8 ?_
  refine w_VD2 i117_459 c80 (Or.inl rfl) (Or.inl ⟨by decide +kernel, by decide⟩) (by repeat (first | exact nvL_nil | refine nvL_cons (by first | exact True.intro | exact nvSt (by decide) | exact nvD hb.1 | exact nvD ha.1 | exact n4.nv | exact n5.nv | exact n6.nv | exact n7.nv | exact n8.nv | exact n9.nv | exact n11.nv | exact n12.nv | exact n15.nv | exact n16.nv | exact n17.nv | exact n18.nv | exact n19.nv | exact n20.nv | exact nvK (by omega) (by omega)) ?_)) ⟨(by repeat (first | exact nvL_nil | refine nvL_cons (by first | exact True.intro | exact nvSt (by decide) | exact nvD hb.1 | exact nvD ha.1 | exact n4.nv | exact n5.nv | exact n6.nv | exact n7.nv | exact n8.nv | exact n9.nv | exact n11.nv | exact n12.nv | exact n15.nv | exact n16.nv | exact n17.nv | exact n18.nv | exact n19.nv | exact n20.nv | exact nvK (by omega) (by omega)) ?_)), rfl, Nat.le_of_ble_eq_true rfl⟩ (Ex_go (K_acc8 R h12 hop hby) ?_)
  refine w_ist18 i117_462 ?_
  refine w_ald0 i117_464 ?_
  refine w_ild13 i117_465 ?_
  refine w_const i117_467 kc_2 ?_
  refine w_VD3 i117_468 c58 (Or.inl rfl) (Or.inl ⟨by decide +kernel, by decide⟩) (by repeat (first | exact nvL_nil | refine nvL_cons (by first | exact True.intro | exact nvSt (by decide) | exact nvD hb.1 | exact nvD ha.1 | exact n4.nv | exact n5.nv | exact n6.nv | exact n7.nv | exact n8.nv | exact n9.nv | exact n11.nv | exact n12.nv | exact n15.nv | exact n16.nv | exact n17.nv | exact n18.nv | exact n19.nv | exact n20.nv | exact nvK (by omega) (by omega)) ?_)) ⟨(by repeat (first | exact nvL_nil | refine nvL_cons (by first | exact True.intro | exact nvSt (by decide) | exact nvD hb.1 | exact nvD ha.1 | exact n4.nv | exact n5.nv | exact n6.nv | exact n7.nv | exact n8.nv | exact n9.nv | exact n11.nv | exact n12.nv | exact n15.nv | exact n16.nv | exact n17.nv | exact n18.nv | exact n19.nv | exact n20.nv | exact nvK (by omega) (by omega)) ?_)), rfl, Nat.le_of_ble_eq_true rfl⟩ (Ex_go (K_stubOf_2 R h12 hs) ?_)
  rw [v2]
  refine w_ist19 i117_471 ?_
  exact hk
set_option maxHeartbeats 1000000 in
theorem fo_11s {d : Nat} {D : Mm} {Q : Option Value → Mm → Prop} {n B nx ob ar s x w z p k : Nat} {V : Nat → Int32} {hs : HsT} {l18 : Int32} {u4 u5 u6 u7 u8 u9 u11 u12 u20 : Value} (n4 : nvQ u4) (n5 : nvQ u5) (n6 : nvQ u6) (n7 : nvQ u7) (n8 : nvQ u8) (n9 : nvQ u9) (n11 : nvQ u11) (n12 : nvQ u12) (n20 : nvQ u20) (J : CJ D n V B hs nx) (hB : B ≤ 8000) (hb : dyn D ob 8) (ha : dyn D ar 20) (hw : w ≤ 30) (hx : x ≤ 5) (hz : z ≤ 24) (hz0 : 0 < z) (hE : oB n V (nI s) (nI x) = .inl (-1014, [(nI 4, nI s), (nI 5, nI z)])) (hk : ∀ D2, CJ D2 n V B hs nx → FrJ D D2 → dyn D2 ob 8 → dyn D2 ar 20 → Wp (d + 10) 117 Q 651 [.ref 0, .ref ob, .int (nI n), .int (nI 1), u4, u5, u6, u7, u8, .int (-1014), .ref ar, u11, u12, .int (nI s), .int (nI x), .int (nI w), .int (nI z), .int (nI p), .int l18, .int (nI k), .int (nI 1)] [] D2) : Wp (d + 10) 117 Q 473 [.ref 0, .ref ob, .int (nI n), .int (nI 1), u4, u5, u6, u7, u8, u9, .ref ar, u11, u12, .int (nI s), .int (nI x), .int (nI w), .int (nI z), .int (nI p), .int l18, .int (nI k), u20] [] D := by
  refine w_ald0 i117_473 ?_
  refine w_ild13 i117_474 ?_
  refine w_ild14 i117_476 ?_
  refine w_VD3 i117_478 c55 (Or.inl rfl) (Or.inl ⟨by decide +kernel, by decide⟩) (by repeat (first | exact nvL_nil | refine nvL_cons (by first | exact True.intro | exact nvSt (by decide) | exact nvD hb.1 | exact nvD ha.1 | exact n4.nv | exact n5.nv | exact n6.nv | exact n7.nv | exact n8.nv | exact n9.nv | exact n11.nv | exact n12.nv | exact n20.nv | exact nvK (by omega) (by omega)) ?_)) ⟨(by repeat (first | exact nvL_nil | refine nvL_cons (by first | exact True.intro | exact nvSt (by decide) | exact nvD hb.1 | exact nvD ha.1 | exact n4.nv | exact n5.nv | exact n6.nv | exact n7.nv | exact n8.nv | exact n9.nv | exact n11.nv | exact n12.nv | exact n20.nv | exact nvK (by omega) (by omega)) ?_)), rfl, Nat.le_of_ble_eq_true rfl⟩ ?_
  refine J_B J (by omega) (fun x rs e D J f rc => ?_) (fun y V2 e => (inr_ne hE e).elim)
  obtain ⟨rfl, rfl⟩ := inl_eq hE e
  have rc := rc (List.cons_ne_nil _ _)
  have hb := f.dy hb
  have ha := f.dy ha
  refine w_ist9 i117_481 ?_
  refine w_ild16 i117_483 ?_
  refine w_igtNT i117_485 g117_485 (by omega) hz0 ?_
  refine w_const i117_495 kc_1 ?_
  refine w_goto i117_496 g117_496 ?_
  refine w_ist20 i117_500 ?_
  refine w_ild3 i117_502 ?_
  refine w_ild20 i117_503 ?_
  refine w_ieqNF i117_505 (by omega) (by omega) ?_
  refine w_ild9 i117_508 ?_
  refine w_sip i117_510 ks_m1014 ?_
  refine w_cneF i117_513  rfl ?_
  refine w_ald0 i117_516 ?_
  refine w_const i117_517 kc_0 ?_
  refine w_const i117_518 kc_0 ?_
  refine w_VD3 i117_519 c79 (Or.inl rfl) (Or.inl ⟨by decide +kernel, by decide⟩) (by repeat (first | exact nvL_nil | refine nvL_cons (by first | exact True.intro | exact nvSt (by decide) | exact nvD hb.1 | exact nvD ha.1 | exact n4.nv | exact n5.nv | exact n6.nv | exact n7.nv | exact n8.nv | exact n9.nv | exact n11.nv | exact n12.nv | exact n20.nv | exact nvK (by omega) (by omega)) ?_)) ⟨(by repeat (first | exact nvL_nil | refine nvL_cons (by first | exact True.intro | exact nvSt (by decide) | exact nvD hb.1 | exact nvD ha.1 | exact n4.nv | exact n5.nv | exact n6.nv | exact n7.nv | exact n8.nv | exact n9.nv | exact n11.nv | exact n12.nv | exact n20.nv | exact nvK (by omega) (by omega)) ?_)), rfl, Nat.le_of_ble_eq_true rfl⟩ (Ex_go (K_reason rc (Nat.le_of_ble_eq_true rfl) (w := 0) (by decide)) ?_)
  rw [rs_0]
  refine w_const i117_522 kc_4 ?_
  refine w_cneNF i117_523 (by omega) (by omega) (by omega) ?_
  refine w_ald0 i117_526 ?_
  refine w_const i117_527 kc_0 ?_
  refine w_const i117_528 kc_1 ?_
  refine w_VD3 i117_529 c79 (Or.inl rfl) (Or.inl ⟨by decide +kernel, by decide⟩) (by repeat (first | exact nvL_nil | refine nvL_cons (by first | exact True.intro | exact nvSt (by decide) | exact nvD hb.1 | exact nvD ha.1 | exact n4.nv | exact n5.nv | exact n6.nv | exact n7.nv | exact n8.nv | exact n9.nv | exact n11.nv | exact n12.nv | exact n20.nv | exact nvK (by omega) (by omega)) ?_)) ⟨(by repeat (first | exact nvL_nil | refine nvL_cons (by first | exact True.intro | exact nvSt (by decide) | exact nvD hb.1 | exact nvD ha.1 | exact n4.nv | exact n5.nv | exact n6.nv | exact n7.nv | exact n8.nv | exact n9.nv | exact n11.nv | exact n12.nv | exact n20.nv | exact nvK (by omega) (by omega)) ?_)), rfl, Nat.le_of_ble_eq_true rfl⟩ (Ex_go (K_reason rc (Nat.le_of_ble_eq_true rfl) (w := 0) (by decide)) ?_)
  rw [rs_1]
  refine w_ild13 i117_532 ?_
  refine w_cneF i117_534  rfl ?_
  refine w_ald0 i117_537 ?_
  refine w_const i117_538 kc_1 ?_
  refine w_const i117_539 kc_0 ?_
  refine w_VD3 i117_540 c79 (Or.inl rfl) (Or.inl ⟨by decide +kernel, by decide⟩) (by repeat (first | exact nvL_nil | refine nvL_cons (by first | exact True.intro | exact nvSt (by decide) | exact nvD hb.1 | exact nvD ha.1 | exact n4.nv | exact n5.nv | exact n6.nv | exact n7.nv | exact n8.nv | exact n9.nv | exact n11.nv | exact n12.nv | exact n20.nv | exact nvK (by omega) (by omega)) ?_)) ⟨(by repeat (first | exact nvL_nil | refine nvL_cons (by first | exact True.intro | exact nvSt (by decide) | exact nvD hb.1 | exact nvD ha.1 | exact n4.nv | exact n5.nv | exact n6.nv | exact n7.nv | exact n8.nv | exact n9.nv | exact n11.nv | exact n12.nv | exact n20.nv | exact nvK (by omega) (by omega)) ?_)), rfl, Nat.le_of_ble_eq_true rfl⟩ (Ex_go (K_reason rc (Nat.le_of_ble_eq_true rfl) (w := 1) (by decide)) ?_)
  rw [rs_2]
  refine w_ild16 i117_543 ?_
  refine w_ileNF i117_545 (by omega) hz0 ?_
  refine w_const i117_548 kc_5 ?_
  refine w_goto i117_549 g117_549 ?_
  refine w_cneF i117_554  rfl ?_
  refine w_ald0 i117_557 ?_
  refine w_const i117_558 kc_1 ?_
  refine w_const i117_559 kc_1 ?_
  refine w_VD3 i117_560 c79 (Or.inl rfl) (Or.inl ⟨by decide +kernel, by decide⟩) (by repeat (first | exact nvL_nil | refine nvL_cons (by first | exact True.intro | exact nvSt (by decide) | exact nvD hb.1 | exact nvD ha.1 | exact n4.nv | exact n5.nv | exact n6.nv | exact n7.nv | exact n8.nv | exact n9.nv | exact n11.nv | exact n12.nv | exact n20.nv | exact nvK (by omega) (by omega)) ?_)) ⟨(by repeat (first | exact nvL_nil | refine nvL_cons (by first | exact True.intro | exact nvSt (by decide) | exact nvD hb.1 | exact nvD ha.1 | exact n4.nv | exact n5.nv | exact n6.nv | exact n7.nv | exact n8.nv | exact n9.nv | exact n11.nv | exact n12.nv | exact n20.nv | exact nvK (by omega) (by omega)) ?_)), rfl, Nat.le_of_ble_eq_true rfl⟩ (Ex_go (K_reason rc (Nat.le_of_ble_eq_true rfl) (w := 1) (by decide)) ?_)
  rw [rs_3]
  refine w_ild16 i117_563 ?_
  refine w_ileNF i117_565 (by omega) hz0 ?_
  refine w_ild16 i117_568 ?_
  refine w_goto i117_570 g117_570 ?_
  refine w_cneF i117_575  rfl ?_
  refine w_ald0 i117_578 ?_
  refine w_const i117_579 kc_2 ?_
  refine w_const i117_580 kc_0 ?_
  refine w_VD3 i117_581 c79 (Or.inl rfl) (Or.inl ⟨by decide +kernel, by decide⟩) (by repeat (first | exact nvL_nil | refine nvL_cons (by first | exact True.intro | exact nvSt (by decide) | exact nvD hb.1 | exact nvD ha.1 | exact n4.nv | exact n5.nv | exact n6.nv | exact n7.nv | exact n8.nv | exact n9.nv | exact n11.nv | exact n12.nv | exact n20.nv | exact nvK (by omega) (by omega)) ?_)) ⟨(by repeat (first | exact nvL_nil | refine nvL_cons (by first | exact True.intro | exact nvSt (by decide) | exact nvD hb.1 | exact nvD ha.1 | exact n4.nv | exact n5.nv | exact n6.nv | exact n7.nv | exact n8.nv | exact n9.nv | exact n11.nv | exact n12.nv | exact n20.nv | exact nvK (by omega) (by omega)) ?_)), rfl, Nat.le_of_ble_eq_true rfl⟩ (Ex_go (K_reason rc (Nat.le_of_ble_eq_true rfl) (w := 2) (by decide)) ?_)
  rw [resR_no (Nat.le_of_ble_eq_true rfl)]
  refine w_sip i117_584 ks_m1015 ?_
  refine w_cneF i117_587  rfl ?_
  refine w_const i117_590 kc_1 ?_
  refine w_goto i117_591 g117_591 ?_
  refine w_iand i117_649 (v := nI 1) (by decide) ?_
  refine w_ist3 i117_650 ?_
  exact hk D J f hb ha
set_option maxHeartbeats 1000000 in
theorem fo_11w {d : Nat} {D : Mm} {Q : Option Value → Mm → Prop} {n B nx ob ar s x w z p k : Nat} {V : Nat → Int32} {hs : HsT} {l18 : Int32} {u4 u5 u6 u7 u8 u9 u11 u12 u20 : Value} (n4 : nvQ u4) (n5 : nvQ u5) (n6 : nvQ u6) (n7 : nvQ u7) (n8 : nvQ u8) (n9 : nvQ u9) (n11 : nvQ u11) (n12 : nvQ u12) (n20 : nvQ u20) (J : CJ D n V B hs nx) (hB : B ≤ 8000) (hb : dyn D ob 8) (ha : dyn D ar 20) (hw : w ≤ 30) (hx : x ≤ 5) (hz : z ≤ 24) (hz0 : z = 0) (hwx : w < x) (hE : oB n V (nI s) (nI x) = .inl (-1014, [(nI 4, nI s), (nI 6, nI w)])) (hk : ∀ D2, CJ D2 n V B hs nx → FrJ D D2 → dyn D2 ob 8 → dyn D2 ar 20 → Wp (d + 10) 117 Q 651 [.ref 0, .ref ob, .int (nI n), .int (nI 1), u4, u5, u6, u7, u8, .int (-1014), .ref ar, u11, u12, .int (nI s), .int (nI x), .int (nI w), .int (nI z), .int (nI p), .int l18, .int (nI k), .int (nI 1)] [] D2) : Wp (d + 10) 117 Q 473 [.ref 0, .ref ob, .int (nI n), .int (nI 1), u4, u5, u6, u7, u8, u9, .ref ar, u11, u12, .int (nI s), .int (nI x), .int (nI w), .int (nI z), .int (nI p), .int l18, .int (nI k), u20] [] D := by
  refine w_ald0 i117_473 ?_
  refine w_ild13 i117_474 ?_
  refine w_ild14 i117_476 ?_
  refine w_VD3 i117_478 c55 (Or.inl rfl) (Or.inl ⟨by decide +kernel, by decide⟩) (by repeat (first | exact nvL_nil | refine nvL_cons (by first | exact True.intro | exact nvSt (by decide) | exact nvD hb.1 | exact nvD ha.1 | exact n4.nv | exact n5.nv | exact n6.nv | exact n7.nv | exact n8.nv | exact n9.nv | exact n11.nv | exact n12.nv | exact n20.nv | exact nvK (by omega) (by omega)) ?_)) ⟨(by repeat (first | exact nvL_nil | refine nvL_cons (by first | exact True.intro | exact nvSt (by decide) | exact nvD hb.1 | exact nvD ha.1 | exact n4.nv | exact n5.nv | exact n6.nv | exact n7.nv | exact n8.nv | exact n9.nv | exact n11.nv | exact n12.nv | exact n20.nv | exact nvK (by omega) (by omega)) ?_)), rfl, Nat.le_of_ble_eq_true rfl⟩ ?_
  refine J_B J (by omega) (fun x rs e D J f rc => ?_) (fun y V2 e => (inr_ne hE e).elim)
  obtain ⟨rfl, rfl⟩ := inl_eq hE e
  have rc := rc (List.cons_ne_nil _ _)
  have hb := f.dy hb
  have ha := f.dy ha
  refine w_ist9 i117_481 ?_
  refine w_ild16 i117_483 ?_
  refine w_igtNF i117_485 (by omega) (Nat.le_of_eq hz0) ?_
  refine w_ild15 i117_488 ?_
  refine w_ild14 i117_490 ?_
  refine w_cgeNF i117_492 (by omega) (by omega) hwx ?_
  refine w_const i117_495 kc_1 ?_
  refine w_goto i117_496 g117_496 ?_
  refine w_ist20 i117_500 ?_
  refine w_ild3 i117_502 ?_
  refine w_ild20 i117_503 ?_
  refine w_ieqNF i117_505 (by omega) (by omega) ?_
  refine w_ild9 i117_508 ?_
  refine w_sip i117_510 ks_m1014 ?_
  refine w_cneF i117_513  rfl ?_
  refine w_ald0 i117_516 ?_
  refine w_const i117_517 kc_0 ?_
  refine w_const i117_518 kc_0 ?_
  refine w_VD3 i117_519 c79 (Or.inl rfl) (Or.inl ⟨by decide +kernel, by decide⟩) (by repeat (first | exact nvL_nil | refine nvL_cons (by first | exact True.intro | exact nvSt (by decide) | exact nvD hb.1 | exact nvD ha.1 | exact n4.nv | exact n5.nv | exact n6.nv | exact n7.nv | exact n8.nv | exact n9.nv | exact n11.nv | exact n12.nv | exact n20.nv | exact nvK (by omega) (by omega)) ?_)) ⟨(by repeat (first | exact nvL_nil | refine nvL_cons (by first | exact True.intro | exact nvSt (by decide) | exact nvD hb.1 | exact nvD ha.1 | exact n4.nv | exact n5.nv | exact n6.nv | exact n7.nv | exact n8.nv | exact n9.nv | exact n11.nv | exact n12.nv | exact n20.nv | exact nvK (by omega) (by omega)) ?_)), rfl, Nat.le_of_ble_eq_true rfl⟩ (Ex_go (K_reason rc (Nat.le_of_ble_eq_true rfl) (w := 0) (by decide)) ?_)
  rw [rs_0]
  refine w_const i117_522 kc_4 ?_
  refine w_cneNF i117_523 (by omega) (by omega) (by omega) ?_
  refine w_ald0 i117_526 ?_
  refine w_const i117_527 kc_0 ?_
  refine w_const i117_528 kc_1 ?_
  refine w_VD3 i117_529 c79 (Or.inl rfl) (Or.inl ⟨by decide +kernel, by decide⟩) (by repeat (first | exact nvL_nil | refine nvL_cons (by first | exact True.intro | exact nvSt (by decide) | exact nvD hb.1 | exact nvD ha.1 | exact n4.nv | exact n5.nv | exact n6.nv | exact n7.nv | exact n8.nv | exact n9.nv | exact n11.nv | exact n12.nv | exact n20.nv | exact nvK (by omega) (by omega)) ?_)) ⟨(by repeat (first | exact nvL_nil | refine nvL_cons (by first | exact True.intro | exact nvSt (by decide) | exact nvD hb.1 | exact nvD ha.1 | exact n4.nv | exact n5.nv | exact n6.nv | exact n7.nv | exact n8.nv | exact n9.nv | exact n11.nv | exact n12.nv | exact n20.nv | exact nvK (by omega) (by omega)) ?_)), rfl, Nat.le_of_ble_eq_true rfl⟩ (Ex_go (K_reason rc (Nat.le_of_ble_eq_true rfl) (w := 0) (by decide)) ?_)
  rw [rs_1]
  refine w_ild13 i117_532 ?_
  refine w_cneF i117_534  rfl ?_
  refine w_ald0 i117_537 ?_
  refine w_const i117_538 kc_1 ?_
  refine w_const i117_539 kc_0 ?_
  refine w_VD3 i117_540 c79 (Or.inl rfl) (Or.inl ⟨by decide +kernel, by decide⟩) (by repeat (first | exact nvL_nil | refine nvL_cons (by first | exact True.intro | exact nvSt (by decide) | exact nvD hb.1 | exact nvD ha.1 | exact n4.nv | exact n5.nv | exact n6.nv | exact n7.nv | exact n8.nv | exact n9.nv | exact n11.nv | exact n12.nv | exact n20.nv | exact nvK (by omega) (by omega)) ?_)) ⟨(by repeat (first | exact nvL_nil | refine nvL_cons (by first | exact True.intro | exact nvSt (by decide) | exact nvD hb.1 | exact nvD ha.1 | exact n4.nv | exact n5.nv | exact n6.nv | exact n7.nv | exact n8.nv | exact n9.nv | exact n11.nv | exact n12.nv | exact n20.nv | exact nvK (by omega) (by omega)) ?_)), rfl, Nat.le_of_ble_eq_true rfl⟩ (Ex_go (K_reason rc (Nat.le_of_ble_eq_true rfl) (w := 1) (by decide)) ?_)
  rw [rs_2]
  refine w_ild16 i117_543 ?_
  refine w_ileNT i117_545 g117_545 (by omega) (Nat.le_of_eq hz0) ?_
  refine w_bip i117_552 kb_6 ?_
  refine w_cneF i117_554  rfl ?_
  refine w_ald0 i117_557 ?_
  refine w_const i117_558 kc_1 ?_
  refine w_const i117_559 kc_1 ?_
  refine w_VD3 i117_560 c79 (Or.inl rfl) (Or.inl ⟨by decide +kernel, by decide⟩) (by repeat (first | exact nvL_nil | refine nvL_cons (by first | exact True.intro | exact nvSt (by decide) | exact nvD hb.1 | exact nvD ha.1 | exact n4.nv | exact n5.nv | exact n6.nv | exact n7.nv | exact n8.nv | exact n9.nv | exact n11.nv | exact n12.nv | exact n20.nv | exact nvK (by omega) (by omega)) ?_)) ⟨(by repeat (first | exact nvL_nil | refine nvL_cons (by first | exact True.intro | exact nvSt (by decide) | exact nvD hb.1 | exact nvD ha.1 | exact n4.nv | exact n5.nv | exact n6.nv | exact n7.nv | exact n8.nv | exact n9.nv | exact n11.nv | exact n12.nv | exact n20.nv | exact nvK (by omega) (by omega)) ?_)), rfl, Nat.le_of_ble_eq_true rfl⟩ (Ex_go (K_reason rc (Nat.le_of_ble_eq_true rfl) (w := 1) (by decide)) ?_)
  rw [rs_3]
  refine w_ild16 i117_563 ?_
  refine w_ileNT i117_565 g117_565 (by omega) (Nat.le_of_eq hz0) ?_
  refine w_ild15 i117_573 ?_
  refine w_cneF i117_575  rfl ?_
  refine w_ald0 i117_578 ?_
  refine w_const i117_579 kc_2 ?_
  refine w_const i117_580 kc_0 ?_
  refine w_VD3 i117_581 c79 (Or.inl rfl) (Or.inl ⟨by decide +kernel, by decide⟩) (by repeat (first | exact nvL_nil | refine nvL_cons (by first | exact True.intro | exact nvSt (by decide) | exact nvD hb.1 | exact nvD ha.1 | exact n4.nv | exact n5.nv | exact n6.nv | exact n7.nv | exact n8.nv | exact n9.nv | exact n11.nv | exact n12.nv | exact n20.nv | exact nvK (by omega) (by omega)) ?_)) ⟨(by repeat (first | exact nvL_nil | refine nvL_cons (by first | exact True.intro | exact nvSt (by decide) | exact nvD hb.1 | exact nvD ha.1 | exact n4.nv | exact n5.nv | exact n6.nv | exact n7.nv | exact n8.nv | exact n9.nv | exact n11.nv | exact n12.nv | exact n20.nv | exact nvK (by omega) (by omega)) ?_)), rfl, Nat.le_of_ble_eq_true rfl⟩ (Ex_go (K_reason rc (Nat.le_of_ble_eq_true rfl) (w := 2) (by decide)) ?_)
  rw [resR_no (Nat.le_of_ble_eq_true rfl)]
  refine w_sip i117_584 ks_m1015 ?_
  refine w_cneF i117_587  rfl ?_
  refine w_const i117_590 kc_1 ?_
  refine w_goto i117_591 g117_591 ?_
  refine w_iand i117_649 (v := nI 1) (by decide) ?_
  refine w_ist3 i117_650 ?_
  exact hk D J f hb ha
set_option maxHeartbeats 1000000 in
theorem fo_11o {d : Nat} {D : Mm} {Q : Option Value → Mm → Prop} {n B nx ob ar s x w z p k : Nat} {V : Nat → Int32} {hs : HsT} {l18 : Int32} {u4 u5 u6 u7 u8 u9 u11 u12 u20 : Value} (n4 : nvQ u4) (n5 : nvQ u5) (n6 : nvQ u6) (n7 : nvQ u7) (n8 : nvQ u8) (n9 : nvQ u9) (n11 : nvQ u11) (n12 : nvQ u12) (n20 : nvQ u20) (J : CJ D n V B hs nx) (hB : B ≤ 8000) (hb : dyn D ob 8) (ha : dyn D ar 20) (hw : w ≤ 30) (hx : x ≤ 5) (hz : z ≤ 24) {W : Nat → Int32} (hz0 : z = 0) (hwx : x ≤ w) (hE : oB n V (nI s) (nI x) = .inr (nI p, W)) (e3 : W 3 = l18 + nI (x * k)) (e0 : nI (cl (W 0)) = nI n - nI (if w = x then 1 else 0)) (hk : ∀ D2 hs2 nx2, CJ D2 (cl (W 0)) W (B + 30) hs2 nx2 → FrJ D D2 → dyn D2 ob 8 → dyn D2 ar 20 → Wp (d + 10) 117 Q 651 [.ref 0, .ref ob, .int (nI n), .int (nI 1), u4, u5, u6, u7, u8, .int (nI p), .ref ar, u11, u12, .int (nI s), .int (nI x), .int (nI w), .int (nI z), .int (nI p), .int l18, .int (nI k), .int (nI 0)] [] D2) : Wp (d + 10) 117 Q 473 [.ref 0, .ref ob, .int (nI n), .int (nI 1), u4, u5, u6, u7, u8, u9, .ref ar, u11, u12, .int (nI s), .int (nI x), .int (nI w), .int (nI z), .int (nI p), .int l18, .int (nI k), u20] [] D := by
  refine w_ald0 i117_473 ?_
  refine w_ild13 i117_474 ?_
  refine w_ild14 i117_476 ?_
  refine w_VD3 i117_478 c55 (Or.inl rfl) (Or.inl ⟨by decide +kernel, by decide⟩) (by repeat (first | exact nvL_nil | refine nvL_cons (by first | exact True.intro | exact nvSt (by decide) | exact nvD hb.1 | exact nvD ha.1 | exact n4.nv | exact n5.nv | exact n6.nv | exact n7.nv | exact n8.nv | exact n9.nv | exact n11.nv | exact n12.nv | exact n20.nv | exact nvK (by omega) (by omega)) ?_)) ⟨(by repeat (first | exact nvL_nil | refine nvL_cons (by first | exact True.intro | exact nvSt (by decide) | exact nvD hb.1 | exact nvD ha.1 | exact n4.nv | exact n5.nv | exact n6.nv | exact n7.nv | exact n8.nv | exact n9.nv | exact n11.nv | exact n12.nv | exact n20.nv | exact nvK (by omega) (by omega)) ?_)), rfl, Nat.le_of_ble_eq_true rfl⟩ ?_
  refine J_B J (by omega) (fun x rs e => (inl_ne hE e).elim) (fun y V2 e hy D J f => ?_)
  obtain ⟨rfl, rfl⟩ := inr_eq hE e
  have hb := f.dy hb
  have ha := f.dy ha
  have R := J.R
  have h12 := J.h12
  have hop := J.op
  have hby := J.by_ (show B + 30 ≤ 9000 by omega)
  refine w_ist9 i117_481 ?_
  refine w_ild16 i117_483 ?_
  refine w_igtNF i117_485 (by omega) (Nat.le_of_eq hz0) ?_
  refine w_ild15 i117_488 ?_
  refine w_ild14 i117_490 ?_
  refine w_cgeNT i117_492 g117_492 (by omega) (by omega) hwx ?_
  refine w_const i117_499 kc_0 ?_
  refine w_ist20 i117_500 ?_
  refine w_ild3 i117_502 ?_
  refine w_ild20 i117_503 ?_
  refine w_ieqNT i117_505 g117_505 (by omega) (by omega) ?_
  refine w_ild9 i117_598 ?_
  refine w_ild17 i117_600 ?_
  refine w_cneF i117_602  rfl ?_
  refine w_ald0 i117_605 ?_
  refine w_bip i117_606 kb_8 ?_
  refine w_VD2 i117_608 c80 (Or.inl rfl) (Or.inl ⟨by decide +kernel, by decide⟩) (by repeat (first | exact nvL_nil | refine nvL_cons (by first | exact True.intro | exact nvSt (by decide) | exact nvD hb.1 | exact nvD ha.1 | exact n4.nv | exact n5.nv | exact n6.nv | exact n7.nv | exact n8.nv | exact n9.nv | exact n11.nv | exact n12.nv | exact n20.nv | exact nvK (by omega) (by omega)) ?_)) ⟨(by repeat (first | exact nvL_nil | refine nvL_cons (by first | exact True.intro | exact nvSt (by decide) | exact nvD hb.1 | exact nvD ha.1 | exact n4.nv | exact n5.nv | exact n6.nv | exact n7.nv | exact n8.nv | exact n9.nv | exact n11.nv | exact n12.nv | exact n20.nv | exact nvK (by omega) (by omega)) ?_)), rfl, Nat.le_of_ble_eq_true rfl⟩ (Ex_go (K_acc8 R h12 hop hby) ?_)
  refine w_ild18 i117_611 ?_
  refine w_ild14 i117_613 ?_
  refine w_ild19 i117_615 ?_
  refine w_imul i117_617 (nI_mul _ _) ?_
  refine w_iadd i117_618 rfl ?_
  refine w_cneF i117_619  e3 ?_
  refine w_ald0 i117_622 ?_
  refine w_const i117_623 kc_0 ?_
  refine w_VD2 i117_624 c80 (Or.inl rfl) (Or.inl ⟨by decide +kernel, by decide⟩) (by repeat (first | exact nvL_nil | refine nvL_cons (by first | exact True.intro | exact nvSt (by decide) | exact nvD hb.1 | exact nvD ha.1 | exact n4.nv | exact n5.nv | exact n6.nv | exact n7.nv | exact n8.nv | exact n9.nv | exact n11.nv | exact n12.nv | exact n20.nv | exact nvK (by omega) (by omega)) ?_)) ⟨(by repeat (first | exact nvL_nil | refine nvL_cons (by first | exact True.intro | exact nvSt (by decide) | exact nvD hb.1 | exact nvD ha.1 | exact n4.nv | exact n5.nv | exact n6.nv | exact n7.nv | exact n8.nv | exact n9.nv | exact n11.nv | exact n12.nv | exact n20.nv | exact nvK (by omega) (by omega)) ?_)), rfl, Nat.le_of_ble_eq_true rfl⟩ (Ex_go (K_acc0 R h12 hop hby) ?_)
  refine w_ild2 i117_627 ?_
  refine w_ild15 i117_628 ?_
  refine w_ild14 i117_630 ?_
  refine w_cneN i117_632 g117_632 (by omega) (by omega) (fun h632 => ?_) (fun h632 => ?_)
  · skip
    refine w_const i117_639 kc_0 ?_
    refine w_isub i117_640 rfl ?_
    refine w_cneF i117_641  (by first | rw [e0, if_pos (by assumption)] | rw [e0, if_neg (by assumption)]) ?_
    refine w_const i117_644 kc_1 ?_
    refine w_goto i117_645 g117_645 ?_
    refine w_iand i117_649 (v := nI 1) (by decide) ?_
    refine w_ist3 i117_650 ?_
    exact hk D _ _ J f hb ha
  · skip
    refine w_const i117_635 kc_1 ?_
    refine w_goto i117_636 g117_636 ?_
    refine w_isub i117_640 rfl ?_
    refine w_cneF i117_641  (by first | rw [e0, if_pos (by assumption)] | rw [e0, if_neg (by assumption)]) ?_
    refine w_const i117_644 kc_1 ?_
    refine w_goto i117_645 g117_645 ?_
    refine w_iand i117_649 (v := nI 1) (by decide) ?_
    refine w_ist3 i117_650 ?_
    exact hk D _ _ J f hb ha
set_option maxHeartbeats 1000000 in
theorem fo_12 {d : Nat} {D : Mm} {Q : Option Value → Mm → Prop} {n B nx ob ar m C : Nat} {V : Nat → Int32} {hs : HsT} {W : Nat → Int32} {u4 u5 u6 u7 u8 u9 u11 u12 u13 u14 u15 u16 u17 u18 u19 u20 : Value} (n4 : nvQ u4) (n5 : nvQ u5) (n6 : nvQ u6) (n7 : nvQ u7) (n8 : nvQ u8) (n9 : nvQ u9) (n11 : nvQ u11) (n12 : nvQ u12) (n13 : nvQ u13) (n14 : nvQ u14) (n15 : nvQ u15) (n16 : nvQ u16) (n17 : nvQ u17) (n18 : nvQ u18) (n19 : nvQ u19) (n20 : nvQ u20) (J : CJ D m W C hs nx) (S : Sav D n V B) (hC : B ≤ C) (hb : dyn D ob 8) (ha : dyn D ar 20) (hq : ∀ D2, CJ D2 n V B [] nx → FrJ D D2 → dyn D2 ob 8 → Q (some (.int (nI 1))) D2) : Wp (d + 10) 117 Q 651 [.ref 0, .ref ob, .int (nI n), .int (nI 1), u4, u5, u6, u7, u8, u9, .ref ar, u11, u12, u13, u14, u15, u16, u17, u18, u19, u20] [] D := by
  refine w_ald0 i117_651 ?_
  refine w_VD1 i117_652 c84 (Or.inl rfl) (Or.inl ⟨by decide +kernel, by decide⟩) (by repeat (first | exact nvL_nil | refine nvL_cons (by first | exact True.intro | exact nvSt (by decide) | exact nvD hb.1 | exact nvD ha.1 | exact n4.nv | exact n5.nv | exact n6.nv | exact n7.nv | exact n8.nv | exact n9.nv | exact n11.nv | exact n12.nv | exact n13.nv | exact n14.nv | exact n15.nv | exact n16.nv | exact n17.nv | exact n18.nv | exact n19.nv | exact n20.nv | exact nvK (by omega) (by omega)) ?_)) ⟨(by repeat (first | exact nvL_nil | refine nvL_cons (by first | exact True.intro | exact nvSt (by decide) | exact nvD hb.1 | exact nvD ha.1 | exact n4.nv | exact n5.nv | exact n6.nv | exact n7.nv | exact n8.nv | exact n9.nv | exact n11.nv | exact n12.nv | exact n13.nv | exact n14.nv | exact n15.nv | exact n16.nv | exact n17.nv | exact n18.nv | exact n19.nv | exact n20.nv | exact nvK (by omega) (by omega)) ?_)), rfl, Nat.le_of_ble_eq_true rfl⟩ ?_
  refine J_rest J S hC (fun D J S f => ?_)
  have hb := f.dy hb
  refine w_ild2 i117_655 ?_
  refine w_cneF i117_656  rfl ?_
  refine w_ild3 i117_659 ?_
  refine w_ieqNF i117_660 (by omega) (by omega) ?_
  refine w_const i117_663 kc_1 ?_
  refine w_goto i117_664 g117_664 ?_
  refine w_rz i117_668 r117 nar_z1 ?_
  exact hq D J f hb
