/-! the law's body: a round -/
theorem dcn (c : Nat) : nI (min 8 (c + 1)) + Int32.ofInt (-1) = nI (min 7 c) := by
  rw [show min 8 (c + 1) = min 7 c + 1 by omega]
  exact dec1 _
theorem up11 {a : Int32} (ha : 0 ≤ a) : (-1011 : Int32) < a := by
  rw [Int32.lt_iff_toInt_lt]
  have h1 := Int32.le_iff_toInt_le.mp ha
  have e : (0 : Int32).toInt = 0 := rfl
  have e2 : (-1011 : Int32).toInt = -1011 := by decide
  omega
set_option maxHeartbeats 1000000 in
theorem la_3r {d : Nat} {D : Mm} {Q : Option Value → Mm → Prop} {n B nx at_ i ob s nb c : Nat} {V : Nat → Int32} {hs : HsT} {ln : List Nat} {l3 : Int32} {y5 : Int32} {x : Int32} (J : CJ D n V B hs nx) (hB : B ≤ 8000) (S : SbR D 170 ln) (T : Txt D s nb (toldT n V)) (hb : dyn D ob 8) (hu0 : nxt D ≤ usd D) (hu1 : usd D ≤ 600000) (hx : x ≤ -1011) (hc : c ≤ 8) (hk : ∀ D2 ln2, CJ D2 n V B hs nx → SbR D2 170 ln2 → dyn D2 ob 8 → dv D2 s → (∀ q, 169 ≤ q → q < DB + nxt D → q ≠ 4500 → q ≠ 170 → q ≠ 182 → q ≠ ob → D2 q = D q) → nxt D ≤ nxt D2 → nxt D2 ≤ usd D2 → usd D2 ≤ usd D + 5300 → Wp (d + 11) 218 Q 421 [.ref 4000, .ref 0, .int (nI at_), .int l3, .int (nI i), .int y5, .ref ob, .int (nI c), .ref s, .int x] [] D2) : Wp (d + 11) 218 Q 332 [.ref 4000, .ref 0, .int (nI at_), .int l3, .int (nI i), .int y5, .ref ob, .int (nI c), .ref s, .int x] [] D := by
  have hBE := DBv
  refine w_ild9 i218_332 ?_
  refine w_sip i218_334 ks_m1011 ?_
  refine w_cgtF i218_337  hx ?_
  refine w_ald8 i218_340 ?_
  refine w_ald1 i218_342 ?_
  refine w_SD1 i218_343 c111 rfl (by repeat (first | exact nvL_nil | refine nvL_cons (by first | exact True.intro | exact nvSt (by decide) | exact nvD hb.1 | exact nvD T.2.1.1 | exact nvD hs2 | exact nvK (by omega) (by omega)) ?_)) ⟨(by repeat (first | exact nvL_nil | refine nvL_cons (by first | exact True.intro | exact nvSt (by decide) | exact nvD hb.1 | exact nvD T.2.1.1 | exact nvD hs2 | exact nvK (by omega) (by omega)) ?_)), rfl, Nat.le_of_ble_eq_true rfl⟩ ?_
  refine K_told J.R J.iv J.xg.2 (by omega) S hu0 (by omega) (fun D1 s2 nb2 ln2 x2 hd2 hg f S hu0 hu2 => ?_)
  have hs2 := hd2.1
  have gT := T.ge
  have gb := dyn_ge hb
  have J := J.frT f
  have T := T.fr f.2 (f.1 s (by omega) (by omega) (by omega) (by omega)) (f.1 nb (by omega) (by omega) (by omega) (by omega))
  have hb := dyn_fr hb f.2 (f.1 ob (by omega) (by omega) (by omega) (by omega))
  have hne : s ≠ s2 := by omega
  refine w_VD2 i218_346 c142 (Or.inl rfl) (T.1.rec (by decide +kernel)) (by repeat (first | exact nvL_nil | refine nvL_cons (by first | exact True.intro | exact nvSt (by decide) | exact nvD hb.1 | exact nvD T.2.1.1 | exact nvD hs2 | exact nvK (by omega) (by omega)) ?_)) ⟨(by repeat (first | exact nvL_nil | refine nvL_cons (by first | exact True.intro | exact nvSt (by decide) | exact nvD hb.1 | exact nvD T.2.1.1 | exact nvD hs2 | exact nvK (by omega) (by omega)) ?_)), rfl, Nat.le_of_ble_eq_true rfl⟩ (Ex_go (K_eqD T.1 x2 T.2.1 hd2 hne) ?_)
  refine w_ineNT i218_349 g218_349 (by omega) (by omega) ?_
  refine w_ild9 i218_354 ?_
  refine w_sip i218_356 ks_m1011 ?_
  refine w_cgtF i218_359  hx ?_
  refine w_ild7 i218_362 ?_
  refine w_goto i218_364 g218_364 ?_
  refine w_ist7 i218_376 ?_
  refine w_ild9 i218_378 ?_
  refine w_sip i218_380 ks_m1011 ?_
  refine w_cleT i218_383 g218_383  hx ?_
  exact hk D1 ln2 J S hb T.2.1.1 (fun q a1 a2 a3 a4 a5 a6 => f.1 q a2 a3 a4 a5) f.2 hu0 hu2
set_option maxHeartbeats 1000000 in
theorem la_3d {d : Nat} {D : Mm} {Q : Option Value → Mm → Prop} {n B nx at_ i ob s nb c m : Nat} {V : Nat → Int32} {hs : HsT} {ln : List Nat} {l3 : Int32} {y5 : Int32} {a : Int32} {W : Nat → Int32} (J : CJ D m W B ((n, V) :: hs.take 7) nx) (hB : B ≤ 8000) (S : SbR D 170 ln) (T : Txt D s nb (toldT n V)) (hb : dyn D ob 8) (hu0 : nxt D ≤ usd D) (hu1 : usd D ≤ 600000) (ha : 0 ≤ a) (hc : c ≤ 8) (eT : nI (hs.take 7).length = nI (min 7 c)) (hk1 : ∀ D2 nx2 ln2, CJ D2 n V B (hs.take 7) nx2 → SbR D2 170 ln2 → dyn D2 ob 8 → dv D2 s → (∀ q, 169 ≤ q → q < DB + nxt D → q ≠ 4500 → q ≠ 170 → q ≠ 182 → q ≠ ob → D2 q = D q) → nxt D ≤ nxt D2 → nxt D2 ≤ usd D2 → usd D2 ≤ usd D + 5300 → Wp (d + 11) 218 Q 421 [.ref 4000, .ref 0, .int (nI at_), .int l3, .int (nI i), .int y5, .ref ob, .int (nI (min 7 c)), .ref s, .int a] [] D2) (hk2 : ∀ D2, CJ D2 m W B ((n, V) :: hs.take 7) nx → SbR D2 170 ln → dyn D2 ob 8 → dv D2 s → (∀ q, 169 ≤ q → q < DB + nxt D → q ≠ 4500 → q ≠ 170 → q ≠ 182 → q ≠ ob → D2 q = D q) → nxt D ≤ nxt D2 → nxt D2 ≤ usd D2 → usd D2 ≤ usd D + 5300 → Wp (d + 11) 218 Q 421 [.ref 4000, .ref 0, .int (nI at_), .int l3, .int (nI i), .int y5, .ref ob, .int (nI (min 8 (c + 1))), .ref s, .int a] [] D2) : Wp (d + 11) 218 Q 332 [.ref 4000, .ref 0, .int (nI at_), .int l3, .int (nI i), .int y5, .ref ob, .int (nI c), .ref s, .int a] [] D := by
  have hBE := DBv
  refine w_ild9 i218_332 ?_
  refine w_sip i218_334 ks_m1011 ?_
  refine w_cgtT i218_337 g218_337  (up11 ha) ?_
  refine w_ild9 i218_354 ?_
  refine w_sip i218_356 ks_m1011 ?_
  refine w_cgtT i218_359 g218_359  (up11 ha) ?_
  refine w_bip i218_367 kb_8 ?_
  refine w_ild7 i218_369 ?_
  refine w_const i218_371 kc_1 ?_
  refine w_iadd i218_372 (nI_add _ _) ?_
  refine w_SD2 i218_373 c202 rfl (by repeat (first | exact nvL_nil | refine nvL_cons (by first | exact True.intro | exact nvSt (by decide) | exact nvD hb.1 | exact nvD T.2.1.1 | exact nvD hs2 | exact nvK (by omega) (by omega)) ?_)) ⟨(by repeat (first | exact nvL_nil | refine nvL_cons (by first | exact True.intro | exact nvSt (by decide) | exact nvD hb.1 | exact nvD T.2.1.1 | exact nvD hs2 | exact nvK (by omega) (by omega)) ?_)), rfl, Nat.le_of_ble_eq_true rfl⟩ (Ex_go K_min ?_)
  rw [fo_min (by omega) (by omega)]
  refine w_ist7 i218_376 ?_
  refine w_ild9 i218_378 ?_
  refine w_sip i218_380 ks_m1011 ?_
  refine w_cleF i218_383  (up11 ha) ?_
  refine w_ald6 i218_386 ?_
  refine w_const i218_388 kc_4 ?_
  refine w_VD2 i218_389 c119 (Or.inl rfl) (Or.inr ⟨hb.1, by rw [hb.2]; decide +kernel, by rw [hb.2]; decide⟩) (by repeat (first | exact nvL_nil | refine nvL_cons (by first | exact True.intro | exact nvSt (by decide) | exact nvD hb.1 | exact nvD T.2.1.1 | exact nvD hs2 | exact nvK (by omega) (by omega)) ?_)) ⟨(by repeat (first | exact nvL_nil | refine nvL_cons (by first | exact True.intro | exact nvSt (by decide) | exact nvD hb.1 | exact nvD T.2.1.1 | exact nvD hs2 | exact nvK (by omega) (by omega)) ?_)), rfl, Nat.le_of_ble_eq_true rfl⟩ ?_
  refine K_next hb (by decide) (by decide) (fun D1 r hr g => ?_)
  have gb0 := dyn_ge hb
  have kT := T.nk hb
  have en1 := nx_of (g.1 4500 (by omega))
  have J := J.bt hb g
  have S := S.fr (g.1 170 (by omega)) (g.1 182 (by omega))
  have T := T.fr (by rw [en1.1]; exact Nat.le_refl _) (g.1 s kT.1) (g.1 nb kT.2)
  have hb := g.2
  have hu0 : nxt D1 ≤ usd D1 := by rw [en1.1, en1.2]; exact hu0
  have hu1 : usd D1 ≤ 600000 := by rw [en1.2]; exact hu1
  refine w_ineN i218_392 g218_392 (by omega) (fun h392 => ?_) (fun h392 => ?_)
  · skip
    first
      | exact hk2 D1 J S hb T.2.1.1 (fun q a1 a2 a3 a4 a5 a6 => g.1 q a6) (by rw [en1.1]; exact Nat.le_refl _) hu0 (by rw [en1.2]; exact Nat.le_add_right _ _)
      | exact hk1 D3 _ ln2 J S hb T.2.1.1 (fun q a1 a2 a3 a4 a5 a6 => (f.1 q (by omega) a3 a4 a5).trans ((f2 q (by omega)).trans (g.1 q a6))) (by have := f.2; omega) hu0 (by omega)
  · skip
    refine w_inc7 i218_395 (dcn c) ?_
    refine w_ald1 i218_398 ?_
    refine w_VD1 i218_399 c82 (Or.inl rfl) (Or.inl ⟨by decide +kernel, by decide⟩) (by repeat (first | exact nvL_nil | refine nvL_cons (by first | exact True.intro | exact nvSt (by decide) | exact nvD hb.1 | exact nvD T.2.1.1 | exact nvD hs2 | exact nvK (by omega) (by omega)) ?_)) ⟨(by repeat (first | exact nvL_nil | refine nvL_cons (by first | exact True.intro | exact nvSt (by decide) | exact nvD hb.1 | exact nvD T.2.1.1 | exact nvD hs2 | exact nvK (by omega) (by omega)) ?_)), rfl, Nat.le_of_ble_eq_true rfl⟩ ?_
    refine J_undo J (fun D2 J f2 => ?_)
    have gT2 := T.ge
    have en2 := f2.nx
    have S := S.fr (f2 170 (by omega)) (f2 182 (by omega))
    have T := T.fr (by rw [en2.1]; exact Nat.le_refl _) (f2 s (by omega)) (f2 nb (by omega))
    have hb := f2.dy hb
    have hu0 : nxt D2 ≤ usd D2 := by rw [en2.1, en2.2]; exact hu0
    have hu1 : usd D2 ≤ 600000 := by rw [en2.2]; exact hu1
    refine w_ild7 i218_402 ?_
    refine w_cneF i218_404  eT ?_
    refine w_ald8 i218_407 ?_
    refine w_ald1 i218_409 ?_
    refine w_SD1 i218_410 c111 rfl (by repeat (first | exact nvL_nil | refine nvL_cons (by first | exact True.intro | exact nvSt (by decide) | exact nvD hb.1 | exact nvD T.2.1.1 | exact nvD hs2 | exact nvK (by omega) (by omega)) ?_)) ⟨(by repeat (first | exact nvL_nil | refine nvL_cons (by first | exact True.intro | exact nvSt (by decide) | exact nvD hb.1 | exact nvD T.2.1.1 | exact nvD hs2 | exact nvK (by omega) (by omega)) ?_)), rfl, Nat.le_of_ble_eq_true rfl⟩ ?_
    refine K_told J.R J.iv J.xg.2 (by omega) S hu0 (by omega) (fun D3 s2 nb2 ln2 x2 hd2 hg f S hu0 hu2 => ?_)
    have hs2 := hd2.1
    have gT := T.ge
    have gb := dyn_ge hb
    have J := J.frT f
    have T := T.fr f.2 (f.1 s (by omega) (by omega) (by omega) (by omega)) (f.1 nb (by omega) (by omega) (by omega) (by omega))
    have hb := dyn_fr hb f.2 (f.1 ob (by omega) (by omega) (by omega) (by omega))
    have hne : s ≠ s2 := by omega
    refine w_VD2 i218_413 c142 (Or.inl rfl) (T.1.rec (by decide +kernel)) (by repeat (first | exact nvL_nil | refine nvL_cons (by first | exact True.intro | exact nvSt (by decide) | exact nvD hb.1 | exact nvD T.2.1.1 | exact nvD hs2 | exact nvK (by omega) (by omega)) ?_)) ⟨(by repeat (first | exact nvL_nil | refine nvL_cons (by first | exact True.intro | exact nvSt (by decide) | exact nvD hb.1 | exact nvD T.2.1.1 | exact nvD hs2 | exact nvK (by omega) (by omega)) ?_)), rfl, Nat.le_of_ble_eq_true rfl⟩ (Ex_go (K_eqD T.1 x2 T.2.1 hd2 hne) ?_)
    refine w_ineNT i218_416 g218_416 (by omega) (by omega) ?_
    first
      | exact hk2 D1 J S hb T.2.1.1 (fun q a1 a2 a3 a4 a5 a6 => g.1 q a6) (by rw [en1.1]; exact Nat.le_refl _) hu0 (by rw [en1.2]; exact Nat.le_add_right _ _)
      | exact hk1 D3 _ ln2 J S hb T.2.1.1 (fun q a1 a2 a3 a4 a5 a6 => (f.1 q (by omega) a3 a4 a5).trans ((f2 q (by omega)).trans (g.1 q a6))) (by have := f.2; omega) hu0 (by omega)
set_option maxHeartbeats 1000000 in
theorem la_4 {d : Nat} {D : Mm} {Q : Option Value → Mm → Prop} {n B nx at_ i ob s : Nat} {V : Nat → Int32} {hs : HsT} {ln : List Nat} {l3 : Int32} {y5 : Int32} {y9 : Int32} (J : CJ D n V B hs nx) (hB : B ≤ 8000) (S : SbR D 170 ln) (hb : dyn D ob 8) (hds : dv D s) (hu0 : nxt D ≤ usd D) (hu1 : usd D ≤ 473000) (hk : ∀ D2 ln2, CJ D2 n V B hs nx → SbR D2 170 ln2 → dyn D2 ob 8 → dv D2 s → (∀ q, 169 ≤ q → q < DB + nxt D → q ≠ 4500 → q ≠ 170 → q ≠ 182 → q ≠ ob → D2 q = D q) → nxt D ≤ nxt D2 → nxt D2 ≤ usd D2 → usd D2 ≤ usd D + 9100 → Wp (d + 11) 218 Q 457 [.ref 4000, .ref 0, .int (nI at_), .int l3, .int (nI i), .int y5, .ref ob, .int (nI hs.length), .ref s, .int y9] [] D2) : Wp (d + 11) 218 Q 421 [.ref 4000, .ref 0, .int (nI at_), .int l3, .int (nI i), .int y5, .ref ob, .int (nI hs.length), .ref s, .int y9] [] D := by
  have hBE := DBv
  refine w_ald1 i218_421 ?_
  refine w_bip i218_422 kb_13 ?_
  refine w_VD2 i218_424 c80 (Or.inl rfl) (Or.inl ⟨by decide +kernel, by decide⟩) (by repeat (first | exact nvL_nil | refine nvL_cons (by first | exact True.intro | exact nvSt (by decide) | exact nvD hb.1 | exact nvD hds | exact nvK (by omega) (by omega)) ?_)) ⟨(by repeat (first | exact nvL_nil | refine nvL_cons (by first | exact True.intro | exact nvSt (by decide) | exact nvD hb.1 | exact nvD hds | exact nvK (by omega) (by omega)) ?_)), rfl, Nat.le_of_ble_eq_true rfl⟩ (Ex_go (K_acc13 J.R J.h12 J.op (J.by_ (by omega)) J.cn.1) ?_)
  refine w_ild7 i218_427 ?_
  refine w_cneF i218_429  rfl ?_
  refine w_ald1 i218_432 ?_
  refine w_bip i218_433 kb_12 ?_
  refine w_VD2 i218_435 c80 (Or.inl rfl) (Or.inl ⟨by decide +kernel, by decide⟩) (by repeat (first | exact nvL_nil | refine nvL_cons (by first | exact True.intro | exact nvSt (by decide) | exact nvD hb.1 | exact nvD hds | exact nvK (by omega) (by omega)) ?_)) ⟨(by repeat (first | exact nvL_nil | refine nvL_cons (by first | exact True.intro | exact nvSt (by decide) | exact nvD hb.1 | exact nvD hds | exact nvK (by omega) (by omega)) ?_)), rfl, Nat.le_of_ble_eq_true rfl⟩ (Ex_go (K_acc12 J.2.2.2) ?_)
  rw [show ([] : List Nat).length = 0 from rfl]
  refine w_ineNF i218_438 (by omega) (by omega) ?_
  refine w_ald1 i218_441 ?_
  refine w_SD1 i218_442 c113 rfl (by repeat (first | exact nvL_nil | refine nvL_cons (by first | exact True.intro | exact nvSt (by decide) | exact nvD hb.1 | exact nvD hds | exact nvK (by omega) (by omega)) ?_)) ⟨(by repeat (first | exact nvL_nil | refine nvL_cons (by first | exact True.intro | exact nvSt (by decide) | exact nvD hb.1 | exact nvD hds | exact nvK (by omega) (by omega)) ?_)), rfl, Nat.le_of_ble_eq_true rfl⟩ ?_
  refine KL_stubs J.R J.iv (by omega) J.xg S hu0 (by omega) (fun D1 ln1 f1 S hu0 hu2 => ?_)
  have J := J.frT f1
  have gb := dyn_ge hb
  have hb := dyn_fr hb f1.2 (f1.1 ob (by omega) (by omega) (by omega) (by omega))
  have hds := dv_le hds f1.2
  refine w_ieqNF i218_445 (by omega) (by omega) ?_
  refine w_ald1 i218_448 ?_
  refine w_SD1 i218_449 c114 rfl (by repeat (first | exact nvL_nil | refine nvL_cons (by first | exact True.intro | exact nvSt (by decide) | exact nvD hb.1 | exact nvD hds | exact nvK (by omega) (by omega)) ?_)) ⟨(by repeat (first | exact nvL_nil | refine nvL_cons (by first | exact True.intro | exact nvSt (by decide) | exact nvD hb.1 | exact nvD hds | exact nvK (by omega) (by omega)) ?_)), rfl, Nat.le_of_ble_eq_true rfl⟩ ?_
  refine KL_houses J.R J.iv (by omega) J.xg S hu0 (by omega) (fun D2 f2 S hu0 hu3 => ?_)
  have J := J.frH f2
  have gb := dyn_ge hb
  have hb := dyn_fr hb f2.2 (f2.1 ob (by omega) (by omega) (by omega) (by omega) (by omega) (by omega) (by omega))
  have hds := dv_le hds f2.2
  refine w_ineNT i218_452 g218_452 (by omega) (by omega) ?_
  exact hk D2 _ J S hb hds (fun q a1 a2 a3 a4 a5 a6 => (f2.1 q (by have := f1.2; omega) a3 a4 a5 (by omega) (by omega) (by omega)).trans (f1.1 q a2 a3 a4 a5)) (Nat.le_trans f1.2 f2.2) hu0 (by omega)
set_option maxHeartbeats 1000000 in
theorem la_5n {d : Nat} {D : Mm} {Q : Option Value → Mm → Prop} {n B nx at_ i ob s : Nat} {V : Nat → Int32} {hs : HsT} {ln : List Nat} {l3 : Int32} {y5 : Int32} {u7 u9 : Value} (n7 : nvV D u7) (n9 : nvV D u9) (hi : i < 16) (h3 : i % 3 ≠ 2) (hk : Wp (d + 11) 218 Q 503 [.ref 4000, .ref 0, .int (nI at_), .int l3, .int (nI i), .int y5, .ref ob, u7, .ref s, u9] [] D) : Wp (d + 11) 218 Q 457 [.ref 4000, .ref 0, .int (nI at_), .int l3, .int (nI i), .int y5, .ref ob, u7, .ref s, u9] [] D := by
  refine w_ild4 i218_457 ?_
  refine w_const i218_459 kc_3 ?_
  refine w_irem i218_460 (by decide) (nI_rem (by omega) (by decide)) ?_
  refine w_const i218_461 kc_2 ?_
  refine w_cneNT i218_462 g218_462 (by omega) (by omega) h3 ?_
  exact hk
set_option maxHeartbeats 1000000 in
theorem la_5y {d : Nat} {D : Mm} {Q : Option Value → Mm → Prop} {n B nx at_ i ob s : Nat} {V : Nat → Int32} {hs : HsT} {ln : List Nat} {l3 : Int32} {y5 : Int32} {u7 u9 : Value} (n7 : nvV D u7) (n9 : nvV D u9) (J : CJ D n V B hs nx) (hB : B ≤ 8000) (S : SbR D 170 ln) (hb : dyn D ob 8) (hds : dv D s) (hu0 : nxt D ≤ usd D) (hu1 : usd D ≤ 500000) (hi : i < 16) (h3 : i % 3 = 2) (hk : ∀ D2 s1 nx2 ln2, CJ D2 n V B [] nx2 → SbR D2 170 ln2 → dyn D2 ob 8 → dv D2 s1 → (∀ q, 169 ≤ q → q < DB + nxt D → q ≠ 4500 → q ≠ 170 → q ≠ 182 → q ≠ ob → D2 q = D q) → nxt D ≤ nxt D2 → nxt D2 ≤ usd D2 → usd D2 ≤ usd D + 10607 → Wp (d + 11) 218 Q 503 [.ref 4000, .ref 0, .int (nI at_), .int l3, .int (nI i), .int y5, .ref ob, u7, .ref s1, u9] [] D2) : Wp (d + 11) 218 Q 457 [.ref 4000, .ref 0, .int (nI at_), .int l3, .int (nI i), .int y5, .ref ob, u7, .ref s, u9] [] D := by
  have hBE := DBv
  refine w_ild4 i218_457 ?_
  refine w_const i218_459 kc_3 ?_
  refine w_irem i218_460 (by decide) (nI_rem (by omega) (by decide)) ?_
  refine w_const i218_461 kc_2 ?_
  refine w_cneNF i218_462 (by omega) (by omega) h3 ?_
  refine w_ald1 i218_465 ?_
  refine w_SD1 i218_466 c111 rfl (by repeat (first | exact nvL_nil | refine nvL_cons (by first | exact True.intro | exact nvSt (by decide) | exact nvD hb.1 | exact nvD hds | exact nvD T.2.1.1 | exact nvD hs2 | exact n7 | exact n9 | exact nvK (by omega) (by omega)) ?_)) ⟨(by repeat (first | exact nvL_nil | refine nvL_cons (by first | exact True.intro | exact nvSt (by decide) | exact nvD hb.1 | exact nvD hds | exact nvD T.2.1.1 | exact nvD hs2 | exact n7 | exact n9 | exact nvK (by omega) (by omega)) ?_)), rfl, Nat.le_of_ble_eq_true rfl⟩ ?_
  refine K_told J.R J.iv J.xg.2 (by omega) S hu0 (by omega) (fun D1 s1 nb ln1 x1 hd1 hg1 f1 S hu0 hu2 => ?_)
  have T := Txt.of x1 hd1
  have gb := dyn_ge hb
  have J := J.frT f1
  have hb := dyn_fr hb f1.2 (f1.1 ob (by omega) (by omega) (by omega) (by omega))
  have n7 := nv_le n7 f1.2
  have n9 : nvV D1 u9 := nv_le n9 f1.2
  have hds := dv_le hds f1.2
  refine w_ast8 i218_469 ?_
  refine w_ald1 i218_471 ?_
  refine w_ald6 i218_472 ?_
  refine w_SD2 i218_474 c117 rfl (by repeat (first | exact nvL_nil | refine nvL_cons (by first | exact True.intro | exact nvSt (by decide) | exact nvD hb.1 | exact nvD hds | exact nvD T.2.1.1 | exact nvD hs2 | exact n7 | exact n9 | exact nvK (by omega) (by omega)) ?_)) ⟨(by repeat (first | exact nvL_nil | refine nvL_cons (by first | exact True.intro | exact nvSt (by decide) | exact nvD hb.1 | exact nvD hds | exact nvD T.2.1.1 | exact nvD hs2 | exact n7 | exact n9 | exact nvK (by omega) (by omega)) ?_)), rfl, Nat.le_of_ble_eq_true rfl⟩ ?_
  have kT := T.nk hb
  have gT1 := T.ge
  refine KL_foretold J (by omega) hb hu0 (by omega) (fun D2 nx2 J hb f2 hn2 hu0 hu3 => ?_)
  have S := S.fr (f2 170 (by omega) (by omega) (by omega) (by omega)) (f2 182 (by omega) (by omega) (by omega) (by omega))
  have T := T.fr hn2 (f2 s1 (by omega) (by omega) (by omega) kT.1) (f2 nb (by omega) (by omega) (by omega) kT.2)
  have n7 := nv_le n7 hn2
  have n9 : nvV D2 u9 := nv_le n9 hn2
  refine w_ieqNF i218_477 (by omega) (by omega) ?_
  refine w_ald8 i218_480 ?_
  refine w_ald1 i218_482 ?_
  refine w_SD1 i218_483 c111 rfl (by repeat (first | exact nvL_nil | refine nvL_cons (by first | exact True.intro | exact nvSt (by decide) | exact nvD hb.1 | exact nvD hds | exact nvD T.2.1.1 | exact nvD hs2 | exact n7 | exact n9 | exact nvK (by omega) (by omega)) ?_)) ⟨(by repeat (first | exact nvL_nil | refine nvL_cons (by first | exact True.intro | exact nvSt (by decide) | exact nvD hb.1 | exact nvD hds | exact nvD T.2.1.1 | exact nvD hs2 | exact n7 | exact n9 | exact nvK (by omega) (by omega)) ?_)), rfl, Nat.le_of_ble_eq_true rfl⟩ ?_
  refine K_told J.R J.iv J.xg.2 (by omega) S hu0 (by omega) (fun D3 s2 nb2 ln2 x2 hd2 hg f S hu0 hu2 => ?_)
  have hs2 := hd2.1
  have gT := T.ge
  have gb := dyn_ge hb
  have J := J.frT f
  have T := T.fr f.2 (f.1 s1 (by omega) (by omega) (by omega) (by omega)) (f.1 nb (by omega) (by omega) (by omega) (by omega))
  have hb := dyn_fr hb f.2 (f.1 ob (by omega) (by omega) (by omega) (by omega))
  have hne : s1 ≠ s2 := by omega
  have n7 := nv_le n7 f.2
  have n9 : nvV D3 u9 := nv_le n9 f.2
  refine w_VD2 i218_486 c142 (Or.inl rfl) (T.1.rec (by decide +kernel)) (by repeat (first | exact nvL_nil | refine nvL_cons (by first | exact True.intro | exact nvSt (by decide) | exact nvD hb.1 | exact nvD hds | exact nvD T.2.1.1 | exact nvD hs2 | exact n7 | exact n9 | exact nvK (by omega) (by omega)) ?_)) ⟨(by repeat (first | exact nvL_nil | refine nvL_cons (by first | exact True.intro | exact nvSt (by decide) | exact nvD hb.1 | exact nvD hds | exact nvD T.2.1.1 | exact nvD hs2 | exact n7 | exact n9 | exact nvK (by omega) (by omega)) ?_)), rfl, Nat.le_of_ble_eq_true rfl⟩ (Ex_go (K_eqD T.1 x2 T.2.1 hd2 hne) ?_)
  refine w_ieqNF i218_489 (by omega) (by omega) ?_
  refine w_ald1 i218_492 ?_
  refine w_bip i218_493 kb_13 ?_
  refine w_VD2 i218_495 c80 (Or.inl rfl) (Or.inl ⟨by decide +kernel, by decide⟩) (by repeat (first | exact nvL_nil | refine nvL_cons (by first | exact True.intro | exact nvSt (by decide) | exact nvD hb.1 | exact nvD hds | exact nvD T.2.1.1 | exact nvD hs2 | exact n7 | exact n9 | exact nvK (by omega) (by omega)) ?_)) ⟨(by repeat (first | exact nvL_nil | refine nvL_cons (by first | exact True.intro | exact nvSt (by decide) | exact nvD hb.1 | exact nvD hds | exact nvD T.2.1.1 | exact nvD hs2 | exact n7 | exact n9 | exact nvK (by omega) (by omega)) ?_)), rfl, Nat.le_of_ble_eq_true rfl⟩ (Ex_go (K_acc13 J.R J.h12 J.op (J.by_ (by omega)) J.cn.1) ?_)
  rw [show ([] : HsT).length = 0 from rfl]
  refine w_ieqNT i218_498 g218_498 (by omega) (by omega) ?_
  exact hk D3 s1 nx2 ln2 J S hb T.2.1.1 (fun q a1 a2 a3 a4 a5 a6 => (f.1 q (by have := f1.2; omega) a3 a4 a5).trans ((f2 q a1 (by have := f1.2; omega) a3 a6).trans (f1.1 q a2 a3 a4 a5))) (Nat.le_trans f1.2 (Nat.le_trans hn2 f.2)) hu0 (by omega)
set_option maxHeartbeats 1000000 in
theorem la_6 {d : Nat} {D : Mm} {Q : Option Value → Mm → Prop} {at_ i : Nat} {l3 : Int32} {u5 u6 u7 u8 u9 : Value} (hk : Wp (d + 11) 218 Q 271 [.ref 4000, .ref 0, .int (nI at_), .int l3, .int (nI (i + 1)), u5, u6, u7, u8, u9] [] D) : Wp (d + 11) 218 Q 503 [.ref 4000, .ref 0, .int (nI at_), .int l3, .int (nI i), u5, u6, u7, u8, u9] [] D := by
  refine w_inc4 i218_503 (inc1 _) ?_
  refine w_goto i218_506 g218_506 ?_
  exact hk
set_option maxHeartbeats 400000 in
theorem la_7 {d : Nat} {D : Mm} {Q : Option Value → Mm → Prop} {at_ mm : Nat} {u5 u6 u7 u8 u9 : Value} (hm : 0 < mm) (hm2 : mm < 1000000) (hq : Q (some (.int (nI 1))) D) : Wp (d + 11) 218 Q 271 [.ref 4000, .ref 0, .int (nI at_), .int (nI mm), .int (nI 16), u5, u6, u7, u8, u9] [] D := by
  refine w_ild4 i218_271 ?_
  refine w_bip i218_273 kb_16 ?_
  refine w_cgeNT i218_275 g218_275 (by omega) (by omega) (Nat.le_refl _) ?_
  refine w_ild3 i218_509 ?_
  refine w_ileNF i218_510 (by omega) hm ?_
  refine w_const i218_513 kc_1 ?_
  refine w_goto i218_514 g218_514 ?_
  refine w_rz i218_518 law_k.2.1 nar_z1 ?_
  exact hq
