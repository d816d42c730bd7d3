/-! the law's stubs: their order and their sums -/
theorem vso {V : Nat → Int32} {s w : Nat} (h3 : w ≠ 3) (h6 : w ≠ 6) : vStubOf V s w = V (30 + 8 * s + w) := by
  unfold vStubOf
  rw [ifp_f h3, ifp_f h6]
set_option maxHeartbeats 1000000 in
theorem su_c0 {d : Nat} {D : Mm} {Q : Option Value → Mm → Prop} {n s r ar sd : Nat} {V : Nat → Int32} {l5 l6 l7 : Int32} {l10 l11 : Value} (n10 : nvV D l10) (n11 : nvV D l11) (R : Rel D n V) (hle : n ≤ 12) (hlt : ltN n V) (hs : s < n) (hda : dv D ar) (hds : dv D sd) (hr : frk (sRank n V) (nI s) n 0 = nI r) (hk : Wp (d + 10) 113 Q 405 [.ref 0, .int (nI n), .ref ar, .int (-1), .int (nI s), .int l5, .int l6, .int l7, .ref sd, .int (nI 1), .int (nI r), .int (nI 1)] [] D) : Wp (d + 10) 113 Q 332 [.ref 0, .int (nI n), .ref ar, .int (-1), .int (nI s), .int l5, .int l6, .int l7, .ref sd, .int (nI 1), l10, l11] [] D := by
  refine w_ald0 i113_332 ?_
  refine w_ild4 i113_333 ?_
  refine w_VD2 i113_335 c73 (Or.inl rfl) (Or.inl ⟨by decide +kernel, by decide⟩) (by repeat (first | exact nvL_nil | refine nvL_cons (by first | exact True.intro | exact nvSt (by decide) | exact nvD hda | exact nvD hds | exact n10 | exact n11 | exact nvK (by omega) (by omega)) ?_)) ⟨(by repeat (first | exact nvL_nil | refine nvL_cons (by first | exact True.intro | exact nvSt (by decide) | exact nvD hda | exact nvD hds | exact n10 | exact n11 | exact nvK (by omega) (by omega)) ?_)), rfl, Nat.le_of_ble_eq_true rfl⟩ (Ex_go (K_brightest R hle hlt) ?_)
  rw [hr]
  refine w_ist10 i113_338 ?_
  refine w_ild3 i113_340 ?_
  refine w_igeF i113_341 (by decide) ?_
  refine w_const i113_344 kc_1 ?_
  refine w_goto i113_345 g113_345 ?_
  refine w_ist11 i113_377 ?_
  refine w_ild11 i113_379 ?_
  refine w_ieqNF i113_381 (by omega) (by decide) ?_
  refine w_ild11 i113_384 ?_
  refine w_goto i113_386 g113_386 ?_
  refine w_ist11 i113_403 ?_
  exact hk
set_option maxHeartbeats 1000000 in
theorem su_c1 {d : Nat} {D : Mm} {Q : Option Value → Mm → Prop} {n s r r0 ar sd : Nat} {V : Nat → Int32} {l5 l6 l7 : Int32} {l10 l11 : Value} (n10 : nvV D l10) (n11 : nvV D l11) (R : Rel D n V) (hle : n ≤ 12) (hlt : ltN n V) (hs : s < n) (hda : dv D ar) (hds : dv D sd) (hr : frk (sRank n V) (nI s) n 0 = nI r) (hr0 : r0 < n) (hrn : r < n) (hk : ∀ x, x = sBy V r r0 → Wp (d + 10) 113 Q 405 [.ref 0, .int (nI n), .ref ar, .int (nI r0), .int (nI s), .int l5, .int l6, .int l7, .ref sd, .int (nI 1), .int (nI r), .int x] [] D) : Wp (d + 10) 113 Q 332 [.ref 0, .int (nI n), .ref ar, .int (nI r0), .int (nI s), .int l5, .int l6, .int l7, .ref sd, .int (nI 1), l10, l11] [] D := by
  refine w_ald0 i113_332 ?_
  refine w_ild4 i113_333 ?_
  refine w_VD2 i113_335 c73 (Or.inl rfl) (Or.inl ⟨by decide +kernel, by decide⟩) (by repeat (first | exact nvL_nil | refine nvL_cons (by first | exact True.intro | exact nvSt (by decide) | exact nvD hda | exact nvD hds | exact n10 | exact n11 | exact nvK (by omega) (by omega)) ?_)) ⟨(by repeat (first | exact nvL_nil | refine nvL_cons (by first | exact True.intro | exact nvSt (by decide) | exact nvD hda | exact nvD hds | exact n10 | exact n11 | exact nvK (by omega) (by omega)) ?_)), rfl, Nat.le_of_ble_eq_true rfl⟩ (Ex_go (K_brightest R hle hlt) ?_)
  rw [hr]
  refine w_ist10 i113_338 ?_
  refine w_ild3 i113_340 ?_
  refine w_igeT i113_341 g113_341 (nI_pos' (by omega)) ?_
  refine w_ald0 i113_348 ?_
  refine w_ild3 i113_349 ?_
  refine w_const i113_350 kc_1 ?_
  refine w_VD3 i113_351 c58 (Or.inl rfl) (Or.inl ⟨by decide +kernel, by decide⟩) (by repeat (first | exact nvL_nil | refine nvL_cons (by first | exact True.intro | exact nvSt (by decide) | exact nvD hda | exact nvD hds | exact n10 | exact n11 | exact nvK (by omega) (by omega)) ?_)) ⟨(by repeat (first | exact nvL_nil | refine nvL_cons (by first | exact True.intro | exact nvSt (by decide) | exact nvD hda | exact nvD hds | exact n10 | exact n11 | exact nvK (by omega) (by omega)) ?_)), rfl, Nat.le_of_ble_eq_true rfl⟩ (Ex_go (K_stubOf_1 R hle hr0) ?_)
  rw [vso (by decide) (by decide)]
  refine w_ald0 i113_354 ?_
  refine w_ild3 i113_355 ?_
  refine w_const i113_356 kc_2 ?_
  refine w_VD3 i113_357 c58 (Or.inl rfl) (Or.inl ⟨by decide +kernel, by decide⟩) (by repeat (first | exact nvL_nil | refine nvL_cons (by first | exact True.intro | exact nvSt (by decide) | exact nvD hda | exact nvD hds | exact n10 | exact n11 | exact nvK (by omega) (by omega)) ?_)) ⟨(by repeat (first | exact nvL_nil | refine nvL_cons (by first | exact True.intro | exact nvSt (by decide) | exact nvD hda | exact nvD hds | exact n10 | exact n11 | exact nvK (by omega) (by omega)) ?_)), rfl, Nat.le_of_ble_eq_true rfl⟩ (Ex_go (K_stubOf_2 R hle hr0) ?_)
  rw [vso (by decide) (by decide)]
  refine w_imul i113_360 rfl ?_
  refine w_ald0 i113_361 ?_
  refine w_ild10 i113_362 ?_
  refine w_const i113_364 kc_1 ?_
  refine w_VD3 i113_365 c58 (Or.inl rfl) (Or.inl ⟨by decide +kernel, by decide⟩) (by repeat (first | exact nvL_nil | refine nvL_cons (by first | exact True.intro | exact nvSt (by decide) | exact nvD hda | exact nvD hds | exact n10 | exact n11 | exact nvK (by omega) (by omega)) ?_)) ⟨(by repeat (first | exact nvL_nil | refine nvL_cons (by first | exact True.intro | exact nvSt (by decide) | exact nvD hda | exact nvD hds | exact n10 | exact n11 | exact nvK (by omega) (by omega)) ?_)), rfl, Nat.le_of_ble_eq_true rfl⟩ (Ex_go (K_stubOf_1 R hle hrn) ?_)
  rw [vso (by decide) (by decide)]
  refine w_ald0 i113_368 ?_
  refine w_ild10 i113_369 ?_
  refine w_const i113_371 kc_2 ?_
  refine w_VD3 i113_372 c58 (Or.inl rfl) (Or.inl ⟨by decide +kernel, by decide⟩) (by repeat (first | exact nvL_nil | refine nvL_cons (by first | exact True.intro | exact nvSt (by decide) | exact nvD hda | exact nvD hds | exact n10 | exact n11 | exact nvK (by omega) (by omega)) ?_)) ⟨(by repeat (first | exact nvL_nil | refine nvL_cons (by first | exact True.intro | exact nvSt (by decide) | exact nvD hda | exact nvD hds | exact n10 | exact n11 | exact nvK (by omega) (by omega)) ?_)), rfl, Nat.le_of_ble_eq_true rfl⟩ (Ex_go (K_stubOf_2 R hle hrn) ?_)
  rw [vso (by decide) (by decide)]
  refine w_imul i113_375 rfl ?_
  refine w_isub i113_376 rfl ?_
  refine w_ist11 i113_377 ?_
  refine w_ild11 i113_379 ?_
  refine w_ieq i113_381 g113_381  (fun h381 => ?_) (fun h381 => ?_)
  · skip
    refine w_ald0 i113_389 ?_
    refine w_ild10 i113_390 ?_
    refine w_const i113_392 kc_4 ?_
    refine w_VD3 i113_393 c58 (Or.inl rfl) (Or.inl ⟨by decide +kernel, by decide⟩) (by repeat (first | exact nvL_nil | refine nvL_cons (by first | exact True.intro | exact nvSt (by decide) | exact nvD hda | exact nvD hds | exact n10 | exact n11 | exact nvK (by omega) (by omega)) ?_)) ⟨(by repeat (first | exact nvL_nil | refine nvL_cons (by first | exact True.intro | exact nvSt (by decide) | exact nvD hda | exact nvD hds | exact n10 | exact n11 | exact nvK (by omega) (by omega)) ?_)), rfl, Nat.le_of_ble_eq_true rfl⟩ (Ex_go (K_stubOf_4 R hle hrn) ?_)
    rw [vso (by decide) (by decide)]
    refine w_ald0 i113_396 ?_
    refine w_ild3 i113_397 ?_
    refine w_const i113_398 kc_4 ?_
    refine w_VD3 i113_399 c58 (Or.inl rfl) (Or.inl ⟨by decide +kernel, by decide⟩) (by repeat (first | exact nvL_nil | refine nvL_cons (by first | exact True.intro | exact nvSt (by decide) | exact nvD hda | exact nvD hds | exact n10 | exact n11 | exact nvK (by omega) (by omega)) ?_)) ⟨(by repeat (first | exact nvL_nil | refine nvL_cons (by first | exact True.intro | exact nvSt (by decide) | exact nvD hda | exact nvD hds | exact n10 | exact n11 | exact nvK (by omega) (by omega)) ?_)), rfl, Nat.le_of_ble_eq_true rfl⟩ (Ex_go (K_stubOf_4 R hle hr0) ?_)
    rw [vso (by decide) (by decide)]
    refine w_isub i113_402 rfl ?_
    refine w_ist11 i113_403 ?_
    exact hk _ (by unfold sBy; first | rw [ifp_t (by assumption)] | rw [ifp_f (by assumption)])
  · skip
    refine w_ild11 i113_384 ?_
    refine w_goto i113_386 g113_386 ?_
    refine w_ist11 i113_403 ?_
    exact hk _ (by unfold sBy; first | rw [ifp_t (by assumption)] | rw [ifp_f (by assumption)])
set_option maxHeartbeats 1000000 in
theorem su_d0 {d : Nat} {D : Mm} {Q : Option Value → Mm → Prop} {n s w u q A0 A1 A2 ar sd : Nat} {V : Nat → Int32} {l3 l5 l6 l10 l11 : Int32} (R : Rel D n V) (hle : n ≤ 12) (hs : s < n) (ha : dyn D ar 20) (hc : cap D ar = 3) (hds : dv D sd) (hq : q < 100) (hv1 : vStubOf V s 1 = nI w) (hv4 : vStubOf V s 4 = nI u) (e0 : D ar 0 = nI A0) (e1 : D ar 1 = nI A1) (e2 : D ar 2 = nI A2) (hk : ∀ D3, (∀ q, q ≠ ar → D3 q = D q) → dyn D3 ar 20 → cap D3 ar = 3 → D3 ar 0 = nI (A0 + w) → D3 ar 1 = nI (A1 + u) → D3 ar 2 = nI (A2 + 1) → Wp (d + 10) 113 Q 447 [.ref 0, .int (nI n), .ref ar, .int l3, .int (nI s), .int l5, .int l6, .int (nI q), .ref sd, .int (nI 1), .int l10, .int l11] [] D3) : Wp (d + 10) 113 Q 405 [.ref 0, .int (nI n), .ref ar, .int l3, .int (nI s), .int l5, .int l6, .int (nI q), .ref sd, .int (nI 1), .int l10, .int l11] [] D := by
  have hga := dyn_ge ha
  have hda := ha.1
  refine w_ald2 i113_405 ?_
  refine w_const i113_406 kc_0 ?_
  refine w_dup2 i113_407 rfl rfl ?_
  refine w_ialD i113_408 ha (by rw [hc]; decide) (by rw [hc]; decide) e0 ?_
  refine w_ald0 i113_409 ?_
  refine w_ild4 i113_410 ?_
  refine w_const i113_412 kc_1 ?_
  refine w_VD3 i113_413 c58 (Or.inl rfl) (Or.inl ⟨by decide +kernel, by decide⟩) (by repeat (first | exact nvL_nil | refine nvL_cons (by first | exact True.intro | exact nvSt (by decide) | exact nvD hda | exact nvD hds | exact nvD (ha1).1 | exact nvD (dv_of1 hds) | exact nvD ha2.1 | exact nvK (by omega) (by omega)) ?_)) ⟨(by repeat (first | exact nvL_nil | refine nvL_cons (by first | exact True.intro | exact nvSt (by decide) | exact nvD hda | exact nvD hds | exact nvD (ha1).1 | exact nvD (dv_of1 hds) | exact nvD ha2.1 | exact nvK (by omega) (by omega)) ?_)), rfl, Nat.le_of_ble_eq_true rfl⟩ (Ex_go (K_stubOf_1 R hle hs) ?_)
  rw [hv1]
  refine w_iadd i113_416 (nI_add _ _) ?_
  refine w_iasD i113_417 ha (by rw [hc]; decide) (by rw [hc]; decide) ?_
  obtain ⟨D1, eD1⟩ : ∃ D1, D1 = mup D ar 0 (nI (A0 + w)) := ⟨_, rfl⟩
  rw [← eD1]
  have ha1 : dyn D1 ar 20 := by rw [eD1]; exact dyn_mup ha (by omega) (Or.inr (by decide))
  have hc1 : cap D1 ar = 3 := by rw [eD1, cap_mup2 (Or.inr (by decide))]; exact hc
  have f1 : ∀ q, q ≠ ar → D1 q = D q := fun q a => by rw [eD1]; exact mupF a
  have R1 : Rel D1 n V := R.fr (fun q a b => f1 q (by omega))
  have e01 : D1 ar 0 = nI (A0 + w) := by rw [eD1]; exact mupE
  have e1 : D1 ar 1 = nI A1 := by rw [eD1]; exact (mupJ (by decide)).trans e1
  have e2 : D1 ar 2 = nI A2 := by rw [eD1]; exact (mupJ (by decide)).trans e2
  have hda := ha1.1
  have hds : dv D1 sd := ⟨hds.1, by rw [eD1, nxt_mup (by omega)]; exact hds.2⟩
  refine w_ald2 i113_418 ?_
  refine w_const i113_419 kc_1 ?_
  refine w_dup2 i113_420 rfl rfl ?_
  refine w_ialD i113_421 ha1 (by rw [hc1]; decide) (by rw [hc1]; decide) e1 ?_
  refine w_ald0 i113_422 ?_
  refine w_ild4 i113_423 ?_
  refine w_const i113_425 kc_4 ?_
  refine w_VD3 i113_426 c58 (Or.inl rfl) (Or.inl ⟨by decide +kernel, by decide⟩) (by repeat (first | exact nvL_nil | refine nvL_cons (by first | exact True.intro | exact nvSt (by decide) | exact nvD hda | exact nvD hds | exact nvD (ha1).1 | exact nvD (dv_of1 hds) | exact nvD ha2.1 | exact nvK (by omega) (by omega)) ?_)) ⟨(by repeat (first | exact nvL_nil | refine nvL_cons (by first | exact True.intro | exact nvSt (by decide) | exact nvD hda | exact nvD hds | exact nvD (ha1).1 | exact nvD (dv_of1 hds) | exact nvD ha2.1 | exact nvK (by omega) (by omega)) ?_)), rfl, Nat.le_of_ble_eq_true rfl⟩ (Ex_go (K_stubOf_4 R1 hle hs) ?_)
  rw [hv4]
  refine w_iadd i113_429 (nI_add _ _) ?_
  refine w_iasD i113_430 ha1 (by rw [hc1]; decide) (by rw [hc1]; decide) ?_
  obtain ⟨D2, eD2⟩ : ∃ D2, D2 = mup D1 ar 1 (nI (A1 + u)) := ⟨_, rfl⟩
  rw [← eD2]
  have ha2 : dyn D2 ar 20 := by rw [eD2]; exact dyn_mup ha1 (by omega) (Or.inr (by decide))
  have hc2 : cap D2 ar = 3 := by rw [eD2, cap_mup2 (Or.inr (by decide))]; exact hc1
  have f2 : ∀ q, q ≠ ar → D2 q = D q := fun q a => by rw [eD2]; exact (mupF a).trans (f1 q a)
  have e02 : D2 ar 0 = nI (A0 + w) := by rw [eD2]; exact (mupJ (by decide)).trans e01
  have e12 : D2 ar 1 = nI (A1 + u) := by rw [eD2]; exact mupE
  have e2 : D2 ar 2 = nI A2 := by rw [eD2]; exact (mupJ (by decide)).trans e2
  refine w_ald2 i113_431 ?_
  refine w_const i113_432 kc_2 ?_
  refine w_dup2 i113_433 rfl rfl ?_
  refine w_ialD i113_434 ha2 (by rw [hc2]; decide) (by rw [hc2]; decide) e2 ?_
  refine w_ild7 i113_435 ?_
  refine w_iltF i113_437 (nI_pos' (by omega)) ?_
  refine w_const i113_440 kc_1 ?_
  refine w_goto i113_441 g113_441 ?_
  refine w_iadd i113_445 (nI_add _ _) ?_
  refine w_iasD i113_446 ha2 (by rw [hc2]; decide) (by rw [hc2]; decide) ?_
  exact hk _ (fun q a => (mupF a).trans (f2 q a)) (dyn_mup ha2 (by omega) (Or.inr (by decide))) (by rw [cap_mup2 (Or.inr (by decide))]; exact hc2) ((mupJ (by decide)).trans e02) ((mupJ (by decide)).trans e12) mupE
set_option maxHeartbeats 1000000 in
theorem su_d1 {d : Nat} {D : Mm} {Q : Option Value → Mm → Prop} {n s w u q A0 A1 A2 ar sd : Nat} {V : Nat → Int32} {l3 l5 l6 l10 l11 : Int32} (R : Rel D n V) (hle : n ≤ 12) (hs : s < n) (ha : dyn D ar 20) (hc : cap D ar = 3) (hds : dv D sd) (hq : q < 100) (hv1 : vStubOf V s 1 = nI w) (hv4 : vStubOf V s 4 = nI u) (e0 : D ar 0 = nI A0) (e1 : D ar 1 = nI A1) (e2 : D ar 2 = nI A2) (hk : ∀ D3, (∀ q, q ≠ ar → D3 q = D q) → dyn D3 ar 20 → cap D3 ar = 3 → D3 ar 0 = nI (A0 + w) → D3 ar 1 = nI (A1 + u) → D3 ar 2 = nI (A2 + 0) → Wp (d + 10) 113 Q 447 [.ref 0, .int (nI n), .ref ar, .int l3, .int (nI s), .int l5, .int l6, .int (-1015), .ref sd, .int (nI 1), .int l10, .int l11] [] D3) : Wp (d + 10) 113 Q 405 [.ref 0, .int (nI n), .ref ar, .int l3, .int (nI s), .int l5, .int l6, .int (-1015), .ref sd, .int (nI 1), .int l10, .int l11] [] D := by
  have hga := dyn_ge ha
  have hda := ha.1
  refine w_ald2 i113_405 ?_
  refine w_const i113_406 kc_0 ?_
  refine w_dup2 i113_407 rfl rfl ?_
  refine w_ialD i113_408 ha (by rw [hc]; decide) (by rw [hc]; decide) e0 ?_
  refine w_ald0 i113_409 ?_
  refine w_ild4 i113_410 ?_
  refine w_const i113_412 kc_1 ?_
  refine w_VD3 i113_413 c58 (Or.inl rfl) (Or.inl ⟨by decide +kernel, by decide⟩) (by repeat (first | exact nvL_nil | refine nvL_cons (by first | exact True.intro | exact nvSt (by decide) | exact nvD hda | exact nvD hds | exact nvD (ha1).1 | exact nvD (dv_of1 hds) | exact nvD ha2.1 | exact nvK (by omega) (by omega)) ?_)) ⟨(by repeat (first | exact nvL_nil | refine nvL_cons (by first | exact True.intro | exact nvSt (by decide) | exact nvD hda | exact nvD hds | exact nvD (ha1).1 | exact nvD (dv_of1 hds) | exact nvD ha2.1 | exact nvK (by omega) (by omega)) ?_)), rfl, Nat.le_of_ble_eq_true rfl⟩ (Ex_go (K_stubOf_1 R hle hs) ?_)
  rw [hv1]
  refine w_iadd i113_416 (nI_add _ _) ?_
  refine w_iasD i113_417 ha (by rw [hc]; decide) (by rw [hc]; decide) ?_
  obtain ⟨D1, eD1⟩ : ∃ D1, D1 = mup D ar 0 (nI (A0 + w)) := ⟨_, rfl⟩
  rw [← eD1]
  have ha1 : dyn D1 ar 20 := by rw [eD1]; exact dyn_mup ha (by omega) (Or.inr (by decide))
  have hc1 : cap D1 ar = 3 := by rw [eD1, cap_mup2 (Or.inr (by decide))]; exact hc
  have f1 : ∀ q, q ≠ ar → D1 q = D q := fun q a => by rw [eD1]; exact mupF a
  have R1 : Rel D1 n V := R.fr (fun q a b => f1 q (by omega))
  have e01 : D1 ar 0 = nI (A0 + w) := by rw [eD1]; exact mupE
  have e1 : D1 ar 1 = nI A1 := by rw [eD1]; exact (mupJ (by decide)).trans e1
  have e2 : D1 ar 2 = nI A2 := by rw [eD1]; exact (mupJ (by decide)).trans e2
  have hda := ha1.1
  have hds : dv D1 sd := ⟨hds.1, by rw [eD1, nxt_mup (by omega)]; exact hds.2⟩
  refine w_ald2 i113_418 ?_
  refine w_const i113_419 kc_1 ?_
  refine w_dup2 i113_420 rfl rfl ?_
  refine w_ialD i113_421 ha1 (by rw [hc1]; decide) (by rw [hc1]; decide) e1 ?_
  refine w_ald0 i113_422 ?_
  refine w_ild4 i113_423 ?_
  refine w_const i113_425 kc_4 ?_
  refine w_VD3 i113_426 c58 (Or.inl rfl) (Or.inl ⟨by decide +kernel, by decide⟩) (by repeat (first | exact nvL_nil | refine nvL_cons (by first | exact True.intro | exact nvSt (by decide) | exact nvD hda | exact nvD hds | exact nvD (ha1).1 | exact nvD (dv_of1 hds) | exact nvD ha2.1 | exact nvK (by omega) (by omega)) ?_)) ⟨(by repeat (first | exact nvL_nil | refine nvL_cons (by first | exact True.intro | exact nvSt (by decide) | exact nvD hda | exact nvD hds | exact nvD (ha1).1 | exact nvD (dv_of1 hds) | exact nvD ha2.1 | exact nvK (by omega) (by omega)) ?_)), rfl, Nat.le_of_ble_eq_true rfl⟩ (Ex_go (K_stubOf_4 R1 hle hs) ?_)
  rw [hv4]
  refine w_iadd i113_429 (nI_add _ _) ?_
  refine w_iasD i113_430 ha1 (by rw [hc1]; decide) (by rw [hc1]; decide) ?_
  obtain ⟨D2, eD2⟩ : ∃ D2, D2 = mup D1 ar 1 (nI (A1 + u)) := ⟨_, rfl⟩
  rw [← eD2]
  have ha2 : dyn D2 ar 20 := by rw [eD2]; exact dyn_mup ha1 (by omega) (Or.inr (by decide))
  have hc2 : cap D2 ar = 3 := by rw [eD2, cap_mup2 (Or.inr (by decide))]; exact hc1
  have f2 : ∀ q, q ≠ ar → D2 q = D q := fun q a => by rw [eD2]; exact (mupF a).trans (f1 q a)
  have e02 : D2 ar 0 = nI (A0 + w) := by rw [eD2]; exact (mupJ (by decide)).trans e01
  have e12 : D2 ar 1 = nI (A1 + u) := by rw [eD2]; exact mupE
  have e2 : D2 ar 2 = nI A2 := by rw [eD2]; exact (mupJ (by decide)).trans e2
  refine w_ald2 i113_431 ?_
  refine w_const i113_432 kc_2 ?_
  refine w_dup2 i113_433 rfl rfl ?_
  refine w_ialD i113_434 ha2 (by rw [hc2]; decide) (by rw [hc2]; decide) e2 ?_
  refine w_ild7 i113_435 ?_
  refine w_iltT i113_437 g113_437 (by decide) ?_
  refine w_const i113_444 kc_0 ?_
  refine w_iadd i113_445 (nI_add _ _) ?_
  refine w_iasD i113_446 ha2 (by rw [hc2]; decide) (by rw [hc2]; decide) ?_
  exact hk _ (fun q a => (mupF a).trans (f2 q a)) (dyn_mup ha2 (by omega) (Or.inr (by decide))) (by rw [cap_mup2 (Or.inr (by decide))]; exact hc2) ((mupJ (by decide)).trans e02) ((mupJ (by decide)).trans e12) mupE
