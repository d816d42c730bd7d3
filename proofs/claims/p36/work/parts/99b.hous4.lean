/-! the law's houses: the sums over houses, their order, what is right -/
set_option maxHeartbeats 1000000 in
theorem hs_h {d : Nat} {D : Mm} {Q : Option Value → Mm → Prop} {h o : Nat} {l1 l2 l3 l4 l5 : Int32} {u8 u9 u10 u11 u12 u13 u14 u15 u16 : Value} (hh : h < 6) (hk : Wp (d + 10) 114 Q 31 [.ref 0, .int l1, .int l2, .int l3, .int l4, .int l5, .ref o, .int (nI h), u8, u9, u10, u11, u12, u13, u14, u15, u16] [] D) : Wp (d + 10) 114 Q 24 [.ref 0, .int l1, .int l2, .int l3, .int l4, .int l5, .ref o, .int (nI h), u8, u9, u10, u11, u12, u13, u14, u15, u16] [] D := by
  refine w_ild7 i114_24 ?_
  refine w_bip i114_26 kb_6 ?_
  refine w_cgeNF i114_28 (by omega) (by omega) hh ?_
  exact hk
set_option maxHeartbeats 1000000 in
theorem hs_hz {d : Nat} {D : Mm} {Q : Option Value → Mm → Prop} {o : Nat} {l1 l2 l3 l4 l5 : Int32} {u8 u9 u10 u11 u12 u13 u14 u15 u16 : Value} (hk : Wp (d + 10) 114 Q 592 [.ref 0, .int l1, .int l2, .int l3, .int l4, .int l5, .ref o, .int (nI 6), u8, u9, u10, u11, u12, u13, u14, u15, u16] [] D) : Wp (d + 10) 114 Q 24 [.ref 0, .int l1, .int l2, .int l3, .int l4, .int l5, .ref o, .int (nI 6), u8, u9, u10, u11, u12, u13, u14, u15, u16] [] D := by
  refine w_ild7 i114_24 ?_
  refine w_bip i114_26 kb_6 ?_
  refine w_cgeNT i114_28 g114_28 (by omega) (by omega) (Nat.le_refl _) ?_
  exact hk
set_option maxHeartbeats 1000000 in
theorem hs_s0 {d : Nat} {D : Mm} {Q : Option Value → Mm → Prop} {n h o a1 a2 a3 a4 W M X O C s p : Nat} {V : Nat → Int32} {l5 l13 : Int32} {u14 u15 u16 : Value} (n14 : nvQ u14) (n15 : nvQ u15) (n16 : nvQ u16) (R : Rel D n V) (hle : n ≤ 12) (hop : opV V) (hh : h < 6) (hdo : dv D o) (hs : V (6 + 4 * h + 2) = nI s) (hp : V (6 + 4 * h + 3) = nI p) (hO : V (6 + 4 * h + 0) = nI 0) (hk : Wp (d + 10) 114 Q 273 [.ref 0, .int (nI (a1 + 0)), .int (nI (a2 + s)), .int (nI (a3 + p)), .int (nI (a4 + C)), .int l5, .ref o, .int (nI h), .int (nI W), .int (nI M), .int (nI X), .int (nI O), .int (nI C), .int (nI 0), u14, u15, u16] [] D) : Wp (d + 10) 114 Q 215 [.ref 0, .int (nI a1), .int (nI a2), .int (nI a3), .int (nI a4), .int l5, .ref o, .int (nI h), .int (nI W), .int (nI M), .int (nI X), .int (nI O), .int (nI C), .int l13, u14, u15, u16] [] D := by
  refine w_ald0 i114_215 ?_
  refine w_ild7 i114_216 ?_
  refine w_const i114_218 kc_0 ?_
  refine w_VD3 i114_219 c67 (Or.inl rfl) (Or.inl ⟨by decide +kernel, by decide⟩) (by repeat (first | exact nvL_nil | refine nvL_cons (by first | exact True.intro | exact nvSt (by decide) | exact nvD hdo | exact n14.nv | exact n15.nv | exact n16.nv | exact nvK (by omega) (by omega)) ?_)) ⟨(by repeat (first | exact nvL_nil | refine nvL_cons (by first | exact True.intro | exact nvSt (by decide) | exact nvD hdo | exact n14.nv | exact n15.nv | exact n16.nv | exact nvK (by omega) (by omega)) ?_)), rfl, Nat.le_of_ble_eq_true rfl⟩ (Ex_go (K_houseOf_0 R hle hop hh) ?_)
  rw [hO]
  refine w_const i114_222 kc_1 ?_
  refine w_cneNT i114_223 g114_223 (by omega) (by omega) (by decide) ?_
  refine w_const i114_230 kc_0 ?_
  refine w_ist13 i114_231 ?_
  refine w_ild1 i114_233 ?_
  refine w_ild13 i114_234 ?_
  refine w_ieqNT i114_236 g114_236 (by omega) (by omega) ?_
  refine w_const i114_243 kc_0 ?_
  refine w_iadd i114_244 (nI_add _ _) ?_
  refine w_ist1 i114_245 ?_
  refine w_ild2 i114_246 ?_
  refine w_ald0 i114_247 ?_
  refine w_ild7 i114_248 ?_
  refine w_const i114_250 kc_2 ?_
  refine w_VD3 i114_251 c67 (Or.inl rfl) (Or.inl ⟨by decide +kernel, by decide⟩) (by repeat (first | exact nvL_nil | refine nvL_cons (by first | exact True.intro | exact nvSt (by decide) | exact nvD hdo | exact n14.nv | exact n15.nv | exact n16.nv | exact nvK (by omega) (by omega)) ?_)) ⟨(by repeat (first | exact nvL_nil | refine nvL_cons (by first | exact True.intro | exact nvSt (by decide) | exact nvD hdo | exact n14.nv | exact n15.nv | exact n16.nv | exact nvK (by omega) (by omega)) ?_)), rfl, Nat.le_of_ble_eq_true rfl⟩ (Ex_go (K_houseOf_2 R hle hop hh) ?_)
  rw [hs]
  refine w_iadd i114_254 (nI_add _ _) ?_
  refine w_ist2 i114_255 ?_
  refine w_ild3 i114_256 ?_
  refine w_ald0 i114_257 ?_
  refine w_ild7 i114_258 ?_
  refine w_const i114_260 kc_3 ?_
  refine w_VD3 i114_261 c67 (Or.inl rfl) (Or.inl ⟨by decide +kernel, by decide⟩) (by repeat (first | exact nvL_nil | refine nvL_cons (by first | exact True.intro | exact nvSt (by decide) | exact nvD hdo | exact n14.nv | exact n15.nv | exact n16.nv | exact nvK (by omega) (by omega)) ?_)) ⟨(by repeat (first | exact nvL_nil | refine nvL_cons (by first | exact True.intro | exact nvSt (by decide) | exact nvD hdo | exact n14.nv | exact n15.nv | exact n16.nv | exact nvK (by omega) (by omega)) ?_)), rfl, Nat.le_of_ble_eq_true rfl⟩ (Ex_go (K_houseOf_3 R hle hop hh) ?_)
  rw [hp]
  refine w_iadd i114_264 (nI_add _ _) ?_
  refine w_ist3 i114_265 ?_
  refine w_ild4 i114_266 ?_
  refine w_ild12 i114_268 ?_
  refine w_iadd i114_270 (nI_add _ _) ?_
  refine w_ist4 i114_271 ?_
  exact hk
set_option maxHeartbeats 1000000 in
theorem hs_s1 {d : Nat} {D : Mm} {Q : Option Value → Mm → Prop} {n h o a1 a2 a3 a4 W M X O C s p : Nat} {V : Nat → Int32} {l5 l13 : Int32} {u14 u15 u16 : Value} (n14 : nvQ u14) (n15 : nvQ u15) (n16 : nvQ u16) (R : Rel D n V) (hle : n ≤ 12) (hop : opV V) (hh : h < 6) (hdo : dv D o) (hs : V (6 + 4 * h + 2) = nI s) (hp : V (6 + 4 * h + 3) = nI p) (hO : V (6 + 4 * h + 0) = nI 1) (hk : Wp (d + 10) 114 Q 273 [.ref 0, .int (nI (a1 + 1)), .int (nI (a2 + s)), .int (nI (a3 + p)), .int (nI (a4 + C)), .int l5, .ref o, .int (nI h), .int (nI W), .int (nI M), .int (nI X), .int (nI O), .int (nI C), .int (nI 1), u14, u15, u16] [] D) : Wp (d + 10) 114 Q 215 [.ref 0, .int (nI a1), .int (nI a2), .int (nI a3), .int (nI a4), .int l5, .ref o, .int (nI h), .int (nI W), .int (nI M), .int (nI X), .int (nI O), .int (nI C), .int l13, u14, u15, u16] [] D := by
  refine w_ald0 i114_215 ?_
  refine w_ild7 i114_216 ?_
  refine w_const i114_218 kc_0 ?_
  refine w_VD3 i114_219 c67 (Or.inl rfl) (Or.inl ⟨by decide +kernel, by decide⟩) (by repeat (first | exact nvL_nil | refine nvL_cons (by first | exact True.intro | exact nvSt (by decide) | exact nvD hdo | exact n14.nv | exact n15.nv | exact n16.nv | exact nvK (by omega) (by omega)) ?_)) ⟨(by repeat (first | exact nvL_nil | refine nvL_cons (by first | exact True.intro | exact nvSt (by decide) | exact nvD hdo | exact n14.nv | exact n15.nv | exact n16.nv | exact nvK (by omega) (by omega)) ?_)), rfl, Nat.le_of_ble_eq_true rfl⟩ (Ex_go (K_houseOf_0 R hle hop hh) ?_)
  rw [hO]
  refine w_const i114_222 kc_1 ?_
  refine w_cneNF i114_223 (by omega) (by omega) rfl ?_
  refine w_const i114_226 kc_1 ?_
  refine w_goto i114_227 g114_227 ?_
  refine w_ist13 i114_231 ?_
  refine w_ild1 i114_233 ?_
  refine w_ild13 i114_234 ?_
  refine w_ieqNF i114_236 (by omega) (by omega) ?_
  refine w_const i114_239 kc_1 ?_
  refine w_goto i114_240 g114_240 ?_
  refine w_iadd i114_244 (nI_add _ _) ?_
  refine w_ist1 i114_245 ?_
  refine w_ild2 i114_246 ?_
  refine w_ald0 i114_247 ?_
  refine w_ild7 i114_248 ?_
  refine w_const i114_250 kc_2 ?_
  refine w_VD3 i114_251 c67 (Or.inl rfl) (Or.inl ⟨by decide +kernel, by decide⟩) (by repeat (first | exact nvL_nil | refine nvL_cons (by first | exact True.intro | exact nvSt (by decide) | exact nvD hdo | exact n14.nv | exact n15.nv | exact n16.nv | exact nvK (by omega) (by omega)) ?_)) ⟨(by repeat (first | exact nvL_nil | refine nvL_cons (by first | exact True.intro | exact nvSt (by decide) | exact nvD hdo | exact n14.nv | exact n15.nv | exact n16.nv | exact nvK (by omega) (by omega)) ?_)), rfl, Nat.le_of_ble_eq_true rfl⟩ (Ex_go (K_houseOf_2 R hle hop hh) ?_)
  rw [hs]
  refine w_iadd i114_254 (nI_add _ _) ?_
  refine w_ist2 i114_255 ?_
  refine w_ild3 i114_256 ?_
  refine w_ald0 i114_257 ?_
  refine w_ild7 i114_258 ?_
  refine w_const i114_260 kc_3 ?_
  refine w_VD3 i114_261 c67 (Or.inl rfl) (Or.inl ⟨by decide +kernel, by decide⟩) (by repeat (first | exact nvL_nil | refine nvL_cons (by first | exact True.intro | exact nvSt (by decide) | exact nvD hdo | exact n14.nv | exact n15.nv | exact n16.nv | exact nvK (by omega) (by omega)) ?_)) ⟨(by repeat (first | exact nvL_nil | refine nvL_cons (by first | exact True.intro | exact nvSt (by decide) | exact nvD hdo | exact n14.nv | exact n15.nv | exact n16.nv | exact nvK (by omega) (by omega)) ?_)), rfl, Nat.le_of_ble_eq_true rfl⟩ (Ex_go (K_houseOf_3 R hle hop hh) ?_)
  rw [hp]
  refine w_iadd i114_264 (nI_add _ _) ?_
  refine w_ist3 i114_265 ?_
  refine w_ild4 i114_266 ?_
  refine w_ild12 i114_268 ?_
  refine w_iadd i114_270 (nI_add _ _) ?_
  refine w_ist4 i114_271 ?_
  exact hk
set_option maxHeartbeats 1000000 in
theorem hs_d0 {d : Nat} {D : Mm} {Q : Option Value → Mm → Prop} {n h o r : Nat} {V : Nat → Int32} {l1 l2 l3 l4 l8 l9 l10 l11 l12 l13 : Int32} {u14 u15 u16 : Value} (n14 : nvQ u14) (n15 : nvQ u15) (n16 : nvQ u16) (R : Rel D n V) (hle : n ≤ 12) (hop : opV V) (hcl : clN n V) (hst : stN V) (hh : h < 6) (hdo : dv D o) (hr : frk (mRank n V) (nI h) 6 0 = nI r) (hk : Wp (d + 10) 114 Q 438 [.ref 0, .int l1, .int l2, .int l3, .int l4, .int (-1), .ref o, .int (nI h), .int l8, .int l9, .int l10, .int l11, .int l12, .int l13, .int (nI r), .int (nI 1), u16] [] D) : Wp (d + 10) 114 Q 377 [.ref 0, .int l1, .int l2, .int l3, .int l4, .int (-1), .ref o, .int (nI h), .int l8, .int l9, .int l10, .int l11, .int l12, .int l13, u14, u15, u16] [] D := by
  refine w_ald0 i114_377 ?_
  refine w_ild7 i114_378 ?_
  refine w_VD2 i114_380 c72 (Or.inl rfl) (Or.inl ⟨by decide +kernel, by decide⟩) (by repeat (first | exact nvL_nil | refine nvL_cons (by first | exact True.intro | exact nvSt (by decide) | exact nvD hdo | exact n14.nv | exact n15.nv | exact n16.nv | exact nvK (by omega) (by omega)) ?_)) ⟨(by repeat (first | exact nvL_nil | refine nvL_cons (by first | exact True.intro | exact nvSt (by decide) | exact nvD hdo | exact n14.nv | exact n15.nv | exact n16.nv | exact nvK (by omega) (by omega)) ?_)), rfl, Nat.le_of_ble_eq_true rfl⟩ (Ex_go (K_ranked R hle hop hcl hst) ?_)
  rw [hr]
  refine w_ist14 i114_383 ?_
  refine w_ild5 i114_385 ?_
  refine w_igeF i114_387 (by decide) ?_
  refine w_const i114_390 kc_1 ?_
  refine w_goto i114_391 g114_391 ?_
  refine w_ist15 i114_409 ?_
  refine w_ild15 i114_411 ?_
  refine w_ieqNF i114_413 (by omega) (by omega) ?_
  refine w_ild15 i114_416 ?_
  refine w_goto i114_418 g114_418 ?_
  refine w_ist15 i114_436 ?_
  exact hk
set_option maxHeartbeats 1000000 in
theorem hs_d1 {d : Nat} {D : Mm} {Q : Option Value → Mm → Prop} {n h o r r0 : Nat} {V : Nat → Int32} {l1 l2 l3 l4 l8 l9 l10 l11 l12 l13 : Int32} {u14 u15 u16 : Value} (n14 : nvQ u14) (n15 : nvQ u15) (n16 : nvQ u16) (R : Rel D n V) (hle : n ≤ 12) (hop : opV V) (hcl : clN n V) (hst : stN V) (hh : h < 6) (hdo : dv D o) (hr : frk (mRank n V) (nI h) 6 0 = nI r) (hr0 : r0 < 6) (hrn : r < 6) (hk : ∀ x, x = mBy n V r r0 → Wp (d + 10) 114 Q 438 [.ref 0, .int l1, .int l2, .int l3, .int l4, .int (nI r0), .ref o, .int (nI h), .int l8, .int l9, .int l10, .int l11, .int l12, .int l13, .int (nI r), .int x, u16] [] D) : Wp (d + 10) 114 Q 377 [.ref 0, .int l1, .int l2, .int l3, .int l4, .int (nI r0), .ref o, .int (nI h), .int l8, .int l9, .int l10, .int l11, .int l12, .int l13, u14, u15, u16] [] D := by
  refine w_ald0 i114_377 ?_
  refine w_ild7 i114_378 ?_
  refine w_VD2 i114_380 c72 (Or.inl rfl) (Or.inl ⟨by decide +kernel, by decide⟩) (by repeat (first | exact nvL_nil | refine nvL_cons (by first | exact True.intro | exact nvSt (by decide) | exact nvD hdo | exact n14.nv | exact n15.nv | exact n16.nv | exact nvK (by omega) (by omega)) ?_)) ⟨(by repeat (first | exact nvL_nil | refine nvL_cons (by first | exact True.intro | exact nvSt (by decide) | exact nvD hdo | exact n14.nv | exact n15.nv | exact n16.nv | exact nvK (by omega) (by omega)) ?_)), rfl, Nat.le_of_ble_eq_true rfl⟩ (Ex_go (K_ranked R hle hop hcl hst) ?_)
  rw [hr]
  refine w_ist14 i114_383 ?_
  refine w_ild5 i114_385 ?_
  refine w_igeNT i114_387 g114_387 (by omega) (Nat.zero_le _) ?_
  refine w_ald0 i114_394 ?_
  refine w_ild5 i114_395 ?_
  refine w_const i114_397 kc_4 ?_
  refine w_VD3 i114_398 c67 (Or.inl rfl) (Or.inl ⟨by decide +kernel, by decide⟩) (by repeat (first | exact nvL_nil | refine nvL_cons (by first | exact True.intro | exact nvSt (by decide) | exact nvD hdo | exact n14.nv | exact n15.nv | exact n16.nv | exact nvK (by omega) (by omega)) ?_)) ⟨(by repeat (first | exact nvL_nil | refine nvL_cons (by first | exact True.intro | exact nvSt (by decide) | exact nvD hdo | exact n14.nv | exact n15.nv | exact n16.nv | exact nvK (by omega) (by omega)) ?_)), rfl, Nat.le_of_ble_eq_true rfl⟩ (Ex_go (K_houseOf_4 R hle hop hr0) ?_)
  refine w_ald0 i114_401 ?_
  refine w_ild14 i114_402 ?_
  refine w_const i114_404 kc_4 ?_
  refine w_VD3 i114_405 c67 (Or.inl rfl) (Or.inl ⟨by decide +kernel, by decide⟩) (by repeat (first | exact nvL_nil | refine nvL_cons (by first | exact True.intro | exact nvSt (by decide) | exact nvD hdo | exact n14.nv | exact n15.nv | exact n16.nv | exact nvK (by omega) (by omega)) ?_)) ⟨(by repeat (first | exact nvL_nil | refine nvL_cons (by first | exact True.intro | exact nvSt (by decide) | exact nvD hdo | exact n14.nv | exact n15.nv | exact n16.nv | exact nvK (by omega) (by omega)) ?_)), rfl, Nat.le_of_ble_eq_true rfl⟩ (Ex_go (K_houseOf_4 R hle hop hrn) ?_)
  refine w_isub i114_408 rfl ?_
  refine w_ist15 i114_409 ?_
  refine w_ild15 i114_411 ?_
  refine w_ieq i114_413 g114_413  (fun h413 => ?_) (fun h413 => ?_)
  · skip
    refine w_ald0 i114_421 ?_
    refine w_ild5 i114_422 ?_
    refine w_const i114_424 kc_2 ?_
    refine w_VD3 i114_425 c67 (Or.inl rfl) (Or.inl ⟨by decide +kernel, by decide⟩) (by repeat (first | exact nvL_nil | refine nvL_cons (by first | exact True.intro | exact nvSt (by decide) | exact nvD hdo | exact n14.nv | exact n15.nv | exact n16.nv | exact nvK (by omega) (by omega)) ?_)) ⟨(by repeat (first | exact nvL_nil | refine nvL_cons (by first | exact True.intro | exact nvSt (by decide) | exact nvD hdo | exact n14.nv | exact n15.nv | exact n16.nv | exact nvK (by omega) (by omega)) ?_)), rfl, Nat.le_of_ble_eq_true rfl⟩ (Ex_go (K_houseOf_2 R hle hop hr0) ?_)
    refine w_ald0 i114_428 ?_
    refine w_ild14 i114_429 ?_
    refine w_const i114_431 kc_2 ?_
    refine w_VD3 i114_432 c67 (Or.inl rfl) (Or.inl ⟨by decide +kernel, by decide⟩) (by repeat (first | exact nvL_nil | refine nvL_cons (by first | exact True.intro | exact nvSt (by decide) | exact nvD hdo | exact n14.nv | exact n15.nv | exact n16.nv | exact nvK (by omega) (by omega)) ?_)) ⟨(by repeat (first | exact nvL_nil | refine nvL_cons (by first | exact True.intro | exact nvSt (by decide) | exact nvD hdo | exact n14.nv | exact n15.nv | exact n16.nv | exact nvK (by omega) (by omega)) ?_)), rfl, Nat.le_of_ble_eq_true rfl⟩ (Ex_go (K_houseOf_2 R hle hop hrn) ?_)
    refine w_isub i114_435 rfl ?_
    refine w_ist15 i114_436 ?_
    exact hk _ (by unfold mBy; first | rw [ifp_t (by assumption)] | rw [ifp_f (by assumption)])
  · skip
    refine w_ild15 i114_416 ?_
    refine w_goto i114_418 g114_418 ?_
    refine w_ist15 i114_436 ?_
    exact hk _ (by unfold mBy; first | rw [ifp_t (by assumption)] | rw [ifp_f (by assumption)])
set_option maxHeartbeats 1000000 in
theorem hs_e1 {d : Nat} {D : Mm} {Q : Option Value → Mm → Prop} {n h o r W M X O C : Nat} {V : Nat → Int32} {l1 l2 l3 l4 l5 x : Int32} {u16 : Value} (n16 : nvQ u16) (R : Rel D n V) (hle : n ≤ 12) (hop : opV V) (hh : h < 6) (hdo : dv D o) (hrn : r < 6) (c4 : mClaim n V h = nI C) (c5 : mCount n V (nI h) = nI M) (c6 : mWritsH n V (nI h) = nI X) (c7 : mOwes n V (nI h) = nI O) (cw : mTray n V (nI h) = nI W) (cb : wbo n V (nI h) = nI W) (hW : W ≤ 60) (hX : X ≤ 2) (hx : 0 ≤ x) (hx0 : x = 0 → l5 ≤ nI r) (hk : Wp (d + 10) 114 Q 24 [.ref 0, .int l1, .int l2, .int l3, .int l4, .int (nI r), .ref o, .int (nI (h + 1)), .int (nI W), .int (nI M), .int (nI X), .int (nI O), .int (nI C), .int (nI 1), .int (nI r), .int x, .int (nI 1)] [] D) : Wp (d + 10) 114 Q 438 [.ref 0, .int l1, .int l2, .int l3, .int l4, .int l5, .ref o, .int (nI h), .int (nI W), .int (nI M), .int (nI X), .int (nI O), .int (nI C), .int (nI 1), .int (nI r), .int x, u16] [] D := by
  refine w_ald0 i114_438 ?_
  refine w_ild7 i114_439 ?_
  refine w_const i114_441 kc_4 ?_
  refine w_VD3 i114_442 c67 (Or.inl rfl) (Or.inl ⟨by decide +kernel, by decide⟩) (by repeat (first | exact nvL_nil | refine nvL_cons (by first | exact True.intro | exact nvSt (by decide) | exact nvD hdo | exact n16.nv | exact nvK (by omega) (by omega)) ?_)) ⟨(by repeat (first | exact nvL_nil | refine nvL_cons (by first | exact True.intro | exact nvSt (by decide) | exact nvD hdo | exact n16.nv | exact nvK (by omega) (by omega)) ?_)), rfl, Nat.le_of_ble_eq_true rfl⟩ (Ex_go (K_houseOf_4 R hle hop hh) ?_)
  rw [c4]
  refine w_ild12 i114_445 ?_
  refine w_cneF i114_447  rfl ?_
  refine w_ald0 i114_450 ?_
  refine w_ild7 i114_451 ?_
  refine w_const i114_453 kc_5 ?_
  refine w_VD3 i114_454 c67 (Or.inl rfl) (Or.inl ⟨by decide +kernel, by decide⟩) (by repeat (first | exact nvL_nil | refine nvL_cons (by first | exact True.intro | exact nvSt (by decide) | exact nvD hdo | exact n16.nv | exact nvK (by omega) (by omega)) ?_)) ⟨(by repeat (first | exact nvL_nil | refine nvL_cons (by first | exact True.intro | exact nvSt (by decide) | exact nvD hdo | exact n16.nv | exact nvK (by omega) (by omega)) ?_)), rfl, Nat.le_of_ble_eq_true rfl⟩ (Ex_go (K_houseOf_5 R hle hop hh) ?_)
  rw [c5]
  refine w_ild9 i114_457 ?_
  refine w_cneF i114_459  rfl ?_
  refine w_ald0 i114_462 ?_
  refine w_ild7 i114_463 ?_
  refine w_bip i114_465 kb_6 ?_
  refine w_VD3 i114_467 c67 (Or.inl rfl) (Or.inl ⟨by decide +kernel, by decide⟩) (by repeat (first | exact nvL_nil | refine nvL_cons (by first | exact True.intro | exact nvSt (by decide) | exact nvD hdo | exact n16.nv | exact nvK (by omega) (by omega)) ?_)) ⟨(by repeat (first | exact nvL_nil | refine nvL_cons (by first | exact True.intro | exact nvSt (by decide) | exact nvD hdo | exact n16.nv | exact nvK (by omega) (by omega)) ?_)), rfl, Nat.le_of_ble_eq_true rfl⟩ (Ex_go (K_houseOf_6 R hle hop hh) ?_)
  rw [c6]
  refine w_ild10 i114_470 ?_
  refine w_cneF i114_472  rfl ?_
  refine w_ald0 i114_475 ?_
  refine w_ild7 i114_476 ?_
  refine w_bip i114_478 kb_7 ?_
  refine w_VD3 i114_480 c67 (Or.inl rfl) (Or.inl ⟨by decide +kernel, by decide⟩) (by repeat (first | exact nvL_nil | refine nvL_cons (by first | exact True.intro | exact nvSt (by decide) | exact nvD hdo | exact n16.nv | exact nvK (by omega) (by omega)) ?_)) ⟨(by repeat (first | exact nvL_nil | refine nvL_cons (by first | exact True.intro | exact nvSt (by decide) | exact nvD hdo | exact n16.nv | exact nvK (by omega) (by omega)) ?_)), rfl, Nat.le_of_ble_eq_true rfl⟩ (Ex_go (K_houseOf_7 R hle hop hh) ?_)
  rw [c7]
  refine w_ild11 i114_483 ?_
  refine w_cneF i114_485  rfl ?_
  refine w_ald0 i114_488 ?_
  refine w_ild7 i114_489 ?_
  refine w_VD2 i114_491 c70 (Or.inl rfl) (Or.inl ⟨by decide +kernel, by decide⟩) (by repeat (first | exact nvL_nil | refine nvL_cons (by first | exact True.intro | exact nvSt (by decide) | exact nvD hdo | exact n16.nv | exact nvK (by omega) (by omega)) ?_)) ⟨(by repeat (first | exact nvL_nil | refine nvL_cons (by first | exact True.intro | exact nvSt (by decide) | exact nvD hdo | exact n16.nv | exact nvK (by omega) (by omega)) ?_)), rfl, Nat.le_of_ble_eq_true rfl⟩ (Ex_go (K_weight R hle hh) ?_)
  rw [cw]
  refine w_ild8 i114_494 ?_
  refine w_cneF i114_496  rfl ?_
  refine w_ald0 i114_499 ?_
  refine w_ild7 i114_500 ?_
  refine w_VD2 i114_502 c71 (Or.inl rfl) (Or.inl ⟨by decide +kernel, by decide⟩) (by repeat (first | exact nvL_nil | refine nvL_cons (by first | exact True.intro | exact nvSt (by decide) | exact nvD hdo | exact n16.nv | exact nvK (by omega) (by omega)) ?_)) ⟨(by repeat (first | exact nvL_nil | refine nvL_cons (by first | exact True.intro | exact nvSt (by decide) | exact nvD hdo | exact n16.nv | exact nvK (by omega) (by omega)) ?_)), rfl, Nat.le_of_ble_eq_true rfl⟩ (Ex_go (K_weightA R hle hh) ?_)
  rw [cb]
  refine w_ild8 i114_505 ?_
  refine w_cneF i114_507  rfl ?_
  refine w_ild8 i114_510 ?_
  refine w_bip i114_512 kb_60 ?_
  refine w_cgtNF i114_514 (by omega) (by omega) hW ?_
  refine w_ild10 i114_517 ?_
  refine w_const i114_519 kc_2 ?_
  refine w_cgtNF i114_520 (by omega) (by omega) hX ?_
  refine w_const i114_523 kc_1 ?_
  refine w_goto i114_524 g114_524 ?_
  refine w_ist16 i114_528 ?_
  refine w_ild16 i114_530 ?_
  refine w_ieqNF i114_532 (by omega) (by omega) ?_
  refine w_ild15 i114_535 ?_
  refine w_iltF i114_537  hx ?_
  refine w_ild15 i114_540 ?_
  refine w_ine i114_542 g114_542  (fun h542 => ?_) (fun h542 => ?_)
  · skip
    refine w_ild13 i114_552 ?_
    refine w_ineNT i114_554 g114_554 (by omega) (by omega) ?_
    refine w_ild14 i114_582 ?_
    refine w_ist5 i114_584 ?_
    refine w_inc7 i114_586 (inc1 _) ?_
    refine w_goto i114_589 g114_589 ?_
    exact hk
  · skip
    refine w_ild14 i114_545 ?_
    refine w_ild5 i114_547 ?_
    refine w_cltF i114_549  (hx0 (by assumption)) ?_
    refine w_ild13 i114_552 ?_
    refine w_ineNT i114_554 g114_554 (by omega) (by omega) ?_
    refine w_ild14 i114_582 ?_
    refine w_ist5 i114_584 ?_
    refine w_inc7 i114_586 (inc1 _) ?_
    refine w_goto i114_589 g114_589 ?_
    exact hk
set_option maxHeartbeats 1000000 in
theorem hs_e0 {d : Nat} {D : Mm} {Q : Option Value → Mm → Prop} {n h o r W M X O C : Nat} {V : Nat → Int32} {l1 l2 l3 l4 l5 x : Int32} {u16 : Value} (n16 : nvQ u16) (R : Rel D n V) (hle : n ≤ 12) (hop : opV V) (hh : h < 6) (hdo : dv D o) (hrn : r < 6) (c4 : mClaim n V h = nI C) (c5 : mCount n V (nI h) = nI M) (c6 : mWritsH n V (nI h) = nI X) (c7 : mOwes n V (nI h) = nI O) (cw : mTray n V (nI h) = nI W) (cb : wbo n V (nI h) = nI W) (hW : W ≤ 60) (hX : X ≤ 2) (hx : 0 ≤ x) (hx0 : x = 0 → l5 ≤ nI r) (hM : M = 0) (e2 : V (6 + 4 * h + 2) = nI 0) (e3 : V (6 + 4 * h + 3) = nI 0) (hk : Wp (d + 10) 114 Q 24 [.ref 0, .int l1, .int l2, .int l3, .int l4, .int (nI r), .ref o, .int (nI (h + 1)), .int (nI W), .int (nI M), .int (nI X), .int (nI O), .int (nI C), .int (nI 0), .int (nI r), .int x, .int (nI 1)] [] D) : Wp (d + 10) 114 Q 438 [.ref 0, .int l1, .int l2, .int l3, .int l4, .int l5, .ref o, .int (nI h), .int (nI W), .int (nI M), .int (nI X), .int (nI O), .int (nI C), .int (nI 0), .int (nI r), .int x, u16] [] D := by
  refine w_ald0 i114_438 ?_
  refine w_ild7 i114_439 ?_
  refine w_const i114_441 kc_4 ?_
  refine w_VD3 i114_442 c67 (Or.inl rfl) (Or.inl ⟨by decide +kernel, by decide⟩) (by repeat (first | exact nvL_nil | refine nvL_cons (by first | exact True.intro | exact nvSt (by decide) | exact nvD hdo | exact n16.nv | exact nvK (by omega) (by omega)) ?_)) ⟨(by repeat (first | exact nvL_nil | refine nvL_cons (by first | exact True.intro | exact nvSt (by decide) | exact nvD hdo | exact n16.nv | exact nvK (by omega) (by omega)) ?_)), rfl, Nat.le_of_ble_eq_true rfl⟩ (Ex_go (K_houseOf_4 R hle hop hh) ?_)
  rw [c4]
  refine w_ild12 i114_445 ?_
  refine w_cneF i114_447  rfl ?_
  refine w_ald0 i114_450 ?_
  refine w_ild7 i114_451 ?_
  refine w_const i114_453 kc_5 ?_
  refine w_VD3 i114_454 c67 (Or.inl rfl) (Or.inl ⟨by decide +kernel, by decide⟩) (by repeat (first | exact nvL_nil | refine nvL_cons (by first | exact True.intro | exact nvSt (by decide) | exact nvD hdo | exact n16.nv | exact nvK (by omega) (by omega)) ?_)) ⟨(by repeat (first | exact nvL_nil | refine nvL_cons (by first | exact True.intro | exact nvSt (by decide) | exact nvD hdo | exact n16.nv | exact nvK (by omega) (by omega)) ?_)), rfl, Nat.le_of_ble_eq_true rfl⟩ (Ex_go (K_houseOf_5 R hle hop hh) ?_)
  rw [c5]
  refine w_ild9 i114_457 ?_
  refine w_cneF i114_459  rfl ?_
  refine w_ald0 i114_462 ?_
  refine w_ild7 i114_463 ?_
  refine w_bip i114_465 kb_6 ?_
  refine w_VD3 i114_467 c67 (Or.inl rfl) (Or.inl ⟨by decide +kernel, by decide⟩) (by repeat (first | exact nvL_nil | refine nvL_cons (by first | exact True.intro | exact nvSt (by decide) | exact nvD hdo | exact n16.nv | exact nvK (by omega) (by omega)) ?_)) ⟨(by repeat (first | exact nvL_nil | refine nvL_cons (by first | exact True.intro | exact nvSt (by decide) | exact nvD hdo | exact n16.nv | exact nvK (by omega) (by omega)) ?_)), rfl, Nat.le_of_ble_eq_true rfl⟩ (Ex_go (K_houseOf_6 R hle hop hh) ?_)
  rw [c6]
  refine w_ild10 i114_470 ?_
  refine w_cneF i114_472  rfl ?_
  refine w_ald0 i114_475 ?_
  refine w_ild7 i114_476 ?_
  refine w_bip i114_478 kb_7 ?_
  refine w_VD3 i114_480 c67 (Or.inl rfl) (Or.inl ⟨by decide +kernel, by decide⟩) (by repeat (first | exact nvL_nil | refine nvL_cons (by first | exact True.intro | exact nvSt (by decide) | exact nvD hdo | exact n16.nv | exact nvK (by omega) (by omega)) ?_)) ⟨(by repeat (first | exact nvL_nil | refine nvL_cons (by first | exact True.intro | exact nvSt (by decide) | exact nvD hdo | exact n16.nv | exact nvK (by omega) (by omega)) ?_)), rfl, Nat.le_of_ble_eq_true rfl⟩ (Ex_go (K_houseOf_7 R hle hop hh) ?_)
  rw [c7]
  refine w_ild11 i114_483 ?_
  refine w_cneF i114_485  rfl ?_
  refine w_ald0 i114_488 ?_
  refine w_ild7 i114_489 ?_
  refine w_VD2 i114_491 c70 (Or.inl rfl) (Or.inl ⟨by decide +kernel, by decide⟩) (by repeat (first | exact nvL_nil | refine nvL_cons (by first | exact True.intro | exact nvSt (by decide) | exact nvD hdo | exact n16.nv | exact nvK (by omega) (by omega)) ?_)) ⟨(by repeat (first | exact nvL_nil | refine nvL_cons (by first | exact True.intro | exact nvSt (by decide) | exact nvD hdo | exact n16.nv | exact nvK (by omega) (by omega)) ?_)), rfl, Nat.le_of_ble_eq_true rfl⟩ (Ex_go (K_weight R hle hh) ?_)
  rw [cw]
  refine w_ild8 i114_494 ?_
  refine w_cneF i114_496  rfl ?_
  refine w_ald0 i114_499 ?_
  refine w_ild7 i114_500 ?_
  refine w_VD2 i114_502 c71 (Or.inl rfl) (Or.inl ⟨by decide +kernel, by decide⟩) (by repeat (first | exact nvL_nil | refine nvL_cons (by first | exact True.intro | exact nvSt (by decide) | exact nvD hdo | exact n16.nv | exact nvK (by omega) (by omega)) ?_)) ⟨(by repeat (first | exact nvL_nil | refine nvL_cons (by first | exact True.intro | exact nvSt (by decide) | exact nvD hdo | exact n16.nv | exact nvK (by omega) (by omega)) ?_)), rfl, Nat.le_of_ble_eq_true rfl⟩ (Ex_go (K_weightA R hle hh) ?_)
  rw [cb]
  refine w_ild8 i114_505 ?_
  refine w_cneF i114_507  rfl ?_
  refine w_ild8 i114_510 ?_
  refine w_bip i114_512 kb_60 ?_
  refine w_cgtNF i114_514 (by omega) (by omega) hW ?_
  refine w_ild10 i114_517 ?_
  refine w_const i114_519 kc_2 ?_
  refine w_cgtNF i114_520 (by omega) (by omega) hX ?_
  refine w_const i114_523 kc_1 ?_
  refine w_goto i114_524 g114_524 ?_
  refine w_ist16 i114_528 ?_
  refine w_ild16 i114_530 ?_
  refine w_ieqNF i114_532 (by omega) (by omega) ?_
  refine w_ild15 i114_535 ?_
  refine w_iltF i114_537  hx ?_
  refine w_ild15 i114_540 ?_
  refine w_ine i114_542 g114_542  (fun h542 => ?_) (fun h542 => ?_)
  · skip
    refine w_ild13 i114_552 ?_
    refine w_ineNF i114_554 (by omega) (by omega) ?_
    refine w_ild9 i114_557 ?_
    refine w_igtNF i114_559 (by omega) (by omega) ?_
    refine w_ald0 i114_562 ?_
    refine w_ild7 i114_563 ?_
    refine w_const i114_565 kc_2 ?_
    refine w_VD3 i114_566 c67 (Or.inl rfl) (Or.inl ⟨by decide +kernel, by decide⟩) (by repeat (first | exact nvL_nil | refine nvL_cons (by first | exact True.intro | exact nvSt (by decide) | exact nvD hdo | exact n16.nv | exact nvK (by omega) (by omega)) ?_)) ⟨(by repeat (first | exact nvL_nil | refine nvL_cons (by first | exact True.intro | exact nvSt (by decide) | exact nvD hdo | exact n16.nv | exact nvK (by omega) (by omega)) ?_)), rfl, Nat.le_of_ble_eq_true rfl⟩ (Ex_go (K_houseOf_2 R hle hop hh) ?_)
    rw [e2]
    refine w_ald0 i114_569 ?_
    refine w_ild7 i114_570 ?_
    refine w_const i114_572 kc_3 ?_
    refine w_VD3 i114_573 c67 (Or.inl rfl) (Or.inl ⟨by decide +kernel, by decide⟩) (by repeat (first | exact nvL_nil | refine nvL_cons (by first | exact True.intro | exact nvSt (by decide) | exact nvD hdo | exact n16.nv | exact nvK (by omega) (by omega)) ?_)) ⟨(by repeat (first | exact nvL_nil | refine nvL_cons (by first | exact True.intro | exact nvSt (by decide) | exact nvD hdo | exact n16.nv | exact nvK (by omega) (by omega)) ?_)), rfl, Nat.le_of_ble_eq_true rfl⟩ (Ex_go (K_houseOf_3 R hle hop hh) ?_)
    rw [e3]
    refine w_iadd i114_576 (nI_add _ _) ?_
    refine w_ileNT i114_577 g114_577 (by omega) (by omega) ?_
    refine w_ild14 i114_582 ?_
    refine w_ist5 i114_584 ?_
    refine w_inc7 i114_586 (inc1 _) ?_
    refine w_goto i114_589 g114_589 ?_
    exact hk
  · skip
    refine w_ild14 i114_545 ?_
    refine w_ild5 i114_547 ?_
    refine w_cltF i114_549  (hx0 (by assumption)) ?_
    refine w_ild13 i114_552 ?_
    refine w_ineNF i114_554 (by omega) (by omega) ?_
    refine w_ild9 i114_557 ?_
    refine w_igtNF i114_559 (by omega) (by omega) ?_
    refine w_ald0 i114_562 ?_
    refine w_ild7 i114_563 ?_
    refine w_const i114_565 kc_2 ?_
    refine w_VD3 i114_566 c67 (Or.inl rfl) (Or.inl ⟨by decide +kernel, by decide⟩) (by repeat (first | exact nvL_nil | refine nvL_cons (by first | exact True.intro | exact nvSt (by decide) | exact nvD hdo | exact n16.nv | exact nvK (by omega) (by omega)) ?_)) ⟨(by repeat (first | exact nvL_nil | refine nvL_cons (by first | exact True.intro | exact nvSt (by decide) | exact nvD hdo | exact n16.nv | exact nvK (by omega) (by omega)) ?_)), rfl, Nat.le_of_ble_eq_true rfl⟩ (Ex_go (K_houseOf_2 R hle hop hh) ?_)
    rw [e2]
    refine w_ald0 i114_569 ?_
    refine w_ild7 i114_570 ?_
    refine w_const i114_572 kc_3 ?_
    refine w_VD3 i114_573 c67 (Or.inl rfl) (Or.inl ⟨by decide +kernel, by decide⟩) (by repeat (first | exact nvL_nil | refine nvL_cons (by first | exact True.intro | exact nvSt (by decide) | exact nvD hdo | exact n16.nv | exact nvK (by omega) (by omega)) ?_)) ⟨(by repeat (first | exact nvL_nil | refine nvL_cons (by first | exact True.intro | exact nvSt (by decide) | exact nvD hdo | exact n16.nv | exact nvK (by omega) (by omega)) ?_)), rfl, Nat.le_of_ble_eq_true rfl⟩ (Ex_go (K_houseOf_3 R hle hop hh) ?_)
    rw [e3]
    refine w_iadd i114_576 (nI_add _ _) ?_
    refine w_ileNT i114_577 g114_577 (by omega) (by omega) ?_
    refine w_ild14 i114_582 ?_
    refine w_ist5 i114_584 ?_
    refine w_inc7 i114_586 (inc1 _) ?_
    refine w_goto i114_589 g114_589 ?_
    exact hk
