/-! the law's stubs: that each is fine -/
set_option maxHeartbeats 1000000 in
theorem su_f00 {d : Nat} {D : Mm} {Q : Option Value → Mm → Prop} {n B s o5 w u z t q ar sd : Nat} {V : Nat → Int32} {l3 : Int32} {l9 l10 l11 : Value} (n9 : nvV D l9) (n10 : nvV D l10) (n11 : nvV D l11) (R : Rel D n V) (hle : n ≤ 12) (ho : opV V) (hs : s < n) (hda : dv D ar) (hds : dv D sd) (h5 : o5 < 6) (hO : V (6 + 4 * o5 + 0) = nI 1) (hv4 : vStubOf V s 4 = nI u) (hv5 : vStubOf V s 5 = nI z) (hv1 : vStubOf V s 1 = nI w) (hw0 : 0 < w) (hw : w < 100) (hu : u < 100) (hz : z < 100) (hu0 : 0 < u) (htt : t < 6) (htn : t ≠ o5) (hOt : V (6 + 4 * t + 0) = nI 1) (hz0 : 0 < z) (hqq : q < 6) (hqn : q ≠ o5) (hOq : V (6 + 4 * q + 0) = nI 1) (hk : Wp (d + 10) 113 Q 332 [.ref 0, .int (nI n), .ref ar, .int l3, .int (nI s), .int (nI o5), .int (nI t), .int (nI q), .ref sd, .int (nI 1), l10, l11] [] D) : Wp (d + 10) 113 Q 192 [.ref 0, .int (nI n), .ref ar, .int l3, .int (nI s), .int (nI o5), .int (nI t), .int (nI q), .ref sd, l9, l10, l11] [] D := by
  refine w_ald0 i113_192 ?_
  refine w_ild5 i113_193 ?_
  refine w_const i113_195 kc_0 ?_
  refine w_VD3 i113_196 c67 (Or.inl rfl) (Or.inl ⟨by decide +kernel, by decide⟩) (by repeat (first | exact nvL_nil | refine nvL_cons (by first | exact True.intro | exact nvSt (by decide) | exact nvD hda | exact nvD hds | exact n9 | exact n10 | exact n11 | exact nvK (by omega) (by omega)) ?_)) ⟨(by repeat (first | exact nvL_nil | refine nvL_cons (by first | exact True.intro | exact nvSt (by decide) | exact nvD hda | exact nvD hds | exact n9 | exact n10 | exact n11 | exact nvK (by omega) (by omega)) ?_)), rfl, Nat.le_of_ble_eq_true rfl⟩ (Ex_go (K_houseOf_0 R hle ho h5) ?_)
  rw [hO]
  refine w_const i113_199 kc_1 ?_
  refine w_cneNF i113_200 (by omega) (by omega) rfl ?_
  refine w_ild6 i113_203 ?_
  refine w_ild5 i113_205 ?_
  refine w_ceqF i113_207 (fun e => by have := nI_inj (by omega) (by omega) e; omega) ?_
  refine w_ild7 i113_210 ?_
  refine w_ild5 i113_212 ?_
  refine w_ceqF i113_214 (fun e => by have := nI_inj (by omega) (by omega) e; omega) ?_
  refine w_ild6 i113_217 ?_
  refine w_iltF i113_219 (nI_pos' (by omega)) ?_
  refine w_const i113_222 kc_1 ?_
  refine w_goto i113_223 g113_223 ?_
  refine w_ald0 i113_227 ?_
  refine w_ild4 i113_228 ?_
  refine w_const i113_230 kc_4 ?_
  refine w_VD3 i113_231 c58 (Or.inl rfl) (Or.inl ⟨by decide +kernel, by decide⟩) (by repeat (first | exact nvL_nil | refine nvL_cons (by first | exact True.intro | exact nvSt (by decide) | exact nvD hda | exact nvD hds | exact n9 | exact n10 | exact n11 | exact nvK (by omega) (by omega)) ?_)) ⟨(by repeat (first | exact nvL_nil | refine nvL_cons (by first | exact True.intro | exact nvSt (by decide) | exact nvD hda | exact nvD hds | exact n9 | exact n10 | exact n11 | exact nvK (by omega) (by omega)) ?_)), rfl, Nat.le_of_ble_eq_true rfl⟩ (Ex_go (K_stubOf_4 R hle hs) ?_)
  rw [hv4]
  refine w_ileNF i113_234 (by omega) (by omega) ?_
  refine w_const i113_237 kc_1 ?_
  refine w_goto i113_238 g113_238 ?_
  refine w_cneNF i113_242 (by omega) (by omega) (by omega) ?_
  refine w_ild7 i113_245 ?_
  refine w_iltF i113_247 (nI_pos' (by omega)) ?_
  refine w_const i113_250 kc_1 ?_
  refine w_goto i113_251 g113_251 ?_
  refine w_ald0 i113_255 ?_
  refine w_ild4 i113_256 ?_
  refine w_const i113_258 kc_5 ?_
  refine w_VD3 i113_259 c58 (Or.inl rfl) (Or.inl ⟨by decide +kernel, by decide⟩) (by repeat (first | exact nvL_nil | refine nvL_cons (by first | exact True.intro | exact nvSt (by decide) | exact nvD hda | exact nvD hds | exact n9 | exact n10 | exact n11 | exact nvK (by omega) (by omega)) ?_)) ⟨(by repeat (first | exact nvL_nil | refine nvL_cons (by first | exact True.intro | exact nvSt (by decide) | exact nvD hda | exact nvD hds | exact n9 | exact n10 | exact n11 | exact nvK (by omega) (by omega)) ?_)), rfl, Nat.le_of_ble_eq_true rfl⟩ (Ex_go (K_stubOf_5 R hle hs) ?_)
  rw [hv5]
  refine w_ileNF i113_262 (by omega) (by omega) ?_
  refine w_const i113_265 kc_1 ?_
  refine w_goto i113_266 g113_266 ?_
  refine w_cneNF i113_270 (by omega) (by omega) (by omega) ?_
  refine w_ald0 i113_273 ?_
  refine w_ild4 i113_274 ?_
  refine w_const i113_276 kc_1 ?_
  refine w_VD3 i113_277 c58 (Or.inl rfl) (Or.inl ⟨by decide +kernel, by decide⟩) (by repeat (first | exact nvL_nil | refine nvL_cons (by first | exact True.intro | exact nvSt (by decide) | exact nvD hda | exact nvD hds | exact n9 | exact n10 | exact n11 | exact nvK (by omega) (by omega)) ?_)) ⟨(by repeat (first | exact nvL_nil | refine nvL_cons (by first | exact True.intro | exact nvSt (by decide) | exact nvD hda | exact nvD hds | exact n9 | exact n10 | exact n11 | exact nvK (by omega) (by omega)) ?_)), rfl, Nat.le_of_ble_eq_true rfl⟩ (Ex_go (K_stubOf_1 R hle hs) ?_)
  rw [hv1]
  refine w_ileNF i113_280 (by omega) (by omega) ?_
  refine w_const i113_283 kc_1 ?_
  refine w_goto i113_284 g113_284 ?_
  refine w_ist9 i113_288 ?_
  refine w_ild9 i113_290 ?_
  refine w_ild6 i113_292 ?_
  refine w_iltF i113_294 (nI_pos' (by omega)) ?_
  refine w_ald0 i113_297 ?_
  refine w_ild6 i113_298 ?_
  refine w_const i113_300 kc_0 ?_
  refine w_VD3 i113_301 c67 (Or.inl rfl) (Or.inl ⟨by decide +kernel, by decide⟩) (by repeat (first | exact nvL_nil | refine nvL_cons (by first | exact True.intro | exact nvSt (by decide) | exact nvD hda | exact nvD hds | exact n9 | exact n10 | exact n11 | exact nvK (by omega) (by omega)) ?_)) ⟨(by repeat (first | exact nvL_nil | refine nvL_cons (by first | exact True.intro | exact nvSt (by decide) | exact nvD hda | exact nvD hds | exact n9 | exact n10 | exact n11 | exact nvK (by omega) (by omega)) ?_)), rfl, Nat.le_of_ble_eq_true rfl⟩ (Ex_go (K_houseOf_0 R hle ho htt) ?_)
  rw [hOt]
  refine w_const i113_304 kc_1 ?_
  refine w_cneNF i113_305 (by omega) (by omega) rfl ?_
  refine w_ild7 i113_308 ?_
  refine w_iltF i113_310 (nI_pos' (by omega)) ?_
  refine w_ald0 i113_313 ?_
  refine w_ild7 i113_314 ?_
  refine w_const i113_316 kc_0 ?_
  refine w_VD3 i113_317 c67 (Or.inl rfl) (Or.inl ⟨by decide +kernel, by decide⟩) (by repeat (first | exact nvL_nil | refine nvL_cons (by first | exact True.intro | exact nvSt (by decide) | exact nvD hda | exact nvD hds | exact n9 | exact n10 | exact n11 | exact nvK (by omega) (by omega)) ?_)) ⟨(by repeat (first | exact nvL_nil | refine nvL_cons (by first | exact True.intro | exact nvSt (by decide) | exact nvD hda | exact nvD hds | exact n9 | exact n10 | exact n11 | exact nvK (by omega) (by omega)) ?_)), rfl, Nat.le_of_ble_eq_true rfl⟩ (Ex_go (K_houseOf_0 R hle ho hqq) ?_)
  rw [hOq]
  refine w_const i113_320 kc_1 ?_
  refine w_cneNF i113_321 (by omega) (by omega) rfl ?_
  refine w_const i113_324 kc_1 ?_
  refine w_goto i113_325 g113_325 ?_
  refine w_iand i113_329 (v := nI 1) (by decide) ?_
  refine w_ist9 i113_330 ?_
  exact hk
set_option maxHeartbeats 1000000 in
theorem su_f01 {d : Nat} {D : Mm} {Q : Option Value → Mm → Prop} {n B s o5 w u z t q ar sd : Nat} {V : Nat → Int32} {l3 : Int32} {l9 l10 l11 : Value} (n9 : nvV D l9) (n10 : nvV D l10) (n11 : nvV D l11) (R : Rel D n V) (hle : n ≤ 12) (ho : opV V) (hs : s < n) (hda : dv D ar) (hds : dv D sd) (h5 : o5 < 6) (hO : V (6 + 4 * o5 + 0) = nI 1) (hv4 : vStubOf V s 4 = nI u) (hv5 : vStubOf V s 5 = nI z) (hv1 : vStubOf V s 1 = nI w) (hw0 : 0 < w) (hw : w < 100) (hu : u < 100) (hz : z < 100) (hu0 : 0 < u) (htt : t < 6) (htn : t ≠ o5) (hOt : V (6 + 4 * t + 0) = nI 1) (hz0 : z = 0) (hk : Wp (d + 10) 113 Q 332 [.ref 0, .int (nI n), .ref ar, .int l3, .int (nI s), .int (nI o5), .int (nI t), .int (-1015), .ref sd, .int (nI 1), l10, l11] [] D) : Wp (d + 10) 113 Q 192 [.ref 0, .int (nI n), .ref ar, .int l3, .int (nI s), .int (nI o5), .int (nI t), .int (-1015), .ref sd, l9, l10, l11] [] D := by
  refine w_ald0 i113_192 ?_
  refine w_ild5 i113_193 ?_
  refine w_const i113_195 kc_0 ?_
  refine w_VD3 i113_196 c67 (Or.inl rfl) (Or.inl ⟨by decide +kernel, by decide⟩) (by repeat (first | exact nvL_nil | refine nvL_cons (by first | exact True.intro | exact nvSt (by decide) | exact nvD hda | exact nvD hds | exact n9 | exact n10 | exact n11 | exact nvK (by omega) (by omega)) ?_)) ⟨(by repeat (first | exact nvL_nil | refine nvL_cons (by first | exact True.intro | exact nvSt (by decide) | exact nvD hda | exact nvD hds | exact n9 | exact n10 | exact n11 | exact nvK (by omega) (by omega)) ?_)), rfl, Nat.le_of_ble_eq_true rfl⟩ (Ex_go (K_houseOf_0 R hle ho h5) ?_)
  rw [hO]
  refine w_const i113_199 kc_1 ?_
  refine w_cneNF i113_200 (by omega) (by omega) rfl ?_
  refine w_ild6 i113_203 ?_
  refine w_ild5 i113_205 ?_
  refine w_ceqF i113_207 (fun e => by have := nI_inj (by omega) (by omega) e; omega) ?_
  refine w_ild7 i113_210 ?_
  refine w_ild5 i113_212 ?_
  refine w_ceqF i113_214 (fun e => ne15 (x := o5) (by omega) e.symm) ?_
  refine w_ild6 i113_217 ?_
  refine w_iltF i113_219 (nI_pos' (by omega)) ?_
  refine w_const i113_222 kc_1 ?_
  refine w_goto i113_223 g113_223 ?_
  refine w_ald0 i113_227 ?_
  refine w_ild4 i113_228 ?_
  refine w_const i113_230 kc_4 ?_
  refine w_VD3 i113_231 c58 (Or.inl rfl) (Or.inl ⟨by decide +kernel, by decide⟩) (by repeat (first | exact nvL_nil | refine nvL_cons (by first | exact True.intro | exact nvSt (by decide) | exact nvD hda | exact nvD hds | exact n9 | exact n10 | exact n11 | exact nvK (by omega) (by omega)) ?_)) ⟨(by repeat (first | exact nvL_nil | refine nvL_cons (by first | exact True.intro | exact nvSt (by decide) | exact nvD hda | exact nvD hds | exact n9 | exact n10 | exact n11 | exact nvK (by omega) (by omega)) ?_)), rfl, Nat.le_of_ble_eq_true rfl⟩ (Ex_go (K_stubOf_4 R hle hs) ?_)
  rw [hv4]
  refine w_ileNF i113_234 (by omega) (by omega) ?_
  refine w_const i113_237 kc_1 ?_
  refine w_goto i113_238 g113_238 ?_
  refine w_cneNF i113_242 (by omega) (by omega) (by omega) ?_
  refine w_ild7 i113_245 ?_
  refine w_iltT i113_247 g113_247 (by decide) ?_
  refine w_const i113_254 kc_0 ?_
  refine w_ald0 i113_255 ?_
  refine w_ild4 i113_256 ?_
  refine w_const i113_258 kc_5 ?_
  refine w_VD3 i113_259 c58 (Or.inl rfl) (Or.inl ⟨by decide +kernel, by decide⟩) (by repeat (first | exact nvL_nil | refine nvL_cons (by first | exact True.intro | exact nvSt (by decide) | exact nvD hda | exact nvD hds | exact n9 | exact n10 | exact n11 | exact nvK (by omega) (by omega)) ?_)) ⟨(by repeat (first | exact nvL_nil | refine nvL_cons (by first | exact True.intro | exact nvSt (by decide) | exact nvD hda | exact nvD hds | exact n9 | exact n10 | exact n11 | exact nvK (by omega) (by omega)) ?_)), rfl, Nat.le_of_ble_eq_true rfl⟩ (Ex_go (K_stubOf_5 R hle hs) ?_)
  rw [hv5]
  refine w_ileNT i113_262 g113_262 (by omega) (by omega) ?_
  refine w_const i113_269 kc_0 ?_
  refine w_cneNF i113_270 (by omega) (by omega) (by omega) ?_
  refine w_ald0 i113_273 ?_
  refine w_ild4 i113_274 ?_
  refine w_const i113_276 kc_1 ?_
  refine w_VD3 i113_277 c58 (Or.inl rfl) (Or.inl ⟨by decide +kernel, by decide⟩) (by repeat (first | exact nvL_nil | refine nvL_cons (by first | exact True.intro | exact nvSt (by decide) | exact nvD hda | exact nvD hds | exact n9 | exact n10 | exact n11 | exact nvK (by omega) (by omega)) ?_)) ⟨(by repeat (first | exact nvL_nil | refine nvL_cons (by first | exact True.intro | exact nvSt (by decide) | exact nvD hda | exact nvD hds | exact n9 | exact n10 | exact n11 | exact nvK (by omega) (by omega)) ?_)), rfl, Nat.le_of_ble_eq_true rfl⟩ (Ex_go (K_stubOf_1 R hle hs) ?_)
  rw [hv1]
  refine w_ileNF i113_280 (by omega) (by omega) ?_
  refine w_const i113_283 kc_1 ?_
  refine w_goto i113_284 g113_284 ?_
  refine w_ist9 i113_288 ?_
  refine w_ild9 i113_290 ?_
  refine w_ild6 i113_292 ?_
  refine w_iltF i113_294 (nI_pos' (by omega)) ?_
  refine w_ald0 i113_297 ?_
  refine w_ild6 i113_298 ?_
  refine w_const i113_300 kc_0 ?_
  refine w_VD3 i113_301 c67 (Or.inl rfl) (Or.inl ⟨by decide +kernel, by decide⟩) (by repeat (first | exact nvL_nil | refine nvL_cons (by first | exact True.intro | exact nvSt (by decide) | exact nvD hda | exact nvD hds | exact n9 | exact n10 | exact n11 | exact nvK (by omega) (by omega)) ?_)) ⟨(by repeat (first | exact nvL_nil | refine nvL_cons (by first | exact True.intro | exact nvSt (by decide) | exact nvD hda | exact nvD hds | exact n9 | exact n10 | exact n11 | exact nvK (by omega) (by omega)) ?_)), rfl, Nat.le_of_ble_eq_true rfl⟩ (Ex_go (K_houseOf_0 R hle ho htt) ?_)
  rw [hOt]
  refine w_const i113_304 kc_1 ?_
  refine w_cneNF i113_305 (by omega) (by omega) rfl ?_
  refine w_ild7 i113_308 ?_
  refine w_iltT i113_310 g113_310 (by decide) ?_
  refine w_const i113_324 kc_1 ?_
  refine w_goto i113_325 g113_325 ?_
  refine w_iand i113_329 (v := nI 1) (by decide) ?_
  refine w_ist9 i113_330 ?_
  exact hk
set_option maxHeartbeats 1000000 in
theorem su_f10 {d : Nat} {D : Mm} {Q : Option Value → Mm → Prop} {n B s o5 w u z t q ar sd : Nat} {V : Nat → Int32} {l3 : Int32} {l9 l10 l11 : Value} (n9 : nvV D l9) (n10 : nvV D l10) (n11 : nvV D l11) (R : Rel D n V) (hle : n ≤ 12) (ho : opV V) (hs : s < n) (hda : dv D ar) (hds : dv D sd) (h5 : o5 < 6) (hO : V (6 + 4 * o5 + 0) = nI 1) (hv4 : vStubOf V s 4 = nI u) (hv5 : vStubOf V s 5 = nI z) (hv1 : vStubOf V s 1 = nI w) (hw0 : 0 < w) (hw : w < 100) (hu : u < 100) (hz : z < 100) (hu0 : u = 0) (hz0 : 0 < z) (hqq : q < 6) (hqn : q ≠ o5) (hOq : V (6 + 4 * q + 0) = nI 1) (hk : Wp (d + 10) 113 Q 332 [.ref 0, .int (nI n), .ref ar, .int l3, .int (nI s), .int (nI o5), .int (-1015), .int (nI q), .ref sd, .int (nI 1), l10, l11] [] D) : Wp (d + 10) 113 Q 192 [.ref 0, .int (nI n), .ref ar, .int l3, .int (nI s), .int (nI o5), .int (-1015), .int (nI q), .ref sd, l9, l10, l11] [] D := by
  refine w_ald0 i113_192 ?_
  refine w_ild5 i113_193 ?_
  refine w_const i113_195 kc_0 ?_
  refine w_VD3 i113_196 c67 (Or.inl rfl) (Or.inl ⟨by decide +kernel, by decide⟩) (by repeat (first | exact nvL_nil | refine nvL_cons (by first | exact True.intro | exact nvSt (by decide) | exact nvD hda | exact nvD hds | exact n9 | exact n10 | exact n11 | exact nvK (by omega) (by omega)) ?_)) ⟨(by repeat (first | exact nvL_nil | refine nvL_cons (by first | exact True.intro | exact nvSt (by decide) | exact nvD hda | exact nvD hds | exact n9 | exact n10 | exact n11 | exact nvK (by omega) (by omega)) ?_)), rfl, Nat.le_of_ble_eq_true rfl⟩ (Ex_go (K_houseOf_0 R hle ho h5) ?_)
  rw [hO]
  refine w_const i113_199 kc_1 ?_
  refine w_cneNF i113_200 (by omega) (by omega) rfl ?_
  refine w_ild6 i113_203 ?_
  refine w_ild5 i113_205 ?_
  refine w_ceqF i113_207 (fun e => ne15 (x := o5) (by omega) e.symm) ?_
  refine w_ild7 i113_210 ?_
  refine w_ild5 i113_212 ?_
  refine w_ceqF i113_214 (fun e => by have := nI_inj (by omega) (by omega) e; omega) ?_
  refine w_ild6 i113_217 ?_
  refine w_iltT i113_219 g113_219 (by decide) ?_
  refine w_const i113_226 kc_0 ?_
  refine w_ald0 i113_227 ?_
  refine w_ild4 i113_228 ?_
  refine w_const i113_230 kc_4 ?_
  refine w_VD3 i113_231 c58 (Or.inl rfl) (Or.inl ⟨by decide +kernel, by decide⟩) (by repeat (first | exact nvL_nil | refine nvL_cons (by first | exact True.intro | exact nvSt (by decide) | exact nvD hda | exact nvD hds | exact n9 | exact n10 | exact n11 | exact nvK (by omega) (by omega)) ?_)) ⟨(by repeat (first | exact nvL_nil | refine nvL_cons (by first | exact True.intro | exact nvSt (by decide) | exact nvD hda | exact nvD hds | exact n9 | exact n10 | exact n11 | exact nvK (by omega) (by omega)) ?_)), rfl, Nat.le_of_ble_eq_true rfl⟩ (Ex_go (K_stubOf_4 R hle hs) ?_)
  rw [hv4]
  refine w_ileNT i113_234 g113_234 (by omega) (by omega) ?_
  refine w_const i113_241 kc_0 ?_
  refine w_cneNF i113_242 (by omega) (by omega) (by omega) ?_
  refine w_ild7 i113_245 ?_
  refine w_iltF i113_247 (nI_pos' (by omega)) ?_
  refine w_const i113_250 kc_1 ?_
  refine w_goto i113_251 g113_251 ?_
  refine w_ald0 i113_255 ?_
  refine w_ild4 i113_256 ?_
  refine w_const i113_258 kc_5 ?_
  refine w_VD3 i113_259 c58 (Or.inl rfl) (Or.inl ⟨by decide +kernel, by decide⟩) (by repeat (first | exact nvL_nil | refine nvL_cons (by first | exact True.intro | exact nvSt (by decide) | exact nvD hda | exact nvD hds | exact n9 | exact n10 | exact n11 | exact nvK (by omega) (by omega)) ?_)) ⟨(by repeat (first | exact nvL_nil | refine nvL_cons (by first | exact True.intro | exact nvSt (by decide) | exact nvD hda | exact nvD hds | exact n9 | exact n10 | exact n11 | exact nvK (by omega) (by omega)) ?_)), rfl, Nat.le_of_ble_eq_true rfl⟩ (Ex_go (K_stubOf_5 R hle hs) ?_)
  rw [hv5]
  refine w_ileNF i113_262 (by omega) (by omega) ?_
  refine w_const i113_265 kc_1 ?_
  refine w_goto i113_266 g113_266 ?_
  refine w_cneNF i113_270 (by omega) (by omega) (by omega) ?_
  refine w_ald0 i113_273 ?_
  refine w_ild4 i113_274 ?_
  refine w_const i113_276 kc_1 ?_
  refine w_VD3 i113_277 c58 (Or.inl rfl) (Or.inl ⟨by decide +kernel, by decide⟩) (by repeat (first | exact nvL_nil | refine nvL_cons (by first | exact True.intro | exact nvSt (by decide) | exact nvD hda | exact nvD hds | exact n9 | exact n10 | exact n11 | exact nvK (by omega) (by omega)) ?_)) ⟨(by repeat (first | exact nvL_nil | refine nvL_cons (by first | exact True.intro | exact nvSt (by decide) | exact nvD hda | exact nvD hds | exact n9 | exact n10 | exact n11 | exact nvK (by omega) (by omega)) ?_)), rfl, Nat.le_of_ble_eq_true rfl⟩ (Ex_go (K_stubOf_1 R hle hs) ?_)
  rw [hv1]
  refine w_ileNF i113_280 (by omega) (by omega) ?_
  refine w_const i113_283 kc_1 ?_
  refine w_goto i113_284 g113_284 ?_
  refine w_ist9 i113_288 ?_
  refine w_ild9 i113_290 ?_
  refine w_ild6 i113_292 ?_
  refine w_iltT i113_294 g113_294 (by decide) ?_
  refine w_ild7 i113_308 ?_
  refine w_iltF i113_310 (nI_pos' (by omega)) ?_
  refine w_ald0 i113_313 ?_
  refine w_ild7 i113_314 ?_
  refine w_const i113_316 kc_0 ?_
  refine w_VD3 i113_317 c67 (Or.inl rfl) (Or.inl ⟨by decide +kernel, by decide⟩) (by repeat (first | exact nvL_nil | refine nvL_cons (by first | exact True.intro | exact nvSt (by decide) | exact nvD hda | exact nvD hds | exact n9 | exact n10 | exact n11 | exact nvK (by omega) (by omega)) ?_)) ⟨(by repeat (first | exact nvL_nil | refine nvL_cons (by first | exact True.intro | exact nvSt (by decide) | exact nvD hda | exact nvD hds | exact n9 | exact n10 | exact n11 | exact nvK (by omega) (by omega)) ?_)), rfl, Nat.le_of_ble_eq_true rfl⟩ (Ex_go (K_houseOf_0 R hle ho hqq) ?_)
  rw [hOq]
  refine w_const i113_320 kc_1 ?_
  refine w_cneNF i113_321 (by omega) (by omega) rfl ?_
  refine w_const i113_324 kc_1 ?_
  refine w_goto i113_325 g113_325 ?_
  refine w_iand i113_329 (v := nI 1) (by decide) ?_
  refine w_ist9 i113_330 ?_
  exact hk
set_option maxHeartbeats 1000000 in
theorem su_f11 {d : Nat} {D : Mm} {Q : Option Value → Mm → Prop} {n B s o5 w u z t q ar sd : Nat} {V : Nat → Int32} {l3 : Int32} {l9 l10 l11 : Value} (n9 : nvV D l9) (n10 : nvV D l10) (n11 : nvV D l11) (R : Rel D n V) (hle : n ≤ 12) (ho : opV V) (hs : s < n) (hda : dv D ar) (hds : dv D sd) (h5 : o5 < 6) (hO : V (6 + 4 * o5 + 0) = nI 1) (hv4 : vStubOf V s 4 = nI u) (hv5 : vStubOf V s 5 = nI z) (hv1 : vStubOf V s 1 = nI w) (hw0 : 0 < w) (hw : w < 100) (hu : u < 100) (hz : z < 100) (hu0 : u = 0) (hz0 : z = 0) (hk : Wp (d + 10) 113 Q 332 [.ref 0, .int (nI n), .ref ar, .int l3, .int (nI s), .int (nI o5), .int (-1015), .int (-1015), .ref sd, .int (nI 1), l10, l11] [] D) : Wp (d + 10) 113 Q 192 [.ref 0, .int (nI n), .ref ar, .int l3, .int (nI s), .int (nI o5), .int (-1015), .int (-1015), .ref sd, l9, l10, l11] [] D := by
  refine w_ald0 i113_192 ?_
  refine w_ild5 i113_193 ?_
  refine w_const i113_195 kc_0 ?_
  refine w_VD3 i113_196 c67 (Or.inl rfl) (Or.inl ⟨by decide +kernel, by decide⟩) (by repeat (first | exact nvL_nil | refine nvL_cons (by first | exact True.intro | exact nvSt (by decide) | exact nvD hda | exact nvD hds | exact n9 | exact n10 | exact n11 | exact nvK (by omega) (by omega)) ?_)) ⟨(by repeat (first | exact nvL_nil | refine nvL_cons (by first | exact True.intro | exact nvSt (by decide) | exact nvD hda | exact nvD hds | exact n9 | exact n10 | exact n11 | exact nvK (by omega) (by omega)) ?_)), rfl, Nat.le_of_ble_eq_true rfl⟩ (Ex_go (K_houseOf_0 R hle ho h5) ?_)
  rw [hO]
  refine w_const i113_199 kc_1 ?_
  refine w_cneNF i113_200 (by omega) (by omega) rfl ?_
  refine w_ild6 i113_203 ?_
  refine w_ild5 i113_205 ?_
  refine w_ceqF i113_207 (fun e => ne15 (x := o5) (by omega) e.symm) ?_
  refine w_ild7 i113_210 ?_
  refine w_ild5 i113_212 ?_
  refine w_ceqF i113_214 (fun e => ne15 (x := o5) (by omega) e.symm) ?_
  refine w_ild6 i113_217 ?_
  refine w_iltT i113_219 g113_219 (by decide) ?_
  refine w_const i113_226 kc_0 ?_
  refine w_ald0 i113_227 ?_
  refine w_ild4 i113_228 ?_
  refine w_const i113_230 kc_4 ?_
  refine w_VD3 i113_231 c58 (Or.inl rfl) (Or.inl ⟨by decide +kernel, by decide⟩) (by repeat (first | exact nvL_nil | refine nvL_cons (by first | exact True.intro | exact nvSt (by decide) | exact nvD hda | exact nvD hds | exact n9 | exact n10 | exact n11 | exact nvK (by omega) (by omega)) ?_)) ⟨(by repeat (first | exact nvL_nil | refine nvL_cons (by first | exact True.intro | exact nvSt (by decide) | exact nvD hda | exact nvD hds | exact n9 | exact n10 | exact n11 | exact nvK (by omega) (by omega)) ?_)), rfl, Nat.le_of_ble_eq_true rfl⟩ (Ex_go (K_stubOf_4 R hle hs) ?_)
  rw [hv4]
  refine w_ileNT i113_234 g113_234 (by omega) (by omega) ?_
  refine w_const i113_241 kc_0 ?_
  refine w_cneNF i113_242 (by omega) (by omega) (by omega) ?_
  refine w_ild7 i113_245 ?_
  refine w_iltT i113_247 g113_247 (by decide) ?_
  refine w_const i113_254 kc_0 ?_
  refine w_ald0 i113_255 ?_
  refine w_ild4 i113_256 ?_
  refine w_const i113_258 kc_5 ?_
  refine w_VD3 i113_259 c58 (Or.inl rfl) (Or.inl ⟨by decide +kernel, by decide⟩) (by repeat (first | exact nvL_nil | refine nvL_cons (by first | exact True.intro | exact nvSt (by decide) | exact nvD hda | exact nvD hds | exact n9 | exact n10 | exact n11 | exact nvK (by omega) (by omega)) ?_)) ⟨(by repeat (first | exact nvL_nil | refine nvL_cons (by first | exact True.intro | exact nvSt (by decide) | exact nvD hda | exact nvD hds | exact n9 | exact n10 | exact n11 | exact nvK (by omega) (by omega)) ?_)), rfl, Nat.le_of_ble_eq_true rfl⟩ (Ex_go (K_stubOf_5 R hle hs) ?_)
  rw [hv5]
  refine w_ileNT i113_262 g113_262 (by omega) (by omega) ?_
  refine w_const i113_269 kc_0 ?_
  refine w_cneNF i113_270 (by omega) (by omega) (by omega) ?_
  refine w_ald0 i113_273 ?_
  refine w_ild4 i113_274 ?_
  refine w_const i113_276 kc_1 ?_
  refine w_VD3 i113_277 c58 (Or.inl rfl) (Or.inl ⟨by decide +kernel, by decide⟩) (by repeat (first | exact nvL_nil | refine nvL_cons (by first | exact True.intro | exact nvSt (by decide) | exact nvD hda | exact nvD hds | exact n9 | exact n10 | exact n11 | exact nvK (by omega) (by omega)) ?_)) ⟨(by repeat (first | exact nvL_nil | refine nvL_cons (by first | exact True.intro | exact nvSt (by decide) | exact nvD hda | exact nvD hds | exact n9 | exact n10 | exact n11 | exact nvK (by omega) (by omega)) ?_)), rfl, Nat.le_of_ble_eq_true rfl⟩ (Ex_go (K_stubOf_1 R hle hs) ?_)
  rw [hv1]
  refine w_ileNF i113_280 (by omega) (by omega) ?_
  refine w_const i113_283 kc_1 ?_
  refine w_goto i113_284 g113_284 ?_
  refine w_ist9 i113_288 ?_
  refine w_ild9 i113_290 ?_
  refine w_ild6 i113_292 ?_
  refine w_iltT i113_294 g113_294 (by decide) ?_
  refine w_ild7 i113_308 ?_
  refine w_iltT i113_310 g113_310 (by decide) ?_
  refine w_const i113_324 kc_1 ?_
  refine w_goto i113_325 g113_325 ?_
  refine w_iand i113_329 (v := nI 1) (by decide) ?_
  refine w_ist9 i113_330 ?_
  exact hk
