/-! the law's foretelling: a sharing -/
set_option maxHeartbeats 1000000 in
theorem fo_5 {d : Nat} {D : Mm} {Q : Option Value → Mm → Prop} {n B nx ob : Nat} {V : Nat → Int32} {hs : HsT} {u4 u5 u6 u7 u8 u9 u10 u11 u12 u13 u14 u15 u16 u17 u18 u19 u20 : Value} (n4 : nvQ u4) (n5 : nvQ u5) (n6 : nvQ u6) (n7 : nvQ u7) (n8 : nvQ u8) (n9 : nvQ u9) (n10 : nvQ u10) (n11 : nvQ u11) (n12 : nvQ u12) (n13 : nvQ u13) (n14 : nvQ u14) (n15 : nvQ u15) (n16 : nvQ u16) (n17 : nvQ u17) (n18 : nvQ u18) (n19 : nvQ u19) (n20 : nvQ u20) (hf : fitU D 6) (hb : dyn D ob 8) (hk : Wp (d + 10) 117 Q 220 [.ref 0, .ref ob, .int (nI n), .int (nI 1), u4, u5, u6, u7, u8, u9, .ref (DB + nxt D), .int (nI 0), .int (nI 0), u13, u14, u15, u16, u17, u18, u19, u20] [] (alD D (rwA 20 6) 6)) : Wp (d + 10) 117 Q 208 [.ref 0, .ref ob, .int (nI n), .int (nI 1), u4, u5, u6, u7, u8, u9, u10, u11, u12, u13, u14, u15, u16, u17, u18, u19, u20] [] D := by
  refine w_bip i117_208 kb_6 ?_
  refine w_nai i117_210 (j := 6) (by decide) (nvL_ok (by repeat (first | exact nvL_nil | refine nvL_cons (by first | exact True.intro | exact nvSt (by decide) | exact nvD hb.1 | exact n4.nv | exact n5.nv | exact n6.nv | exact n7.nv | exact n8.nv | exact n9.nv | exact n10.nv | exact n11.nv | exact n12.nv | exact n13.nv | exact n14.nv | exact n15.nv | exact n16.nv | exact n17.nv | exact n18.nv | exact n19.nv | exact n20.nv | exact nvK (by omega) (by omega)) ?_))) (nvL_ok nvL_nil) hf ?_
  refine w_ast10 i117_212 ?_
  refine w_const i117_214 kc_0 ?_
  refine w_ist11 i117_215 ?_
  refine w_const i117_217 kc_0 ?_
  refine w_ist12 i117_218 ?_
  exact hk
set_option maxHeartbeats 1000000 in
theorem fo_5n {d : Nat} {D : Mm} {Q : Option Value → Mm → Prop} {n B nx ob ar j : Nat} {V : Nat → Int32} {hs : HsT} {c : Int32} {u4 u5 u6 u7 u8 u9 u13 u14 u15 u16 u17 u18 u19 u20 : Value} (n4 : nvQ u4) (n5 : nvQ u5) (n6 : nvQ u6) (n7 : nvQ u7) (n8 : nvQ u8) (n9 : nvQ u9) (n13 : nvQ u13) (n14 : nvQ u14) (n15 : nvQ u15) (n16 : nvQ u16) (n17 : nvQ u17) (n18 : nvQ u18) (n19 : nvQ u19) (n20 : nvQ u20) (hj : j < 6) (hk : Wp (d + 10) 117 Q 227 [.ref 0, .ref ob, .int (nI n), .int (nI 1), u4, u5, u6, u7, u8, u9, .ref ar, .int c, .int (nI j), u13, u14, u15, u16, u17, u18, u19, u20] [] D) : Wp (d + 10) 117 Q 220 [.ref 0, .ref ob, .int (nI n), .int (nI 1), u4, u5, u6, u7, u8, u9, .ref ar, .int c, .int (nI j), u13, u14, u15, u16, u17, u18, u19, u20] [] D := by
  refine w_ild12 i117_220 ?_
  refine w_bip i117_222 kb_6 ?_
  refine w_cgeNF i117_224 (by omega) (by omega) hj ?_
  exact hk
set_option maxHeartbeats 1000000 in
theorem fo_5z {d : Nat} {D : Mm} {Q : Option Value → Mm → Prop} {n B nx ob ar : Nat} {V : Nat → Int32} {hs : HsT} {c : Int32} {u4 u5 u6 u7 u8 u9 u13 u14 u15 u16 u17 u18 u19 u20 : Value} (n4 : nvQ u4) (n5 : nvQ u5) (n6 : nvQ u6) (n7 : nvQ u7) (n8 : nvQ u8) (n9 : nvQ u9) (n13 : nvQ u13) (n14 : nvQ u14) (n15 : nvQ u15) (n16 : nvQ u16) (n17 : nvQ u17) (n18 : nvQ u18) (n19 : nvQ u19) (n20 : nvQ u20) (hk : Wp (d + 10) 117 Q 271 [.ref 0, .ref ob, .int (nI n), .int (nI 1), u4, u5, u6, u7, u8, u9, .ref ar, .int c, .int (nI 6), u13, u14, u15, u16, u17, u18, u19, u20] [] D) : Wp (d + 10) 117 Q 220 [.ref 0, .ref ob, .int (nI n), .int (nI 1), u4, u5, u6, u7, u8, u9, .ref ar, .int c, .int (nI 6), u13, u14, u15, u16, u17, u18, u19, u20] [] D := by
  refine w_ild12 i117_220 ?_
  refine w_bip i117_222 kb_6 ?_
  refine w_cgeNT i117_224 g117_224 (by omega) (by omega) (Nat.le_refl _) ?_
  exact hk
set_option maxHeartbeats 1000000 in
theorem fo_5b {d : Nat} {D : Mm} {Q : Option Value → Mm → Prop} {n B nx ob ar j : Nat} {V : Nat → Int32} {hs : HsT} {c : Int32} {u4 u5 u6 u7 u8 u9 u13 u14 u15 u16 u17 u18 u19 u20 : Value} (n4 : nvQ u4) (n5 : nvQ u5) (n6 : nvQ u6) (n7 : nvQ u7) (n8 : nvQ u8) (n9 : nvQ u9) (n13 : nvQ u13) (n14 : nvQ u14) (n15 : nvQ u15) (n16 : nvQ u16) (n17 : nvQ u17) (n18 : nvQ u18) (n19 : nvQ u19) (n20 : nvQ u20) (J : CJ D n V B hs nx) (S : Sav D n V B) (hS : shE n V) (hb : dyn D ob 8) (ha : dyn D ar 20) (hc : cap D ar = 6) (hj : j < 6) (hk : ∀ D2 c2, c2 = c + ifp (vParts n V j ≤ 0) (nI 0) (nI 1) → CJ D2 n V B hs nx → Sav D2 n V B → dyn D2 ob 8 → dyn D2 ar 20 → cap D2 ar = 6 → (∀ i, i ≠ j → D2 ar i = D ar i) → D2 ar j = V (6 + 4 * j + 2) + vParts n V j → (∀ q, 169 ≤ q → q ≠ ar → D2 q = D q) → Wp (d + 10) 117 Q 220 [.ref 0, .ref ob, .int (nI n), .int (nI 1), u4, u5, u6, u7, u8, u9, .ref ar, .int c2, .int (nI (j + 1)), u13, u14, u15, u16, u17, u18, u19, u20] [] D2) : Wp (d + 10) 117 Q 227 [.ref 0, .ref ob, .int (nI n), .int (nI 1), u4, u5, u6, u7, u8, u9, .ref ar, .int c, .int (nI j), u13, u14, u15, u16, u17, u18, u19, u20] [] D := by
  have hL := LENv
  have hK := KNDv
  have hBE := DBv
  have hga := dyn_ge ha
  have hgb := dyn_ge hb
  obtain ⟨Da, eDa⟩ : ∃ f, f = D ar := ⟨_, rfl⟩
  rw [← eDa] at hk
  refine w_ald10 i117_227 ?_
  refine w_ild12 i117_229 ?_
  refine w_ald0 i117_231 ?_
  refine w_ild12 i117_232 ?_
  refine w_const i117_234 kc_2 ?_
  refine w_VD3 i117_235 c67 (Or.inl rfl) (Or.inl ⟨by decide +kernel, by decide⟩) (by repeat (first | exact nvL_nil | refine nvL_cons (by first | exact True.intro | exact nvSt (by decide) | exact nvD hb.1 | exact nvD ha.1 | exact n4.nv | exact n5.nv | exact n6.nv | exact n7.nv | exact n8.nv | exact n9.nv | exact n13.nv | exact n14.nv | exact n15.nv | exact n16.nv | exact n17.nv | exact n18.nv | exact n19.nv | exact n20.nv | exact nvK (by omega) (by omega)) ?_)) ⟨(by repeat (first | exact nvL_nil | refine nvL_cons (by first | exact True.intro | exact nvSt (by decide) | exact nvD hb.1 | exact nvD ha.1 | exact n4.nv | exact n5.nv | exact n6.nv | exact n7.nv | exact n8.nv | exact n9.nv | exact n13.nv | exact n14.nv | exact n15.nv | exact n16.nv | exact n17.nv | exact n18.nv | exact n19.nv | exact n20.nv | exact nvK (by omega) (by omega)) ?_)), rfl, Nat.le_of_ble_eq_true rfl⟩ (Ex_go (K_houseOf_2 J.R J.h12 J.op hj) ?_)
  refine w_ald0 i117_238 ?_
  refine w_ild12 i117_239 ?_
  refine w_VD2 i117_241 c61 (Or.inl rfl) (Or.inl ⟨by decide +kernel, by decide⟩) (by repeat (first | exact nvL_nil | refine nvL_cons (by first | exact True.intro | exact nvSt (by decide) | exact nvD hb.1 | exact nvD ha.1 | exact n4.nv | exact n5.nv | exact n6.nv | exact n7.nv | exact n8.nv | exact n9.nv | exact n13.nv | exact n14.nv | exact n15.nv | exact n16.nv | exact n17.nv | exact n18.nv | exact n19.nv | exact n20.nv | exact nvK (by omega) (by omega)) ?_)) ⟨(by repeat (first | exact nvL_nil | refine nvL_cons (by first | exact True.intro | exact nvSt (by decide) | exact nvD hb.1 | exact nvD ha.1 | exact n4.nv | exact n5.nv | exact n6.nv | exact n7.nv | exact n8.nv | exact n9.nv | exact n13.nv | exact n14.nv | exact n15.nv | exact n16.nv | exact n17.nv | exact n18.nv | exact n19.nv | exact n20.nv | exact nvK (by omega) (by omega)) ?_)), rfl, Nat.le_of_ble_eq_true rfl⟩ ?_
  refine K_part J.R J.h12 J.op hS hj (fun D f => ?_)
  have J := J.frH f.h
  have S := S.re (fun q hq => f q (by omega) (by omega) (by omega))
  have en := f.nx
  have hb := dyn_fr hb (by rw [en.1]; exact Nat.le_refl _) (f ob (by omega) (by omega) (by omega))
  have ra := f ar (by omega) (by omega) (by omega)
  have ha := dyn_fr ha (by rw [en.1]; exact Nat.le_refl _) ra
  have hc : cap D ar = 6 := by unfold cap; rw [ra]; exact hc
  have F : ∀ q, 169 ≤ q → D q = _ := fun q a => f q (by omega) (by omega) (by omega)
  refine w_iadd i117_244 rfl ?_
  refine w_iasD i117_245 ha (by rw [hc]; exact hj) (by rw [hc]; decide) ?_
  obtain ⟨D3, e3⟩ : ∃ D3, D3 = mup D ar j (V (6 + 4 * j + 2) + vParts n V j) := ⟨_, rfl⟩
  rw [← e3]
  have m3 : ∀ q, q ≠ ar → D3 q = D q := fun q a => by rw [e3]; exact mupF a
  have J := J.re (D2 := D3) (fun q a _ => m3 q (by omega))
  have S := S.re (D2 := D3) (fun q a => m3 q (by omega))
  have hb : dyn D3 ob 8 := by rw [e3]; exact dyn_mup hb (by omega) (Or.inr (by omega))
  have ha : dyn D3 ar 20 := by rw [e3]; exact dyn_mup ha (by omega) (Or.inr (by omega))
  have hc : cap D3 ar = 6 := by rw [e3, cap_mup2 (Or.inr (by omega))]; exact hc
  have g1 : ∀ i, i ≠ j → D3 ar i = Da i := fun i a => by rw [e3, eDa]; exact (mupJ a).trans (congrFun ra i)
  have g2 : D3 ar j = V (6 + 4 * j + 2) + vParts n V j := by rw [e3]; exact mupE
  have F := fun q (a : 169 ≤ q) (b : q ≠ ar) => (m3 q b).trans (F q a)
  refine w_ild11 i117_246 ?_
  refine w_ald0 i117_248 ?_
  refine w_ild12 i117_249 ?_
  refine w_VD2 i117_251 c61 (Or.inl rfl) (Or.inl ⟨by decide +kernel, by decide⟩) (by repeat (first | exact nvL_nil | refine nvL_cons (by first | exact True.intro | exact nvSt (by decide) | exact nvD hb.1 | exact nvD ha.1 | exact n4.nv | exact n5.nv | exact n6.nv | exact n7.nv | exact n8.nv | exact n9.nv | exact n13.nv | exact n14.nv | exact n15.nv | exact n16.nv | exact n17.nv | exact n18.nv | exact n19.nv | exact n20.nv | exact nvK (by omega) (by omega)) ?_)) ⟨(by repeat (first | exact nvL_nil | refine nvL_cons (by first | exact True.intro | exact nvSt (by decide) | exact nvD hb.1 | exact nvD ha.1 | exact n4.nv | exact n5.nv | exact n6.nv | exact n7.nv | exact n8.nv | exact n9.nv | exact n13.nv | exact n14.nv | exact n15.nv | exact n16.nv | exact n17.nv | exact n18.nv | exact n19.nv | exact n20.nv | exact nvK (by omega) (by omega)) ?_)), rfl, Nat.le_of_ble_eq_true rfl⟩ ?_
  refine K_part J.R J.h12 J.op hS hj (fun D f => ?_)
  have J := J.frH f.h
  have S := S.re (fun q hq => f q (by omega) (by omega) (by omega))
  have en := f.nx
  have hb := dyn_fr hb (by rw [en.1]; exact Nat.le_refl _) (f ob (by omega) (by omega) (by omega))
  have ra := f ar (by omega) (by omega) (by omega)
  have ha := dyn_fr ha (by rw [en.1]; exact Nat.le_refl _) ra
  have hc : cap D ar = 6 := by unfold cap; rw [ra]; exact hc
  have F := fun q (a : 169 ≤ q) (b : q ≠ ar) => (f q (by omega) (by omega) (by omega)).trans (F q a b)
  have g1 := fun i (a : i ≠ j) => (congrFun ra i).trans (g1 i a)
  have g2 := (congrFun ra j).trans g2
  refine w_ile i117_254 g117_254  (fun h254 => ?_) (fun h254 => ?_)
  · skip
    refine w_const i117_261 kc_0 ?_
    refine w_iadd i117_262 rfl ?_
    refine w_ist11 i117_263 ?_
    refine w_inc12 i117_265 (inc1 _) ?_
    refine w_goto i117_268 g117_268 ?_
    exact hk D _ (by first | rw [ifp_t h254] | rw [ifp_f (Int32.not_le.mpr h254)]) J S hb ha hc g1 g2 F
  · skip
    refine w_const i117_257 kc_1 ?_
    refine w_goto i117_258 g117_258 ?_
    refine w_iadd i117_262 rfl ?_
    refine w_ist11 i117_263 ?_
    refine w_inc12 i117_265 (inc1 _) ?_
    refine w_goto i117_268 g117_268 ?_
    exact hk D _ (by first | rw [ifp_t h254] | rw [ifp_f (Int32.not_le.mpr h254)]) J S hb ha hc g1 g2 F
/-- what the houses are to have -/
noncomputable def dueV (n : Nat) (V : Nat → Int32) (k : Nat) : Int32 := V (6 + 4 * k + 2) + vParts n V k
noncomputable def shrC (n : Nat) (V : Nat → Int32) (k : Nat) : Int32 := sumN k (fun h => ifp (vParts n V h ≤ 0) (nI 0) (nI 1))
theorem fo_5l {d : Nat} {D0 : Mm} {Q : Option Value → Mm → Prop} {n B nx ob ar : Nat} {V : Nat → Int32} {hs : HsT} {u4 u5 u6 u7 u8 u9 u13 u14 u15 u16 u17 u18 u19 u20 : Value} (n4 : nvQ u4) (n5 : nvQ u5) (n6 : nvQ u6) (n7 : nvQ u7) (n8 : nvQ u8) (n9 : nvQ u9) (n13 : nvQ u13) (n14 : nvQ u14) (n15 : nvQ u15) (n16 : nvQ u16) (n17 : nvQ u17) (n18 : nvQ u18) (n19 : nvQ u19) (n20 : nvQ u20) (hS : shE n V) (hk : ∀ D2, CJ D2 n V B hs nx → Sav D2 n V B → dyn D2 ob 8 → dyn D2 ar 20 → cap D2 ar = 6 → (∀ i, i < 6 → D2 ar i = dueV n V i) → (∀ q, 169 ≤ q → q ≠ ar → D2 q = D0 q) → Wp (d + 10) 117 Q 271 [.ref 0, .ref ob, .int (nI n), .int (nI 1), u4, u5, u6, u7, u8, u9, .ref ar, .int (shrC n V 6), .int (nI 6), u13, u14, u15, u16, u17, u18, u19, u20] [] D2) : ∀ (k j : Nat) (D : Mm), j + k = 6 → CJ D n V B hs nx → Sav D n V B → dyn D ob 8 → dyn D ar 20 → cap D ar = 6 → (∀ i, i < j → D ar i = dueV n V i) → (∀ q, 169 ≤ q → q ≠ ar → D q = D0 q) → Wp (d + 10) 117 Q 220 [.ref 0, .ref ob, .int (nI n), .int (nI 1), u4, u5, u6, u7, u8, u9, .ref ar, .int (shrC n V j), .int (nI j), u13, u14, u15, u16, u17, u18, u19, u20] [] D
  | 0, j, D, hj, J, S, hb, ha, hc, g, F => by
    have e : j = 6 := hj
    subst e
    exact fo_5z (n := n) (B := B) (nx := nx) (V := V) (hs := hs) n4 n5 n6 n7 n8 n9 n13 n14 n15 n16 n17 n18 n19 n20 (hk D J S hb ha hc g F)
  | k + 1, j, D, hj, J, S, hb, ha, hc, g, F => by
    have hj6 : j < 6 := by omega
    have h1 : j + 1 + k = 6 := by omega
    refine fo_5n (n := n) (B := B) (nx := nx) (V := V) (hs := hs) n4 n5 n6 n7 n8 n9 n13 n14 n15 n16 n17 n18 n19 n20 hj6 ?_
    refine fo_5b n4 n5 n6 n7 n8 n9 n13 n14 n15 n16 n17 n18 n19 n20 J S hS hb ha hc hj6 (fun D2 c2 ec J2 S2 hb2 ha2 hc2 g1 g2 F2 => ?_)
    rw [ec]
    exact fo_5l n4 n5 n6 n7 n8 n9 n13 n14 n15 n16 n17 n18 n19 n20 hS hk k (j + 1) D2 h1 J2 S2 hb2 ha2 hc2 (fun i hi => by
      by_cases z : i = j
      · rw [z]; exact g2
      · rw [g1 i z]; exact g i (by omega)) (fun q a b => (F2 q a b).trans (F q a b))
set_option maxHeartbeats 1000000 in
theorem fo_6a {d : Nat} {D : Mm} {Q : Option Value → Mm → Prop} {n B nx ob ar : Nat} {V : Nat → Int32} {hs : HsT} {u4 u5 u6 u7 u8 u9 u12 u13 u14 u15 u16 u17 u18 u19 u20 : Value} (n4 : nvQ u4) (n5 : nvQ u5) (n6 : nvQ u6) (n7 : nvQ u7) (n8 : nvQ u8) (n9 : nvQ u9) (n12 : nvQ u12) (n13 : nvQ u13) (n14 : nvQ u14) (n15 : nvQ u15) (n16 : nvQ u16) (n17 : nvQ u17) (n18 : nvQ u18) (n19 : nvQ u19) (n20 : nvQ u20) (J : CJ D n V B hs nx) (hB : B ≤ 8000) (S : Sav D n V B) (hb : dyn D ob 8) (ha : dyn D ar 20) (hc : cap D ar = 6) (h0 : mPooled V = 0) (hk : ∀ D2, CJ D2 n V B hs nx → Sav D2 n V B → dyn D2 ob 8 → dyn D2 ar 20 → cap D2 ar = 6 → D2 ar = D ar → FrJ D D2 → Wp (d + 10) 117 Q 341 [.ref 0, .ref ob, .int (nI n), .int (nI 1), u4, u5, u6, u7, u8, .int (-1014), .ref ar, .int (shrC n V 6), .int (mPooled V), u13, u14, u15, u16, u17, u18, u19, u20] [] D2) : Wp (d + 10) 117 Q 271 [.ref 0, .ref ob, .int (nI n), .int (nI 1), u4, u5, u6, u7, u8, u9, .ref ar, .int (shrC n V 6), u12, u13, u14, u15, u16, u17, u18, u19, u20] [] D := by
  refine w_ald0 i117_271 ?_
  refine w_const i117_272 kc_5 ?_
  refine w_VD2 i117_273 c80 (Or.inl rfl) (Or.inl ⟨by decide +kernel, by decide⟩) (by repeat (first | exact nvL_nil | refine nvL_cons (by first | exact True.intro | exact nvSt (by decide) | exact nvD hb.1 | exact nvD ha.1 | exact n4.nv | exact n5.nv | exact n6.nv | exact n7.nv | exact n8.nv | exact n9.nv | exact n12.nv | exact n13.nv | exact n14.nv | exact n15.nv | exact n16.nv | exact n17.nv | exact n18.nv | exact n19.nv | exact n20.nv | exact nvK (by omega) (by omega)) ?_)) ⟨(by repeat (first | exact nvL_nil | refine nvL_cons (by first | exact True.intro | exact nvSt (by decide) | exact nvD hb.1 | exact nvD ha.1 | exact n4.nv | exact n5.nv | exact n6.nv | exact n7.nv | exact n8.nv | exact n9.nv | exact n12.nv | exact n13.nv | exact n14.nv | exact n15.nv | exact n16.nv | exact n17.nv | exact n18.nv | exact n19.nv | exact n20.nv | exact nvK (by omega) (by omega)) ?_)), rfl, Nat.le_of_ble_eq_true rfl⟩ (Ex_go (K_acc5 J.R J.h12 J.op (J.by_ (by omega))) ?_)
  refine w_ist12 i117_276 ?_
  refine w_ald0 i117_278 ?_
  refine w_VD1 i117_279 c60 (Or.inl rfl) (Or.inl ⟨by decide +kernel, by decide⟩) (by repeat (first | exact nvL_nil | refine nvL_cons (by first | exact True.intro | exact nvSt (by decide) | exact nvD hb.1 | exact nvD ha.1 | exact n4.nv | exact n5.nv | exact n6.nv | exact n7.nv | exact n8.nv | exact n9.nv | exact n12.nv | exact n13.nv | exact n14.nv | exact n15.nv | exact n16.nv | exact n17.nv | exact n18.nv | exact n19.nv | exact n20.nv | exact nvK (by omega) (by omega)) ?_)) ⟨(by repeat (first | exact nvL_nil | refine nvL_cons (by first | exact True.intro | exact nvSt (by decide) | exact nvD hb.1 | exact nvD ha.1 | exact n4.nv | exact n5.nv | exact n6.nv | exact n7.nv | exact n8.nv | exact n9.nv | exact n12.nv | exact n13.nv | exact n14.nv | exact n15.nv | exact n16.nv | exact n17.nv | exact n18.nv | exact n19.nv | exact n20.nv | exact nvK (by omega) (by omega)) ?_)), rfl, Nat.le_of_ble_eq_true rfl⟩ ?_
  refine J_D J (by omega) (fun x rs e D J f rc => ?_) (fun y V2 e => (inr_ne (sh_no h0) e).elim)
  obtain ⟨rfl, rfl⟩ := inl_eq (sh_no h0) e
  have rc := rc (List.cons_ne_nil _ _)
  have hb := f.dy hb
  have ra := f ar (Or.inr (Or.inr (by have := dyn_ge ha; omega)))
  have ha := f.dy ha
  have hc : cap D ar = 6 := by unfold cap; rw [ra]; exact hc
  have S := S.fr f
  refine w_ist9 i117_282 ?_
  refine w_ild3 i117_284 ?_
  refine w_ild12 i117_285 ?_
  refine w_ineF i117_287  h0 ?_
  refine w_ild9 i117_290 ?_
  refine w_sip i117_292 ks_m1014 ?_
  refine w_cneF i117_295  rfl ?_
  refine w_ald0 i117_298 ?_
  refine w_const i117_299 kc_0 ?_
  refine w_const i117_300 kc_0 ?_
  refine w_VD3 i117_301 c79 (Or.inl rfl) (Or.inl ⟨by decide +kernel, by decide⟩) (by repeat (first | exact nvL_nil | refine nvL_cons (by first | exact True.intro | exact nvSt (by decide) | exact nvD hb.1 | exact nvD ha.1 | exact n4.nv | exact n5.nv | exact n6.nv | exact n7.nv | exact n8.nv | exact n9.nv | exact n12.nv | exact n13.nv | exact n14.nv | exact n15.nv | exact n16.nv | exact n17.nv | exact n18.nv | exact n19.nv | exact n20.nv | exact nvK (by omega) (by omega)) ?_)) ⟨(by repeat (first | exact nvL_nil | refine nvL_cons (by first | exact True.intro | exact nvSt (by decide) | exact nvD hb.1 | exact nvD ha.1 | exact n4.nv | exact n5.nv | exact n6.nv | exact n7.nv | exact n8.nv | exact n9.nv | exact n12.nv | exact n13.nv | exact n14.nv | exact n15.nv | exact n16.nv | exact n17.nv | exact n18.nv | exact n19.nv | exact n20.nv | exact nvK (by omega) (by omega)) ?_)), rfl, Nat.le_of_ble_eq_true rfl⟩ (Ex_go (K_reason rc (Nat.le_of_ble_eq_true rfl) (w := 0) (by decide)) ?_)
  rw [rs_0]
  refine w_bip i117_304 kb_11 ?_
  refine w_cneF i117_306  rfl ?_
  refine w_ald0 i117_309 ?_
  refine w_const i117_310 kc_0 ?_
  refine w_const i117_311 kc_1 ?_
  refine w_VD3 i117_312 c79 (Or.inl rfl) (Or.inl ⟨by decide +kernel, by decide⟩) (by repeat (first | exact nvL_nil | refine nvL_cons (by first | exact True.intro | exact nvSt (by decide) | exact nvD hb.1 | exact nvD ha.1 | exact n4.nv | exact n5.nv | exact n6.nv | exact n7.nv | exact n8.nv | exact n9.nv | exact n12.nv | exact n13.nv | exact n14.nv | exact n15.nv | exact n16.nv | exact n17.nv | exact n18.nv | exact n19.nv | exact n20.nv | exact nvK (by omega) (by omega)) ?_)) ⟨(by repeat (first | exact nvL_nil | refine nvL_cons (by first | exact True.intro | exact nvSt (by decide) | exact nvD hb.1 | exact nvD ha.1 | exact n4.nv | exact n5.nv | exact n6.nv | exact n7.nv | exact n8.nv | exact n9.nv | exact n12.nv | exact n13.nv | exact n14.nv | exact n15.nv | exact n16.nv | exact n17.nv | exact n18.nv | exact n19.nv | exact n20.nv | exact nvK (by omega) (by omega)) ?_)), rfl, Nat.le_of_ble_eq_true rfl⟩ (Ex_go (K_reason rc (Nat.le_of_ble_eq_true rfl) (w := 0) (by decide)) ?_)
  rw [rs_1]
  refine w_ild2 i117_315 ?_
  refine w_cneF i117_316  rfl ?_
  refine w_const i117_319 kc_1 ?_
  refine w_goto i117_320 g117_320 ?_
  refine w_iand i117_339 (v := nI 1) (by decide) ?_
  refine w_ist3 i117_340 ?_
  exact hk D J S hb ha hc ra f
set_option maxHeartbeats 1000000 in
theorem fo_6b {d : Nat} {D : Mm} {Q : Option Value → Mm → Prop} {n B nx ob ar : Nat} {V : Nat → Int32} {hs : HsT} {u4 u5 u6 u7 u8 u9 u12 u13 u14 u15 u16 u17 u18 u19 u20 : Value} (n4 : nvQ u4) (n5 : nvQ u5) (n6 : nvQ u6) (n7 : nvQ u7) (n8 : nvQ u8) (n9 : nvQ u9) (n12 : nvQ u12) (n13 : nvQ u13) (n14 : nvQ u14) (n15 : nvQ u15) (n16 : nvQ u16) (n17 : nvQ u17) (n18 : nvQ u18) (n19 : nvQ u19) (n20 : nvQ u20) (J : CJ D n V B hs nx) (hB : B ≤ 8000) (S : Sav D n V B) (hb : dyn D ob 8) (ha : dyn D ar 20) (hc : cap D ar = 6) (h0 : ¬ mPooled V = 0) (hk : ∀ D2 hs2 nx2, CJ D2 (cl (itr (vSh (vParts n V)) 6 V 0)) (itr (vSh (vParts n V)) 6 V) (B + 30) hs2 nx2 → Sav D2 n V B → dyn D2 ob 8 → dyn D2 ar 20 → cap D2 ar = 6 → D2 ar = D ar → FrJ D D2 → Wp (d + 10) 117 Q 341 [.ref 0, .ref ob, .int (nI n), .int (nI 1), u4, u5, u6, u7, u8, .int (shrC n V 6), .ref ar, .int (shrC n V 6), .int (mPooled V), u13, u14, u15, u16, u17, u18, u19, u20] [] D2) : Wp (d + 10) 117 Q 271 [.ref 0, .ref ob, .int (nI n), .int (nI 1), u4, u5, u6, u7, u8, u9, .ref ar, .int (shrC n V 6), u12, u13, u14, u15, u16, u17, u18, u19, u20] [] D := by
  refine w_ald0 i117_271 ?_
  refine w_const i117_272 kc_5 ?_
  refine w_VD2 i117_273 c80 (Or.inl rfl) (Or.inl ⟨by decide +kernel, by decide⟩) (by repeat (first | exact nvL_nil | refine nvL_cons (by first | exact True.intro | exact nvSt (by decide) | exact nvD hb.1 | exact nvD ha.1 | exact n4.nv | exact n5.nv | exact n6.nv | exact n7.nv | exact n8.nv | exact n9.nv | exact n12.nv | exact n13.nv | exact n14.nv | exact n15.nv | exact n16.nv | exact n17.nv | exact n18.nv | exact n19.nv | exact n20.nv | exact nvK (by omega) (by omega)) ?_)) ⟨(by repeat (first | exact nvL_nil | refine nvL_cons (by first | exact True.intro | exact nvSt (by decide) | exact nvD hb.1 | exact nvD ha.1 | exact n4.nv | exact n5.nv | exact n6.nv | exact n7.nv | exact n8.nv | exact n9.nv | exact n12.nv | exact n13.nv | exact n14.nv | exact n15.nv | exact n16.nv | exact n17.nv | exact n18.nv | exact n19.nv | exact n20.nv | exact nvK (by omega) (by omega)) ?_)), rfl, Nat.le_of_ble_eq_true rfl⟩ (Ex_go (K_acc5 J.R J.h12 J.op (J.by_ (by omega))) ?_)
  refine w_ist12 i117_276 ?_
  refine w_ald0 i117_278 ?_
  refine w_VD1 i117_279 c60 (Or.inl rfl) (Or.inl ⟨by decide +kernel, by decide⟩) (by repeat (first | exact nvL_nil | refine nvL_cons (by first | exact True.intro | exact nvSt (by decide) | exact nvD hb.1 | exact nvD ha.1 | exact n4.nv | exact n5.nv | exact n6.nv | exact n7.nv | exact n8.nv | exact n9.nv | exact n12.nv | exact n13.nv | exact n14.nv | exact n15.nv | exact n16.nv | exact n17.nv | exact n18.nv | exact n19.nv | exact n20.nv | exact nvK (by omega) (by omega)) ?_)) ⟨(by repeat (first | exact nvL_nil | refine nvL_cons (by first | exact True.intro | exact nvSt (by decide) | exact nvD hb.1 | exact nvD ha.1 | exact n4.nv | exact n5.nv | exact n6.nv | exact n7.nv | exact n8.nv | exact n9.nv | exact n12.nv | exact n13.nv | exact n14.nv | exact n15.nv | exact n16.nv | exact n17.nv | exact n18.nv | exact n19.nv | exact n20.nv | exact nvK (by omega) (by omega)) ?_)), rfl, Nat.le_of_ble_eq_true rfl⟩ ?_
  have ey := sh_yes J.iv J.xg (by omega) h0
  refine J_D J (by omega) (fun x rs e => (inl_ne ey e).elim) (fun y V2 e hy D J f => ?_)
  obtain ⟨rfl, rfl⟩ := inr_eq ey e
  have hb := f.dy hb
  have ra := f ar (Or.inr (Or.inr (by have := dyn_ge ha; omega)))
  have ha := f.dy ha
  have hc : cap D ar = 6 := by unfold cap; rw [ra]; exact hc
  have S := S.fr f
  refine w_ist9 i117_282 ?_
  refine w_ild3 i117_284 ?_
  refine w_ild12 i117_285 ?_
  refine w_ineT i117_287 g117_287  h0 ?_
  refine w_ild9 i117_327 ?_
  refine w_ild11 i117_329 ?_
  refine w_cneF i117_331  rfl ?_
  refine w_const i117_334 kc_1 ?_
  refine w_goto i117_335 g117_335 ?_
  refine w_iand i117_339 (v := nI 1) (by decide) ?_
  refine w_ist3 i117_340 ?_
  exact hk D _ _ J S hb ha hc ra f
set_option maxHeartbeats 1000000 in
theorem fo_7s {d : Nat} {D : Mm} {Q : Option Value → Mm → Prop} {n B nx ob ar : Nat} {V : Nat → Int32} {hs : HsT} {u4 u5 u6 u7 u8 u9 u11 u12 u13 u14 u15 u16 u17 u18 u19 u20 : Value} (n4 : nvQ u4) (n5 : nvQ u5) (n6 : nvQ u6) (n7 : nvQ u7) (n8 : nvQ u8) (n9 : nvQ u9) (n11 : nvQ u11) (n12 : nvQ u12) (n13 : nvQ u13) (n14 : nvQ u14) (n15 : nvQ u15) (n16 : nvQ u16) (n17 : nvQ u17) (n18 : nvQ u18) (n19 : nvQ u19) (n20 : nvQ u20) (hk : Wp (d + 10) 117 Q 344 [.ref 0, .ref ob, .int (nI n), .int (nI 1), u4, u5, u6, u7, u8, u9, .ref ar, u11, u12, .int (nI 0), u14, u15, u16, u17, u18, u19, u20] [] D) : Wp (d + 10) 117 Q 341 [.ref 0, .ref ob, .int (nI n), .int (nI 1), u4, u5, u6, u7, u8, u9, .ref ar, u11, u12, u13, u14, u15, u16, u17, u18, u19, u20] [] D := by
  refine w_const i117_341 kc_0 ?_
  refine w_ist13 i117_342 ?_
  exact hk
set_option maxHeartbeats 1000000 in
theorem fo_7n {d : Nat} {D : Mm} {Q : Option Value → Mm → Prop} {n B nx ob ar j : Nat} {V : Nat → Int32} {hs : HsT} {u4 u5 u6 u7 u8 u9 u11 u12 u14 u15 u16 u17 u18 u19 u20 : Value} (n4 : nvQ u4) (n5 : nvQ u5) (n6 : nvQ u6) (n7 : nvQ u7) (n8 : nvQ u8) (n9 : nvQ u9) (n11 : nvQ u11) (n12 : nvQ u12) (n14 : nvQ u14) (n15 : nvQ u15) (n16 : nvQ u16) (n17 : nvQ u17) (n18 : nvQ u18) (n19 : nvQ u19) (n20 : nvQ u20) (hj : j < 6) (hk : Wp (d + 10) 117 Q 351 [.ref 0, .ref ob, .int (nI n), .int (nI 1), u4, u5, u6, u7, u8, u9, .ref ar, u11, u12, .int (nI j), u14, u15, u16, u17, u18, u19, u20] [] D) : Wp (d + 10) 117 Q 344 [.ref 0, .ref ob, .int (nI n), .int (nI 1), u4, u5, u6, u7, u8, u9, .ref ar, u11, u12, .int (nI j), u14, u15, u16, u17, u18, u19, u20] [] D := by
  refine w_ild13 i117_344 ?_
  refine w_bip i117_346 kb_6 ?_
  refine w_cgeNF i117_348 (by omega) (by omega) hj ?_
  exact hk
set_option maxHeartbeats 1000000 in
theorem fo_7z {d : Nat} {D : Mm} {Q : Option Value → Mm → Prop} {n B nx ob ar : Nat} {V : Nat → Int32} {hs : HsT} {u4 u5 u6 u7 u8 u9 u11 u12 u14 u15 u16 u17 u18 u19 u20 : Value} (n4 : nvQ u4) (n5 : nvQ u5) (n6 : nvQ u6) (n7 : nvQ u7) (n8 : nvQ u8) (n9 : nvQ u9) (n11 : nvQ u11) (n12 : nvQ u12) (n14 : nvQ u14) (n15 : nvQ u15) (n16 : nvQ u16) (n17 : nvQ u17) (n18 : nvQ u18) (n19 : nvQ u19) (n20 : nvQ u20) (hk : Wp (d + 10) 117 Q 380 [.ref 0, .ref ob, .int (nI n), .int (nI 1), u4, u5, u6, u7, u8, u9, .ref ar, u11, u12, .int (nI 6), u14, u15, u16, u17, u18, u19, u20] [] D) : Wp (d + 10) 117 Q 344 [.ref 0, .ref ob, .int (nI n), .int (nI 1), u4, u5, u6, u7, u8, u9, .ref ar, u11, u12, .int (nI 6), u14, u15, u16, u17, u18, u19, u20] [] D := by
  refine w_ild13 i117_344 ?_
  refine w_bip i117_346 kb_6 ?_
  refine w_cgeNT i117_348 g117_348 (by omega) (by omega) (Nat.le_refl _) ?_
  exact hk
set_option maxHeartbeats 1000000 in
theorem fo_7b {d : Nat} {D : Mm} {Q : Option Value → Mm → Prop} {n B nx ob ar j m : Nat} {V : Nat → Int32} {hs : HsT} {W : Nat → Int32} {u4 u5 u6 u7 u8 u9 u11 u12 u14 u15 u16 u17 u18 u19 u20 : Value} (n4 : nvQ u4) (n5 : nvQ u5) (n6 : nvQ u6) (n7 : nvQ u7) (n8 : nvQ u8) (n9 : nvQ u9) (n11 : nvQ u11) (n12 : nvQ u12) (n14 : nvQ u14) (n15 : nvQ u15) (n16 : nvQ u16) (n17 : nvQ u17) (n18 : nvQ u18) (n19 : nvQ u19) (n20 : nvQ u20) (R : Rel D m W) (h12 : m ≤ 12) (hop : opV W) (hb : dyn D ob 8) (ha : dyn D ar 20) (hc : cap D ar = 6) (he : ∀ k, k < 6 → W (6 + 4 * k + 2) = D ar k) (hj : j < 6) (hk : Wp (d + 10) 117 Q 344 [.ref 0, .ref ob, .int (nI n), .int (nI 1), u4, u5, u6, u7, u8, u9, .ref ar, u11, u12, .int (nI (j + 1)), u14, u15, u16, u17, u18, u19, u20] [] D) : Wp (d + 10) 117 Q 351 [.ref 0, .ref ob, .int (nI n), .int (nI 1), u4, u5, u6, u7, u8, u9, .ref ar, u11, u12, .int (nI j), u14, u15, u16, u17, u18, u19, u20] [] D := by
  refine w_ild3 i117_351 ?_
  refine w_ald0 i117_352 ?_
  refine w_ild13 i117_353 ?_
  refine w_const i117_355 kc_2 ?_
  refine w_VD3 i117_356 c67 (Or.inl rfl) (Or.inl ⟨by decide +kernel, by decide⟩) (by repeat (first | exact nvL_nil | refine nvL_cons (by first | exact True.intro | exact nvSt (by decide) | exact nvD hb.1 | exact nvD ha.1 | exact n4.nv | exact n5.nv | exact n6.nv | exact n7.nv | exact n8.nv | exact n9.nv | exact n11.nv | exact n12.nv | exact n14.nv | exact n15.nv | exact n16.nv | exact n17.nv | exact n18.nv | exact n19.nv | exact n20.nv | exact nvK (by omega) (by omega)) ?_)) ⟨(by repeat (first | exact nvL_nil | refine nvL_cons (by first | exact True.intro | exact nvSt (by decide) | exact nvD hb.1 | exact nvD ha.1 | exact n4.nv | exact n5.nv | exact n6.nv | exact n7.nv | exact n8.nv | exact n9.nv | exact n11.nv | exact n12.nv | exact n14.nv | exact n15.nv | exact n16.nv | exact n17.nv | exact n18.nv | exact n19.nv | exact n20.nv | exact nvK (by omega) (by omega)) ?_)), rfl, Nat.le_of_ble_eq_true rfl⟩ (Ex_go (K_houseOf_2 R h12 hop hj) ?_)
  refine w_ald10 i117_359 ?_
  refine w_ild13 i117_361 ?_
  refine w_ialD i117_363 ha (by rw [hc]; exact hj) (by rw [hc]; decide) (he j hj).symm ?_
  refine w_cneF i117_364  rfl ?_
  refine w_const i117_367 kc_1 ?_
  refine w_goto i117_368 g117_368 ?_
  refine w_iand i117_372 (v := nI 1) (by decide) ?_
  refine w_ist3 i117_373 ?_
  refine w_inc13 i117_374 (inc1 _) ?_
  refine w_goto i117_377 g117_377 ?_
  exact hk
theorem fo_7l {d : Nat} {D : Mm} {Q : Option Value → Mm → Prop} {ob ar n m : Nat} {W : Nat → Int32} {u4 u5 u6 u7 u8 u9 u11 u12 u14 u15 u16 u17 u18 u19 u20 : Value} (n4 : nvQ u4) (n5 : nvQ u5) (n6 : nvQ u6) (n7 : nvQ u7) (n8 : nvQ u8) (n9 : nvQ u9) (n11 : nvQ u11) (n12 : nvQ u12) (n14 : nvQ u14) (n15 : nvQ u15) (n16 : nvQ u16) (n17 : nvQ u17) (n18 : nvQ u18) (n19 : nvQ u19) (n20 : nvQ u20) (R : Rel D m W) (h12 : m ≤ 12) (hop : opV W) (hb : dyn D ob 8) (ha : dyn D ar 20) (hc : cap D ar = 6) (he : ∀ k, k < 6 → W (6 + 4 * k + 2) = D ar k) (hk : Wp (d + 10) 117 Q 380 [.ref 0, .ref ob, .int (nI n), .int (nI 1), u4, u5, u6, u7, u8, u9, .ref ar, u11, u12, .int (nI 6), u14, u15, u16, u17, u18, u19, u20] [] D) : ∀ (k j : Nat), j + k = 6 → Wp (d + 10) 117 Q 344 [.ref 0, .ref ob, .int (nI n), .int (nI 1), u4, u5, u6, u7, u8, u9, .ref ar, u11, u12, .int (nI j), u14, u15, u16, u17, u18, u19, u20] [] D
  | 0, j, hj => by
    have e : j = 6 := hj
    subst e
    exact fo_7z (n := n) (B := 0) (nx := 0) (V := W) (hs := []) n4 n5 n6 n7 n8 n9 n11 n12 n14 n15 n16 n17 n18 n19 n20 hk
  | k + 1, j, hj => by
    have hj6 : j < 6 := by omega
    have h1 : j + 1 + k = 6 := by omega
    refine fo_7n (n := n) (B := 0) (nx := 0) (V := W) (hs := []) n4 n5 n6 n7 n8 n9 n11 n12 n14 n15 n16 n17 n18 n19 n20 hj6 ?_
    exact fo_7b (n := n) (B := 0) (nx := 0) (V := W) (hs := []) n4 n5 n6 n7 n8 n9 n11 n12 n14 n15 n16 n17 n18 n19 n20 R h12 hop hb ha hc he hj6 (fo_7l n4 n5 n6 n7 n8 n9 n11 n12 n14 n15 n16 n17 n18 n19 n20 R h12 hop hb ha hc he hk k (j + 1) h1)
set_option maxHeartbeats 1000000 in
theorem fo_8 {d : Nat} {D : Mm} {Q : Option Value → Mm → Prop} {n B nx ob ar m C : Nat} {V : Nat → Int32} {hs : HsT} {W : Nat → Int32} {u4 u5 u6 u7 u8 u9 u11 u12 u13 u14 u15 u16 u17 u18 u19 u20 : Value} (n4 : nvQ u4) (n5 : nvQ u5) (n6 : nvQ u6) (n7 : nvQ u7) (n8 : nvQ u8) (n9 : nvQ u9) (n11 : nvQ u11) (n12 : nvQ u12) (n13 : nvQ u13) (n14 : nvQ u14) (n15 : nvQ u15) (n16 : nvQ u16) (n17 : nvQ u17) (n18 : nvQ u18) (n19 : nvQ u19) (n20 : nvQ u20) (J : CJ D m W C hs nx) (S : Sav D n V B) (hC : B ≤ C) (hb : dyn D ob 8) (ha : dyn D ar 20) (hk : ∀ D2, CJ D2 n V B [] nx → Sav D2 n V B → FrJ D D2 → dyn D2 ob 8 → dyn D2 ar 20 → Wp (d + 10) 117 Q 396 [.ref 0, .ref ob, .int (nI n), .int (nI 1), u4, u5, u6, u7, u8, u9, .ref ar, u11, u12, u13, u14, u15, u16, u17, u18, u19, u20] [] D2) : Wp (d + 10) 117 Q 380 [.ref 0, .ref ob, .int (nI n), .int (nI 1), u4, u5, u6, u7, u8, u9, .ref ar, u11, u12, u13, u14, u15, u16, u17, u18, u19, u20] [] D := by
  refine w_ild3 i117_380 ?_
  refine w_ald0 i117_381 ?_
  refine w_VD1 i117_382 c84 (Or.inl rfl) (Or.inl ⟨by decide +kernel, by decide⟩) (by repeat (first | exact nvL_nil | refine nvL_cons (by first | exact True.intro | exact nvSt (by decide) | exact nvD hb.1 | exact nvD ha.1 | exact n4.nv | exact n5.nv | exact n6.nv | exact n7.nv | exact n8.nv | exact n9.nv | exact n11.nv | exact n12.nv | exact n13.nv | exact n14.nv | exact n15.nv | exact n16.nv | exact n17.nv | exact n18.nv | exact n19.nv | exact n20.nv | exact nvK (by omega) (by omega)) ?_)) ⟨(by repeat (first | exact nvL_nil | refine nvL_cons (by first | exact True.intro | exact nvSt (by decide) | exact nvD hb.1 | exact nvD ha.1 | exact n4.nv | exact n5.nv | exact n6.nv | exact n7.nv | exact n8.nv | exact n9.nv | exact n11.nv | exact n12.nv | exact n13.nv | exact n14.nv | exact n15.nv | exact n16.nv | exact n17.nv | exact n18.nv | exact n19.nv | exact n20.nv | exact nvK (by omega) (by omega)) ?_)), rfl, Nat.le_of_ble_eq_true rfl⟩ ?_
  refine J_rest J S hC (fun D J S f => ?_)
  have hb := f.dy hb
  have ha := f.dy ha
  refine w_ild2 i117_385 ?_
  refine w_cneF i117_386  rfl ?_
  refine w_const i117_389 kc_1 ?_
  refine w_goto i117_390 g117_390 ?_
  refine w_iand i117_394 (v := nI 1) (by decide) ?_
  refine w_ist3 i117_395 ?_
  exact hk D J S f hb ha
