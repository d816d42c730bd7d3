/-! the law's body, whole -/
set_option maxHeartbeats 1000000 in
theorem la_8 {d : Nat} {D : Mm} {Q : Option Value → Mm → Prop} (J : CJ D 0 (vF 6) 0 [] 0) (hk : ∀ D2 n B V hs nx m, CJ D2 n V B hs nx → B ≤ 480 → FrJ D D2 → 0 < m → m < 1000000 → Wp (d + 11) 218 Q 271 [.ref 4000, .ref 0, .int (nI 0), .int (nI m), .int (nI 0), .retAddr 0, .retAddr 0, .retAddr 0, .retAddr 0, .retAddr 0] [] D2) : Wp (d + 11) 218 Q 263 [.ref 4000, .ref 0, .int (nI 0), .retAddr 0, .retAddr 0, .retAddr 0, .retAddr 0, .retAddr 0, .retAddr 0, .retAddr 0] [] D := by
  refine w_ald1 i218_263 ?_
  refine w_SD1 i218_264 c112 rfl (by repeat (first | exact nvL_nil | refine nvL_cons (by first | exact True.intro | exact nvSt (by decide) | exact nvK (by omega) (by omega)) ?_)) ⟨(by repeat (first | exact nvL_nil | refine nvL_cons (by first | exact True.intro | exact nvSt (by decide) | exact nvK (by omega) (by omega)) ?_)), rfl, Nat.le_of_ble_eq_true rfl⟩ ?_
  refine KL_stock J (fun D2 n B V hs nx m J hB F hm hm2 => ?_)
  refine w_ist3 i218_267 ?_
  refine w_const i218_268 kc_0 ?_
  refine w_ist4 i218_269 ?_
  exact hk D2 n B V hs nx m J hB F hm hm2
set_option maxHeartbeats 1000000 in
theorem la_loop {d L mm : Nat} (hm : 0 < mm) (hm2 : mm < 1000000) (hLm : L ≤ 260) : ∀ (k i : Nat) (D : Mm) (n B nx : Nat) (V : Nat → Int32) (hs : HsT) (ln : List Nat) (u5 u6 u7 u8 u9 : Value), i + k = 16 → CJ D n V B hs nx → B ≤ 480 + 30 * i → SbR D 170 ln → cap D 4000 = L → nxt D ≤ usd D → usd D ≤ 30309 * i → nvV D u5 → nvV D u6 → nvV D u7 → nvV D u8 → nvV D u9 → Wp (d + 11) 218 lawQ 271 [.ref 4000, .ref 0, .int (nI (2 * i)), .int (nI mm), .int (nI i), u5, u6, u7, u8, u9] [] D
  | 0, i, D, n, B, nx, V, hs, ln, u5, u6, u7, u8, u9, hk, J, hB, S, hL, hu0, hu, n5, n6, n7, n8, n9 => by
    have e : i = 16 := hk
    subst e
    refine la_7 hm hm2 ⟨rfl, ?_⟩
    have h1 : cap D 181 ≤ 300 := J.2.2.2.2.2.2.1
    have h2 : cap D 182 ≤ 300 := S.2.2.2.1
    unfold pot
    omega
  | k + 1, i, D, n, B, nx, V, hs, ln, u5, u6, u7, u8, u9, hk, J, hB, S, hL, hu0, hu, n5, n6, n7, n8, n9 => by
    have hBE := DBv
    have hi : i < 16 := by omega
    have hc := J.cn.2
    refine la_1 n5 n6 n7 n8 n9 hL hLm (by omega) hi hu0 (by omega) (fun D1 Y ob hY hb eo f1 q1 q2 => ?_)
    have J1 := J.re (D2 := D1) (fun q a _ => f1 q (by omega) (by omega))
    have S1 := S.fr (D2 := D1) (f1 170 (by omega) (by decide)) (f1 182 (by omega) (by decide))
    have hle : nxt D ≤ nxt D1 := by omega
    -- a round's end
    have TL : ∀ (D4 : Mm) (n4 B4 nx4 s : Nat) (V4 : Nat → Int32) (hs4 : HsT) (ln4 : List Nat) (y9 : Int32), CJ D4 n4 V4 B4 hs4 nx4 → B4 ≤ 480 + 30 * (i + 1) → SbR D4 170 ln4 → dyn D4 ob 8 → dv D4 s → D4 4000 = D1 4000 → nxt D1 ≤ nxt D4 → nxt D4 ≤ usd D4 → usd D4 ≤ usd D1 + 10600 → Wp (d + 11) 218 lawQ 421 [.ref 4000, .ref 0, .int (nI (2 * i + 2)), .int (nI mm), .int (nI i), .int (nI Y), .ref ob, .int (nI hs4.length), .ref s, .int y9] [] D4 := by
      intro D4 n4 B4 nx4 s V4 hs4 ln4 y9 J4 hB4 S4 hb4 hd4 r4 hn4 hu4 hl4
      refine la_4 J4 (by omega) S4 hb4 hd4 hu4 (by omega) (fun D5 ln5 J5 S5 hb5 hd5 F5 hn5 hu5 hl5 => ?_)
      have go4 := dyn_ge hb4
      have go5 := dyn_ge hb5
      have r5 : D5 4000 = D1 4000 := (F5 4000 (by decide) (by omega) (by decide) (by decide) (by decide) (by omega)).trans r4
      have e2 : 2 * i + 2 = 2 * (i + 1) := by omega
      have h1 : i + 1 + k = 16 := by omega
      have L0 : cap D1 4000 = L := by unfold cap; rw [f1 4000 (by omega) (by decide)]; exact hL
      have hu1' : usd D1 ≤ 30309 * i + 2 := by omega
      by_cases h3 : i % 3 = 2
      · refine la_5y True.intro True.intro J5 (by omega) S5 hb5 hd5 hu5 (by omega) hi h3 (fun D6 s6 nx6 ln6 J6 S6 hb6 hd6 F6 hn6 hu6 hl6 => ?_)
        refine la_6 ?_
        rw [e2]
        exact la_loop hm hm2 hLm k (i + 1) D6 n4 B4 nx6 V4 [] ln6 _ _ _ _ _ h1 J6 hB4 S6 (by unfold cap; rw [F6 4000 (by decide) (by omega) (by decide) (by decide) (by decide) (by omega), r5]; exact L0) hu6 (by omega) True.intro (nvD hb6.1) True.intro (nvD hd6) True.intro
      · refine la_5n (D := D5) (n := n) (B := B) (nx := nx) (V := V) (hs := hs) (ln := ln) True.intro True.intro hi h3 ?_
        refine la_6 ?_
        rw [e2]
        exact la_loop hm hm2 hLm k (i + 1) D5 n4 B4 nx4 V4 hs4 ln5 _ _ _ _ _ h1 J5 hB4 S5 (by unfold cap; rw [r5]; exact L0) hu5 (by omega) True.intro (nvD hb5.1) True.intro (nvD hd5) True.intro
    have g1 := dyn_ge hb
    refine la_2 (nv_le n7 hle) (nv_le n8 hle) (nv_le n9 hle) J1 (by omega) S1 hb hY (by omega) (by omega) (fun x D2 s nb ln2 hx J2 T2 S2 hb2 F2 hn2 hu2 hl2 => ?_) (fun a m W D2 s nb ln2 ha J2 T2 S2 hb2 F2 hn2 hu2 hl2 => ?_)
    · have r2 : D2 4000 = D1 4000 := F2 4000 (by decide) (by omega) (by decide) (by decide) (by decide) (by omega)
      refine la_3r J2 (by omega) S2 T2 hb2 hu2 (by omega) hx hc (fun D3 ln3 J3 S3 hb3 hd3 F3 hn3 hu3 hl3 => ?_)
      exact TL D3 n B nx s V hs ln3 x J3 (by omega) S3 hb3 hd3 ((F3 4000 (by decide) (by omega) (by decide) (by decide) (by decide) (by omega)).trans r2) (by omega) hu3 (by omega)
    · have r2 : D2 4000 = D1 4000 := F2 4000 (by decide) (by omega) (by decide) (by decide) (by decide) (by omega)
      have eL : (hs.take 7).length = min 7 hs.length := List.length_take
      have eT : nI (hs.take 7).length = nI (min 7 hs.length) := by rw [eL]
      refine la_3d J2 (by omega) S2 T2 hb2 hu2 (by omega) ha hc eT (fun D3 nx3 ln3 J3 S3 hb3 hd3 F3 hn3 hu3 hl3 => ?_) (fun D3 J3 S3 hb3 hd3 F3 hn3 hu3 hl3 => ?_)
      · have t := TL D3 n (B + 30) nx3 s V (hs.take 7) ln3 a J3 (by omega) S3 hb3 hd3 ((F3 4000 (by decide) (by omega) (by decide) (by decide) (by decide) (by omega)).trans r2) (by omega) hu3 (by omega)
        rw [eT] at t
        exact t
      · have t := TL D3 m (B + 30) _ s W ((n, V) :: hs.take 7) ln2 a J3 (by omega) S3 hb3 hd3 ((F3 4000 (by decide) (by omega) (by decide) (by decide) (by decide) (by omega)).trans r2) (by omega) hu3 (by omega)
        rw [show nI ((n, V) :: hs.take 7).length = nI (min 8 (hs.length + 1)) by rw [List.length_cons, eL]; exact congrArg nI (by omega)] at t
        exact t
theorem law_runs : LawRuns := fun scr L hL => by
  obtain ⟨J0, S0, h0⟩ := J_start (scr := scr) (L := L)
  have hr : RsC (D0 scr L) [] := by
    show D0 scr L 157 2 = nI 0
    rw [D0_ne (by decide)]
    decide +kernel
  refine la_0 (d := 3) J0 S0 h0 hr (fun D1 J1 F1 => ?_)
  refine la_8 J1 (fun D2 n B V hs nx m J2 hB F2 hm1 hm2 => ?_)
  have r : ∀ q, (q = 170 ∨ 182 ≤ q) → D2 q = D0 scr L q := fun q a => (F2 q (by omega)).trans (F1 q a)
  have en := nx_of (r 4500 (by omega))
  rw [D0_nxt, D0_usd] at en
  have hL2 : cap D2 4000 = L := by
    unfold cap
    rw [r 4000 (by omega), D0_len]
    exact nI_clamp (by omega)
  exact la_loop hm1 hm2 hL 16 0 D2 n B nx V hs [] _ _ _ _ _ (Nat.zero_add _) J2 (by omega) (S0.fr (r 170 (Or.inl rfl)) (r 182 (Or.inr (Nat.le_refl _)))) hL2 (by omega) (by omega) True.intro True.intro True.intro True.intro True.intro
