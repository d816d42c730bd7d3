/-! the law's stubs -/
theorem wic_n {n B : Nat} {V : Nat → Int32} (H : IV n V B) : sN6 n (wic V) ≤ 12 := by
  have h12 := H.2.1
  have := sN6_c (f := wic V) (c := 1) n (fun i _ => by unfold wic; split <;> omega)
  omega
theorem su_loop {d : Nat} {Db : Mm} {Q : Option Value → Mm → Prop} {n B ar : Nat} {V : Nat → Int32} (R0 : Rel Db n V) (H : IV n V B) (hB : B ≤ 9000) (X : XG n V B) (har : DB + nxt Db ≤ ar) (hU : usd Db ≤ 600000) (hq : ∀ D2 ln2, FrT Db D2 → SbR D2 170 ln2 → nxt D2 ≤ usd D2 → usd D2 ≤ usd Db + 6800 → Q (some (.int (nI 1))) D2) : ∀ (k s : Nat) (D : Mm) (l3 : Int32) (l5 l6 l7 l8 l9 l10 l11 : Value) (ln : List Nat), s + k = n → FrT Db D → SbR D 170 ln → dyn D ar 20 → cap D ar = 3 → nxt D ≤ usd D → usd D ≤ usd Db + 4 + 560 * s → D ar 0 = nI (sN6 s (wxc V)) → D ar 1 = nI (sN6 s (dbc V)) → D ar 2 = nI (sN6 s (wic V)) → ((s = 0 ∧ l3 = -1) ∨ (0 < s ∧ ∃ r0, r0 < n ∧ rkN n (ordK (ligN V) (debN V)) r0 = s - 1 ∧ l3 = nI r0)) → nvV D l5 → nvV D l6 → nvV D l7 → nvV D l8 → nvV D l9 → nvV D l10 → nvV D l11 →
    Wp (d + 10) 113 Q 15 [.ref 0, .int (nI n), .ref ar, .int l3, .int (nI s), l5, l6, l7, l8, l9, l10, l11] [] D
  | 0, s, D, l3, l5, l6, l7, l8, l9, l10, l11, ln, hk, F, S, ha, hc, hn, hu, e0, e1, e2, hl, n5, n6, n7, n8, n9, n10, n11 => by
    have e : s = n := hk
    subst e
    have h12 := H.2.1
    have R := F.rel R0
    have hw := sN6_c (f := wxc V) (c := 30) s (fun i hi => (wx_nat H hi).2)
    have hd := sN6_c (f := dbc V) (c := 90) s (fun i hi => (db_nat H hi).2)
    have fin : Q (some (.int (nI 1))) D := hq D ln F S hn (by omega)
    have hby : byV s V := (H.hc (by omega)).2.2.1
    by_cases z : s = 0
    · exact su_x1 n5 n6 n7 n8 n9 n10 n11 R H hby ha hc z e0 e1 e2 (by omega) (wic_n H) (by omega) (ofAll_nat H) (debts_nat H) writs_nat fin
    · exact su_x0 n5 n6 n7 n8 n9 n10 n11 R H hby ha hc z e0 e1 e2 (by omega) (wic_n H) (by omega) (ofAll_nat H) (debts_nat H) writs_nat fin
  | k + 1, s, D, l3, l5, l6, l7, l8, l9, l10, l11, ln, hk, F, S, ha, hc, hn, hu, e0, e1, e2, hl, n5, n6, n7, n8, n9, n10, n11 => by
    have h12 := H.2.1
    have hBE := DBv
    refine su_body n5 n6 n7 n8 n9 n10 n11 (F.rel R0) H X (show s < n by omega) S ha hc hn (by omega) e0 e1 e2 hl (fun D2 r sd x5 x6 x7 x11 ln2 hr hrk f hle S2 ha2 hc2 hn2 hu2 q0 q1 q2 hsd => ?_)
    have hF := F.2
    have F2 : FrT Db D2 := ⟨fun q a1 a2 a3 a4 => (f q (by omega) a2 a3 a4 (by omega)).trans (F.1 q a1 a2 a3 a4), by omega⟩
    have p0 : D2 ar 0 = nI (sN6 (s + 1) (wxc V)) := q0
    have p1 : D2 ar 1 = nI (sN6 (s + 1) (dbc V)) := q1
    have p2 : D2 ar 2 = nI (sN6 (s + 1) (wic V)) := q2
    have u2 : usd D2 ≤ usd Db + 4 + 560 * (s + 1) := Nat.le_trans hu2 (by rw [Nat.mul_succ, ← Nat.add_assoc]; exact Nat.add_le_add_right hu 560)
    have hs1 : s + 1 + k = n := by omega
    have hl2 : (s + 1 = 0 ∧ nI r = -1) ∨ (0 < s + 1 ∧ ∃ r0, r0 < n ∧ rkN n (ordK (ligN V) (debN V)) r0 = s + 1 - 1 ∧ nI r = nI r0) := Or.inr ⟨Nat.succ_pos s, r, hr, by rw [hrk, Nat.add_sub_cancel], rfl⟩
    have m8 : nvV D2 (.ref sd) := nvD hsd
    exact su_loop R0 H hB X har hU hq k (s + 1) D2 (nI r) (.int x5) (.int x6) (.int x7) (.ref sd) (.int (nI 1)) (.int (nI r)) (.int x11) ln2 hs1 F2 S2 ha2 hc2 hn2 u2 p0 p1 p2 hl2 True.intro True.intro True.intro m8 True.intro True.intro True.intro
set_option maxHeartbeats 100000 in
theorem KL_stubs {d : Nat} {D : Mm} {Q : Option Value → Mm → Prop} {n B : Nat} {V : Nat → Int32} {ln : List Nat} (R : Rel D n V) (H : IV n V B) (hB : B ≤ 9000) (X : XG n V B) (S : SbR D 170 ln) (hu0 : nxt D ≤ usd D) (hu1 : usd D ≤ 600000) (hq : ∀ D2 ln2, FrT D D2 → SbR D2 170 ln2 → nxt D2 ≤ usd D2 → usd D2 ≤ usd D + 6800 → Q (some (.int (nI 1))) D2) : Ct (d + 11) 113 [.ref 0] D Q := by
  have hBE := DBv
  have hf : fitU D 3 := ⟨by omega, hu0⟩
  refine ent m113 rfl rfl (ls := [.ref 0, .retAddr 0, .retAddr 0, .retAddr 0, .retAddr 0, .retAddr 0, .retAddr 0, .retAddr 0, .retAddr 0, .retAddr 0, .retAddr 0, .retAddr 0]) rfl ?_
  refine w_ald0 i113_0 ?_
  refine w_const i113_1 kc_0 ?_
  refine w_VD2 i113_2 c80 (Or.inl rfl) (Or.inl ⟨by decide +kernel, by decide⟩) (by repeat (first | exact nvL_nil | refine nvL_cons (by first | exact True.intro | exact nvSt (by decide) | exact nvD hda | exact nvK (by omega) (by omega)) ?_)) ⟨(by repeat (first | exact nvL_nil | refine nvL_cons (by first | exact True.intro | exact nvSt (by decide) | exact nvD hda | exact nvK (by omega) (by omega)) ?_)), rfl, Nat.le_of_ble_eq_true rfl⟩ (Ex_go (K_acc0 R H.2.1 H.op (H.hc (by omega)).2.2.1) ?_)
  refine w_ist1 i113_5 ?_
  refine w_const i113_6 kc_3 ?_
  refine w_nai i113_7 (j := 3) (by decide) (nvL_ok (by repeat (first | exact nvL_nil | refine nvL_cons (by first | exact True.intro | exact nvSt (by decide) | exact nvD hda | exact nvK (by omega) (by omega)) ?_))) (nvL_ok nvL_nil) hf ?_
  refine w_ast2 i113_9 ?_
  refine w_const i113_10 kc_m1 ?_
  refine w_ist3 i113_11 ?_
  refine w_const i113_12 kc_0 ?_
  refine w_ist4 i113_13 ?_
  have ha : dyn (alD D (rwA 20 3) 3) (DB + nxt D) 20 := dyn_new hf (by rw [rwA_k]; exact nI_clamp (by omega))
  have f0 : Fr0 D (alD D (rwA 20 3) 3) := FrL.al hf (Nat.le_refl _)
  have z : ∀ j, j < 3 → alD D (rwA 20 3) 3 (DB + nxt D) j = nI 0 := fun j hj => by rw [al_new, rwA_0 (by unfold LEN; omega)]; rfl
  exact su_loop R H hB X (Nat.le_refl _) hu1 hq n 0 _ (-1) _ _ _ _ _ _ _ ln (Nat.zero_add _) f0.t (f0.sb (Or.inr rfl) S) ha (cap_new (by omega)) (by rw [al_nxt hf, al_usd hf]; omega) (by rw [al_usd hf]; omega) (z 0 (by decide)) (z 1 (by decide)) (z 2 (by decide)) (Or.inl ⟨rfl, rfl⟩) True.intro True.intro True.intro True.intro True.intro True.intro True.intro
