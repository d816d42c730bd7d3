/-! the law's houses -/
theorem hs_all {d : Nat} {Db : Mm} {Q : Option Value → Mm → Prop} {n B o : Nat} {V : Nat → Int32} {ln : List Nat} (R0 : Rel Db n V) (H : IV n V B) (hB : B ≤ 9000) (X : XG n V B) (S0 : SbR Db 170 ln) (hU : usd Db ≤ 480000) (hq : ∀ D2, FrH Db D2 → SbR D2 170 (thV V) → nxt D2 ≤ usd D2 → usd D2 ≤ usd Db + 2300 → Q (some (.int (nI 1))) D2) : ∀ (k h : Nat) (D : Mm) (b uu : Nat) (l5 : Int32) (u8 u9 u10 u11 u12 u13 u14 u15 u16 : Value), h + k = 6 → SbX D (nxt Db) 80 uu o b (thL (opc V) (stc V) (poc V) h) → uu ≤ usd Db + 5 + 210 * h → FrL (nxt Db) Db D → ((h = 0 ∧ l5 = -1) ∨ (0 < h ∧ ∃ r0, r0 < 6 ∧ rkN 6 (ordK (clmI n V) (stoI V)) r0 = h - 1 ∧ l5 = nI r0)) → nvQ u8 → nvQ u9 → nvQ u10 → nvQ u11 → nvQ u12 → nvQ u13 → nvQ u14 → nvQ u15 → nvQ u16 →
    Wp (d + 10) 114 Q 24 [.ref 0, .int (nI (sN6 (h) (opc V))), .int (nI (sN6 (h) (stc V))), .int (nI (sN6 (h) (poc V))), .int (nI (sN6 (h) (clmN n V))), .int l5, .ref o, .int (nI h), u8, u9, u10, u11, u12, u13, u14, u15, u16] [] D
  | 0, h, D, b, uu, l5, u8, u9, u10, u11, u12, u13, u14, u15, u16, hk, g, hu, f, hl, n8, n9, n10, n11, n12, n13, n14, n15, n16 => by
    have e : h = 6 := hk
    subst e
    have hcp := g.cpm
    have hus := g.us
    have f0 : Fr0 Db D := f
    refine hs_hz ?_
    exact hs_g n8 n9 n10 n11 n12 n13 n14 n15 n16 (f.rel R0) H hB g (f0.sb (Or.inr rfl) S0) (by omega) (by omega) (fun D2 f2 s2 hn2 hu2 => hq D2 (f0.t.h.tr f2) s2 hn2 (by omega))
  | k + 1, h, D, b, uu, l5, u8, u9, u10, u11, u12, u13, u14, u15, u16, hk, g, hu, f, hl, n8, n9, n10, n11, n12, n13, n14, n15, n16 => by
    have hh : h < 6 := by omega
    refine hs_body n8 n9 n10 n11 n12 n13 n14 n15 n16 (f.rel R0) H hB X hh g (by omega) hl (fun D2 b2 u2 r u8 u9 u10 u11 u12 u13 u14 u15 u16 g2 hu2 f2 hr hrk n8 n9 n10 n11 n12 n13 n14 n15 n16 => ?_)
    have h1 : h + 1 + k = 6 := by omega
    have hl2 : (h + 1 = 0 ∧ nI r = -1) ∨ (0 < h + 1 ∧ ∃ r0, r0 < 6 ∧ rkN 6 (ordK (clmI n V) (stoI V)) r0 = h + 1 - 1 ∧ nI r = nI r0) := Or.inr ⟨Nat.succ_pos h, r, hr, by rw [hrk, Nat.add_sub_cancel], rfl⟩
    exact hs_all R0 H hB X S0 hU hq k (h + 1) D2 b2 u2 (nI r) u8 u9 u10 u11 u12 u13 u14 u15 u16 h1 g2 (by omega) (f.tr f2) hl2 n8 n9 n10 n11 n12 n13 n14 n15 n16
set_option maxHeartbeats 400000 in
theorem KL_houses {d : Nat} {D : Mm} {Q : Option Value → Mm → Prop} {n B : Nat} {V : Nat → Int32} {ln : List Nat} (R : Rel D n V) (H : IV n V B) (hB : B ≤ 9000) (X : XG n V B) (S : SbR D 170 ln) (hu0 : nxt D ≤ usd D) (hu1 : usd D ≤ 480000) (hq : ∀ D2, FrH D D2 → SbR D2 170 (thV V) → nxt D2 ≤ usd D2 → usd D2 ≤ usd D + 2300 → Q (some (.int (nI 1))) D2) : Ct (d + 11) 114 [.ref 0] D Q := by
  have hBE := DBv
  have hf : fitU D 4 := ⟨by omega, hu0⟩
  obtain ⟨p, ep⟩ : ∃ p, p = DB + nxt D := ⟨_, rfl⟩
  obtain ⟨D1, e1⟩ : ∃ D1, D1 = alD D (rwO 0) 4 := ⟨_, rfl⟩
  have hN : NwX D1 (nxt D) (usd D + 5) p := by rw [e1, ep]; exact NwX.new hu0 (by omega) (by omega)
  have f1 : Fr0 D D1 := by rw [e1]; exact FrL.al hf (Nat.le_refl _)
  refine ent m114 rfl rfl (ls := [.ref 0, .retAddr 0, .retAddr 0, .retAddr 0, .retAddr 0, .retAddr 0, .retAddr 0, .retAddr 0, .retAddr 0, .retAddr 0, .retAddr 0, .retAddr 0, .retAddr 0, .retAddr 0, .retAddr 0, .retAddr 0, .retAddr 0]) rfl ?_
  refine w_const i114_0 kc_0 ?_
  refine w_ist1 i114_1 ?_
  refine w_const i114_2 kc_0 ?_
  refine w_ist2 i114_3 ?_
  refine w_const i114_4 kc_0 ?_
  refine w_ist3 i114_5 ?_
  refine w_const i114_6 kc_0 ?_
  refine w_ist4 i114_7 ?_
  refine w_const i114_9 kc_m1 ?_
  refine w_ist5 i114_10 ?_
  refine w_new i114_12 (Or.inl rfl) (nvL_ok (by repeat (first | exact nvL_nil | refine nvL_cons (by first | exact True.intro | exact nvSt (by decide) | exact nvD hN.1.1 | exact nvK (by omega) (by omega)) ?_))) (nvL_ok (by repeat (first | exact nvL_nil | refine nvL_cons (by first | exact True.intro | exact nvSt (by decide) | exact nvD hN.1.1 | exact nvK (by omega) (by omega)) ?_))) hf ?_
  rw [show nF 0 = 4 from rfl, ← ep, ← e1]
  refine w_dup i114_15 rfl ?_
  refine w_PD1 i114_16 c122 (Or.inr rfl) (Or.inr ⟨hN.1.1, by rw [hN.1.2]; decide +kernel, by rw [hN.1.2]; decide⟩) (by repeat (first | exact nvL_nil | refine nvL_cons (by first | exact True.intro | exact nvSt (by decide) | exact nvD hN.1.1 | exact nvK (by omega) (by omega)) ?_)) ⟨(by repeat (first | exact nvL_nil | refine nvL_cons (by first | exact True.intro | exact nvSt (by decide) | exact nvD hN.1.1 | exact nvK (by omega) (by omega)) ?_)), rfl, Nat.le_of_ble_eq_true rfl⟩ ?_
  refine K_newSB (T := 80) hN (by omega) (fun D2 b g g3 g4 => ?_)
  have f : FrL (nxt D) D D2 := by
    have := f1.2
    have hl2 := g.low
    exact ⟨fun q x y => (g3.1 q (by omega) y (by omega) (by omega)).trans (f1.1 q x y), Nat.le_trans f1.2 g3.2⟩
  refine w_ast6 i114_19 ?_
  refine w_const i114_21 kc_0 ?_
  refine w_ist7 i114_22 ?_
  exact hs_all R H hB X S hu1 hq 6 0 D2 b _ (-1) _ _ _ _ _ _ _ _ _ (Nat.zero_add _) g (by omega) f (Or.inl ⟨rfl, rfl⟩) (nvQ.r _) (nvQ.r _) (nvQ.r _) (nvQ.r _) (nvQ.r _) (nvQ.r _) (nvQ.r _) (nvQ.r _) (nvQ.r _)
