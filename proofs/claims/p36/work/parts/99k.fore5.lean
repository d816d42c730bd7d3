/-! the law's foretelling, whole -/
set_option maxHeartbeats 4000000 in
theorem KL_foretold {d : Nat} {D : Mm} {Q : Option Value → Mm → Prop} {n B nx ob : Nat} {V : Nat → Int32} {hs : HsT} (J : CJ D n V B hs nx) (hB : B ≤ 8000) (hb : dyn D ob 8) (hu0 : nxt D ≤ usd D) (hu1 : usd D ≤ 600000) (hq : ∀ D2 nx2, CJ D2 n V B [] nx2 → dyn D2 ob 8 → (∀ q, 169 ≤ q → q < DB + nxt D → q ≠ 4500 → q ≠ ob → D2 q = D q) → nxt D ≤ nxt D2 → nxt D2 ≤ usd D2 → usd D2 ≤ usd D + 7 → Q (some (.int (nI 1))) D2) : Ct (d + 11) 117 [.ref 0, .ref ob] D Q := by
  have hBE := DBv
  have H := J.iv
  have X := J.xg
  have h12 := J.h12
  have hop := J.op
  have hby := J.by_ (show B ≤ 9000 by omega)
  have hS : shE n V := (H.hc (show B ≤ 20000 by omega)).2.2.2.2.2.2.1
  have hgb := dyn_ge hb
  -- the end
  have E12 : ∀ (D9 : Mm) (ar m C nx9 : Nat) (W : Nat → Int32) (hs9 : HsT) (u4 u5 u6 u7 u8 u9 u11 u12 u13 u14 u15 u16 u17 u18 u19 u20 : Value) , CJ D9 m W C hs9 nx9 → Sav D9 n V B → B ≤ C → dyn D9 ob 8 → dyn D9 ar 20 → ar = DB + nxt D → (∀ q, 169 ≤ q → q < DB + nxt D → q ≠ 4500 → q ≠ ob → D9 q = D q) → nxt D ≤ nxt D9 → nxt D9 ≤ usd D9 → usd D9 ≤ usd D + 7 → nvQ u4 → nvQ u5 → nvQ u6 → nvQ u7 → nvQ u8 → nvQ u9 → nvQ u11 → nvQ u12 → nvQ u13 → nvQ u14 → nvQ u15 → nvQ u16 → nvQ u17 → nvQ u18 → nvQ u19 → nvQ u20 → Wp (d + 10) 117 Q 651 [.ref 0, .ref ob, .int (nI n), .int (nI 1), u4, u5, u6, u7, u8, u9, .ref ar, u11, u12, u13, u14, u15, u16, u17, u18, u19, u20] [] D9 := by
    intro D9 ar m C nx9 W hs9 u4 u5 u6 u7 u8 u9 u11 u12 u13 u14 u15 u16 u17 u18 u19 u20 J9 S9 hC hb9 ha9 ear F9 hn9 hu9 hl9 n4 n5 n6 n7 n8 n9 n11 n12 n13 n14 n15 n16 n17 n18 n19 n20
    refine fo_12 n4 n5 n6 n7 n8 n9 n11 n12 n13 n14 n15 n16 n17 n18 n19 n20 J9 S9 hC hb9 ha9 (fun D2 J2 f hb2 => hq D2 nx9 J2 hb2 (fun q a b c e => (f q (by omega)).trans (F9 q a b c e)) (by rw [f.nx.1]; exact hn9) (by rw [f.nx.1, f.nx.2]; exact hu9) (by rw [f.nx.2]; exact hl9))
  -- the burning
  have E9 : ∀ (D8 : Mm) (ar nx8 : Nat) (u4 u5 u6 u7 u8 u9 u11 u12 u13 u14 u15 u16 u17 u18 u19 u20 : Value), CJ D8 n V B [] nx8 → Sav D8 n V B → dyn D8 ob 8 → dyn D8 ar 20 → ar = DB + nxt D → (∀ q, 169 ≤ q → q < DB + nxt D → q ≠ 4500 → q ≠ ob → D8 q = D q) → nxt D ≤ nxt D8 → nxt D8 ≤ usd D8 → usd D8 ≤ usd D + 7 → nvQ u4 → nvQ u5 → nvQ u6 → nvQ u7 → nvQ u8 → nvQ u9 → nvQ u11 → nvQ u12 → nvQ u13 → nvQ u14 → nvQ u15 → nvQ u16 → nvQ u17 → nvQ u18 → nvQ u19 → nvQ u20 → Wp (d + 10) 117 Q 396 [.ref 0, .ref ob, .int (nI n), .int (nI 1), u4, u5, u6, u7, u8, u9, .ref ar, u11, u12, u13, u14, u15, u16, u17, u18, u19, u20] [] D8 := by
    intro D8 ar nx8 u4 u5 u6 u7 u8 u9 u11 u12 u13 u14 u15 u16 u17 u18 u19 u20 J8 S8 hb8 ha8 ear F8 hn8 hu8 hl8 n4 n5 n6 n7 n8 n9 n11 n12 n13 n14 n15 n16 n17 n18 n19 n20
    by_cases h0 : n = 0
    · exact fo_9z (B := B) (nx := nx8) (V := V) (hs := []) n4 n5 n6 n7 n8 n9 n11 n12 n13 n14 n15 n16 n17 n18 n19 n20 h0 (E12 D8 ar n B nx8 V [] u4 u5 u6 u7 u8 u9 u11 u12 u13 u14 u15 u16 u17 u18 u19 u20 J8 S8 (Nat.le_refl _) hb8 ha8 ear F8 hn8 hu8 hl8 n4 n5 n6 n7 n8 n9 n11 n12 n13 n14 n15 n16 n17 n18 n19 n20)
    · refine fo_9 n4 n5 n6 n7 n8 n9 n11 n12 n13 n14 n15 n16 n17 n18 n19 n20 J8 S8 hb8 ha8 (by omega) (by omega) (fun D7 s r hs hr J7 S7 hb7 ha7 F7 => ?_)
      have en : nxt D7 = nxt D8 ∧ usd D7 = usd D8 := by
        have := F7 4500 (by omega)
        unfold nxt usd; rw [this]; exact ⟨rfl, rfl⟩
      obtain ⟨o5, w, k5, t, u, z, b, q0, q1, q2, q3, q4, q5, q6, b0, b1, b2, b3, b4, b5, b6, b7, b8⟩ := H.2.2.1 s hs
      obtain ⟨x1, x2, x3, x4, x5, x6⟩ := X.1.1 s hs
      have v1 : vStubOf V s 1 = nI w := (vso (by decide) (by decide)).trans q1
      have v2 : vStubOf V s 2 = nI k5 := (vso (by decide) (by decide)).trans q2
      have v4 : vStubOf V s 4 = nI u := (vso (by decide) (by decide)).trans q4
      have v5 : vStubOf V s 5 = nI z := (vso (by decide) (by decide)).trans q5
      have hxk : (1 + r) * k5 ≤ 5 * 9 := Nat.mul_le_mul (by omega) b2
      have bz : b = 0 ↔ z = 0 := ⟨fun q => by
        have := x5.mp (by rw [q6, q]); rw [q5] at this; exact (nI_inj (by omega) (by omega) this.symm), fun q => by
        have := x5.mpr (by rw [q5, q]); rw [q6] at this; exact (nI_inj (by omega) (by omega) this.symm)⟩
      have h6 : V (30 + 8 * s + 6) ≤ 0 ↔ b = 0 := by
        rw [q6]
        exact ⟨fun y => by have := (nle (a := b) (b := 0) (by omega) (by omega)).mp (by rw [nI_0]; exact y); omega, fun y => by rw [y, nI_0]; exact ile_rf⟩
      refine fo_10 (B := B) (nx := nx8) (hs := []) n4 n5 n6 n7 n8 n9 n11 n12 n15 n16 n17 n18 n19 n20 J7.R h12 hop hby hb7 ha7 hs v1 v2 v4 v5 b4 (by omega) ?_
      have G : ∀ D6, FrJ D7 D6 → (∀ q, 169 ≤ q → q < DB + nxt D → q ≠ 4500 → q ≠ ob → D6 q = D q) ∧ nxt D ≤ nxt D6 ∧ nxt D6 ≤ usd D6 ∧ usd D6 ≤ usd D + 7 := fun D6 f => by
        have e1 := f.nx
        exact ⟨fun q a b c e => (f q (by omega)).trans ((F7 q e).trans (F8 q a b c e)), by omega, by omega, by omega⟩
      by_cases hz : z = 0
      · by_cases hwx : w < 1 + r
        · refine fo_11w n4 n5 n6 n7 n8 n9 n11 n12 n20 J7 hB hb7 ha7 b1 (by omega) b5 hz hwx (bu_lo hs h12 ⟨by omega, by omega⟩ (h6.mpr (bz.mpr hz)) q1 hwx) (fun D6 J6 f6 hb6 ha6 => ?_)
          obtain ⟨g1, g2, g3, g4⟩ := G D6 f6
          exact E12 D6 ar n B nx8 V [] _ _ _ _ _ _ _ _ _ _ _ _ _ _ _ _ J6 (S7.fr f6) (Nat.le_refl _) hb6 ha6 ear g1 g2 g3 g4 n4 n5 n6 n7 n8 (nvQ.i _) n11 n12 (nvQ.i _) (nvQ.i _) (nvQ.i _) (nvQ.i _) (nvQ.i _) (nvQ.i _) (nvQ.i _) (nvQ.i _)
        · obtain ⟨W, eW, e3, e0⟩ := bu_ok H hs q1 q2 q4 (h6.mpr (bz.mpr hz)) b1 b2 b4 (x := 1 + r) ⟨by omega, by omega⟩ (by omega)
          have cW : nI (cl (W 0)) = nI n - nI (if w = 1 + r then 1 else 0) := by
            rw [e0]
            split
            · rw [cl_nI (by omega), nI_sub (by omega)]
            · rw [cl_nI (by omega), nI_sub (by omega)]
          rw [nI_mul] at e3
          refine fo_11o n4 n5 n6 n7 n8 n9 n11 n12 n20 J7 hB hb7 ha7 b1 (by omega) b5 hz (by omega) eW e3 cW (fun D6 hs6 nx6 J6 f6 hb6 ha6 => ?_)
          obtain ⟨g1, g2, g3, g4⟩ := G D6 f6
          exact E12 D6 ar _ (B + 30) nx6 W hs6 _ _ _ _ _ _ _ _ _ _ _ _ _ _ _ _ J6 (S7.fr f6) (by omega) hb6 ha6 ear g1 g2 g3 g4 n4 n5 n6 n7 n8 (nvQ.i _) n11 n12 (nvQ.i _) (nvQ.i _) (nvQ.i _) (nvQ.i _) (nvQ.i _) (nvQ.i _) (nvQ.i _) (nvQ.i _)
      · have eS := bu_sn (x := 1 + r) (V := V) hs h12 ⟨by omega, by omega⟩ (fun y => hz (bz.mp (h6.mp y)))
        rw [q5] at eS
        refine fo_11s n4 n5 n6 n7 n8 n9 n11 n12 n20 J7 hB hb7 ha7 b1 (by omega) b5 (by omega) eS (fun D6 J6 f6 hb6 ha6 => ?_)
        obtain ⟨g1, g2, g3, g4⟩ := G D6 f6
        exact E12 D6 ar n B nx8 V [] _ _ _ _ _ _ _ _ _ _ _ _ _ _ _ _ J6 (S7.fr f6) (Nat.le_refl _) hb6 ha6 ear g1 g2 g3 g4 n4 n5 n6 n7 n8 (nvQ.i _) n11 n12 (nvQ.i _) (nvQ.i _) (nvQ.i _) (nvQ.i _) (nvQ.i _) (nvQ.i _) (nvQ.i _) (nvQ.i _)
  -- the sharing
  have E5 : ∀ (D3 : Mm) (nx3 : Nat) (u4 u5 u6 u7 u8 u9 : Value), CJ D3 n V B [] nx3 → Sav D3 n V B → dyn D3 ob 8 → (∀ q, 169 ≤ q → q ≠ ob → D3 q = D q) → nvQ u4 → nvQ u5 → nvQ u6 → nvQ u7 → nvQ u8 → nvQ u9 → Wp (d + 10) 117 Q 208 [.ref 0, .ref ob, .int (nI n), .int (nI 1), u4, u5, u6, u7, u8, u9, .retAddr 0, .retAddr 0, .retAddr 0, .retAddr 0, .retAddr 0, .retAddr 0, .retAddr 0, .retAddr 0, .retAddr 0, .retAddr 0, .retAddr 0] [] D3 := by
    intro D3 nx3 u4 u5 u6 u7 u8 u9 J3 S3 hb3 F3 n4 n5 n6 n7 n8 n9
    have en : nxt D3 = nxt D ∧ usd D3 = usd D := by
      have := F3 4500 (by omega) (by omega)
      unfold nxt usd; rw [this]; exact ⟨rfl, rfl⟩
    have hf : fitU D3 6 := ⟨by rw [en.2]; omega, by rw [en.1, en.2]; exact hu0⟩
    refine fo_5 (n := n) (B := B) (nx := nx3) (V := V) (hs := []) n4 n5 n6 n7 n8 n9 (nvQ.r _) (nvQ.r _) (nvQ.r _) (nvQ.r _) (nvQ.r _) (nvQ.r _) (nvQ.r _) (nvQ.r _) (nvQ.r _) (nvQ.r _) (nvQ.r _) hf hb3 ?_
    obtain ⟨ar, ear⟩ : ∃ ar, ar = DB + nxt D3 := ⟨_, rfl⟩
    obtain ⟨D4, e4⟩ : ∃ D4, D4 = alD D3 (rwA 20 6) 6 := ⟨_, rfl⟩
    rw [← ear, ← e4]
    have o4 : ∀ q, q ≠ ar → q ≠ 4500 → D4 q = D3 q := fun q a b => by rw [e4]; exact al_old (by rw [← ear]; exact a) b
    have ha4 : dyn D4 ar 20 := by rw [e4, ear]; exact dyn_new hf (by rw [rwA_k]; exact nI_clamp (by omega))
    have hc4 : cap D4 ar = 6 := by rw [e4, ear]; exact cap_new (by omega)
    have n4e : nxt D4 = nxt D + 1 := by rw [e4, al_nxt hf, en.1]
    have u4e : usd D4 = usd D + 7 := by rw [e4, al_usd hf, en.2]
    have hb4 : dyn D4 ob 8 := dyn_fr hb3 (by rw [n4e, en.1]; omega) (o4 ob (by omega) (by omega))
    have J4 := J3.re (D2 := D4) (fun q a _ => o4 q (by omega) (by omega))
    have S4 := S3.re (D2 := D4) (fun q a => o4 q (by omega) (by omega))
    refine fo_5l (D0 := D4) n4 n5 n6 n7 n8 n9 (nvQ.r _) (nvQ.r _) (nvQ.r _) (nvQ.r _) (nvQ.r _) (nvQ.r _) (nvQ.r _) (nvQ.r _) hS (fun D5 J5 S5 hb5 ha5 hc5 g5 F5 => ?_) 6 0 D4 (Nat.zero_add _) J4 S4 hb4 ha4 hc4 (fun i hi => absurd hi (Nat.not_lt_zero i)) (fun _ _ _ => rfl)
    have en5 : nxt D5 = nxt D4 ∧ usd D5 = usd D4 := by
      have := F5 4500 (by omega) (by omega)
      unfold nxt usd; rw [this]; exact ⟨rfl, rfl⟩
    have K8 : ∀ (D6 : Mm) (m C nx6 : Nat) (W : Nat → Int32) (hs6 : HsT) (u9 u12 : Value), nvQ u9 → nvQ u12 → CJ D6 m W C hs6 nx6 → B ≤ C → Sav D6 n V B → dyn D6 ob 8 → dyn D6 ar 20 → cap D6 ar = 6 → FrJ D5 D6 → (∀ k, k < 6 → W (6 + 4 * k + 2) = D6 ar k) → Wp (d + 10) 117 Q 341 [.ref 0, .ref ob, .int (nI n), .int (nI 1), u4, u5, u6, u7, u8, u9, .ref ar, .int (shrC n V 6), u12, .retAddr 0, .retAddr 0, .retAddr 0, .retAddr 0, .retAddr 0, .retAddr 0, .retAddr 0, .retAddr 0] [] D6 := by
      intro D6 m C nx6 W hs6 u9 u12 m9 m12 J6 hC S6 hb6 ha6 hc6 f6 he
      refine fo_7s (B := B) (nx := nx6) (V := W) (hs := []) n4 n5 n6 n7 n8 m9 (nvQ.i _) m12 (nvQ.r _) (nvQ.r _) (nvQ.r _) (nvQ.r _) (nvQ.r _) (nvQ.r _) (nvQ.r _) (nvQ.r _) ?_
      refine fo_7l n4 n5 n6 n7 n8 m9 (nvQ.i _) m12 (nvQ.r _) (nvQ.r _) (nvQ.r _) (nvQ.r _) (nvQ.r _) (nvQ.r _) (nvQ.r _) J6.R J6.h12 J6.op hb6 ha6 hc6 he ?_ 6 0 (Nat.zero_add _)
      refine fo_8 n4 n5 n6 n7 n8 m9 (nvQ.i _) m12 (nvQ.i _) (nvQ.r _) (nvQ.r _) (nvQ.r _) (nvQ.r _) (nvQ.r _) (nvQ.r _) (nvQ.r _) J6 S6 hC hb6 ha6 (fun D7 J7 S7 f7 hb7 ha7 => ?_)
      have e6 := f6.nx
      have e7 := f7.nx
      exact E9 D7 ar nx6 _ _ _ _ _ _ _ _ _ _ _ _ _ _ _ _ J7 S7 hb7 ha7 (by rw [ear, en.1]) (fun q a b c e => (f7 q (by omega)).trans ((f6 q (by omega)).trans ((F5 q a (by omega)).trans ((o4 q (by omega) c).trans (F3 q a e))))) (by omega) (by omega) (by omega) n4 n5 n6 n7 n8 m9 (nvQ.i _) m12 (nvQ.i _) (nvQ.r _) (nvQ.r _) (nvQ.r _) (nvQ.r _) (nvQ.r _) (nvQ.r _) (nvQ.r _)
    by_cases h0 : mPooled V = 0
    · refine fo_6a n4 n5 n6 n7 n8 n9 (nvQ.i _) (nvQ.r _) (nvQ.r _) (nvQ.r _) (nvQ.r _) (nvQ.r _) (nvQ.r _) (nvQ.r _) (nvQ.r _) J5 hB S5 hb5 ha5 hc5 h0 (fun D6 J6 S6 hb6 ha6 hc6 ra f6 => ?_)
      refine K8 D6 n B nx3 V [] _ _ (nvQ.i _) (nvQ.i _) J6 (Nat.le_refl _) S6 hb6 ha6 hc6 f6 (fun k hk => ?_)
      rw [ra, g5 k hk]
      unfold dueV
      rw [part_no H (show B ≤ 9000 by omega) hk h0]
      exact (Int32.add_zero _).symm
    · refine fo_6b n4 n5 n6 n7 n8 n9 (nvQ.i _) (nvQ.r _) (nvQ.r _) (nvQ.r _) (nvQ.r _) (nvQ.r _) (nvQ.r _) (nvQ.r _) (nvQ.r _) J5 hB S5 hb5 ha5 hc5 h0 (fun D6 hs6 nx6 J6 S6 hb6 ha6 hc6 ra f6 => ?_)
      refine K8 D6 _ (B + 30) nx6 _ hs6 _ _ (nvQ.i _) (nvQ.i _) J6 (by omega) S6 hb6 ha6 hc6 f6 (fun k hk => ?_)
      rw [ra, g5 k hk]
      exact Sh_s 6 hk
  refine ent m117 rfl rfl (ls := [.ref 0, .ref ob, .retAddr 0, .retAddr 0, .retAddr 0, .retAddr 0, .retAddr 0, .retAddr 0, .retAddr 0, .retAddr 0, .retAddr 0, .retAddr 0, .retAddr 0, .retAddr 0, .retAddr 0, .retAddr 0, .retAddr 0, .retAddr 0, .retAddr 0, .retAddr 0, .retAddr 0]) rfl ?_
  refine fo_0 (nvQ.r _) (nvQ.r _) (nvQ.r _) (nvQ.r _) (nvQ.r _) (nvQ.r _) (nvQ.r _) (nvQ.r _) (nvQ.r _) (nvQ.r _) (nvQ.r _) (nvQ.r _) (nvQ.r _) (nvQ.r _) (nvQ.r _) (nvQ.r _) (nvQ.r _) (nvQ.r _) (nvQ.r _) J hb (fun D1 h hh J1 S1 hb1 F1 => ?_)
  -- the ending
  have E4 : ∀ (D2 : Mm) (m C nx2 : Nat) (W : Nat → Int32) (hs2 : HsT) (x5 x6 x7 x8 x9 : Int32), CJ D2 m W C hs2 nx2 → Sav D2 n V B → B ≤ C → dyn D2 ob 8 → FrJ D1 D2 → Wp (d + 10) 117 Q 192 [.ref 0, .ref ob, .int (nI n), .int (nI 1), .int (nI h), .int x5, .int x6, .int x7, .int x8, .int x9, .retAddr 0, .retAddr 0, .retAddr 0, .retAddr 0, .retAddr 0, .retAddr 0, .retAddr 0, .retAddr 0, .retAddr 0, .retAddr 0, .retAddr 0] [] D2 := by
    intro D2 m C nx2 W hs2 x5 x6 x7 x8 x9 J2 S2 hC hb2 f2
    refine fo_4 (nvQ.i _) (nvQ.i _) (nvQ.i _) (nvQ.i _) (nvQ.i _) (nvQ.i _) (nvQ.r _) (nvQ.r _) (nvQ.r _) (nvQ.r _) (nvQ.r _) (nvQ.r _) (nvQ.r _) (nvQ.r _) (nvQ.r _) (nvQ.r _) (nvQ.r _) J2 S2 hC hb2 (fun D3 J3 S3 f3 hb3 => ?_)
    exact E5 D3 nx2 _ _ _ _ _ _ J3 S3 hb3 (fun q a b => (f3 q (by omega)).trans ((f2 q (by omega)).trans (F1 q a b))) (nvQ.i _) (nvQ.i _) (nvQ.i _) (nvQ.i _) (nvQ.i _) (nvQ.i _)
  have Z : ∀ (hi me : Int32) (D0 : Mm), Rel D0 n V → dyn D0 ob 8 → Ct (d + 10) 68 [.ref 0, .int (nI h)] D0 (Ex (some (.int hi)) D0) → Ct (d + 10) 69 [.ref 0, .int (nI h)] D0 (Ex (some (.int me)) D0) → Wp (d + 10) 117 Q 57 [.ref 0, .ref ob, .int (nI n), .int (nI 1), .int (nI h), .int hi, .int me, .int (mOpens V), .int (mOfAll n V 1 + mStores V + mPooled V), .retAddr 0, .retAddr 0, .retAddr 0, .retAddr 0, .retAddr 0, .retAddr 0, .retAddr 0, .retAddr 0, .retAddr 0, .retAddr 0, .retAddr 0, .retAddr 0] [] D0 → Wp (d + 10) 117 Q 15 [.ref 0, .ref ob, .int (nI n), .int (nI 1), .int (nI h), .retAddr 0, .retAddr 0, .retAddr 0, .retAddr 0, .retAddr 0, .retAddr 0, .retAddr 0, .retAddr 0, .retAddr 0, .retAddr 0, .retAddr 0, .retAddr 0, .retAddr 0, .retAddr 0, .retAddr 0, .retAddr 0] [] D0 := by
    intro hi me D0 R0 hb0 ci cm k
    exact fo_1 (B := B) (nx := nx) (hs := hs) (nvQ.r _) (nvQ.r _) (nvQ.r _) (nvQ.r _) (nvQ.r _) (nvQ.r _) (nvQ.r _) (nvQ.r _) (nvQ.r _) (nvQ.r _) (nvQ.r _) (nvQ.r _) (nvQ.r _) (nvQ.r _) (nvQ.r _) (nvQ.r _) R0 h12 hop hby hb0 ci cm k
  by_cases hO : vOpen V h
  · cases hsu : vSucc V h with
    | none =>
      refine Z _ _ D1 J1.R hb1 (K_inherits_no (d := d + 4) J1.R h12 hop H.hr hh hO hsu) (K_melt_no (d := d + 4) J1.R h12 hop H.hr hh hO hsu) ?_
      refine fo_2_15 (nvQ.i _) (nvQ.r _) (nvQ.r _) (nvQ.r _) (nvQ.r _) (nvQ.r _) (nvQ.r _) (nvQ.r _) (nvQ.r _) (nvQ.r _) (nvQ.r _) (nvQ.r _) (nvQ.r _) J1 (by omega) hb1 hh (oE_none hh hO hsu) (fun D2 J2 f2 hb2 => ?_)
      exact E4 D2 n B nx V hs _ _ _ _ _ J2 (S1.fr f2) (Nat.le_refl _) hb2 f2
    | some r =>
      have hr := vSucc_lt H.hr hh hsu
      have hC := closed_all H (show B ≤ 100000 by omega) hh hr.1 hr.2.1 hr.2.2
      have cV := hC.1
      have c0 := vClosed_0 (n := n) (h := h) (r := r) H.1
      have hl : (vClosed n V h r).1 ≤ n := by
        have := vInh_n (h := h) (r := r) n 0 n 0 (itr (vRt h r) n (vCl0 V h r)) (Rt_n H.1) (by omega)
        have h2 := this.2.2.1
        show (vInh h r n 0 n 0 (itr (vRt h r) n (vCl0 V h r))).1 ≤ n
        omega
      have cC : cl ((vClosed n V h r).2 0) = n - (vClosed n V h r).1 := by rw [c0, cl_nI (by omega)]
      have em := melt_eq (V := V) h12 hh hr.1 hr.2.1
      refine Z _ _ D1 J1.R hb1 (K_inherits (d := d + 4) J1.R h12 hop H.hr hh hO hsu) (K_melt (d := d + 4) J1.R h12 hop H.hr hh hO hsu) ?_
      refine fo_3 (nvQ.r _) (nvQ.r _) (nvQ.r _) (nvQ.r _) (nvQ.r _) (nvQ.r _) (nvQ.r _) (nvQ.r _) (nvQ.r _) (nvQ.r _) (nvQ.r _) (nvQ.r _) J1 hB hb1 hh hr.1 (oE_some hh hO hsu) ?_ (closed_op H cV hh hr.2.1 hO) (closed_h hr.2.1 hh) ?_ (fun D2 hs2 nx2 J2 f2 hb2 => ?_)
      · rw [cC, ← em, nI_sub hl]
      · rw [cC]
        exact closed_wax H cV hh hr.1 hr.2.1
      · exact E4 D2 _ (B + 30) nx2 _ hs2 _ _ _ _ _ J2 (S1.fr f2) (by omega) hb2 f2
  · refine Z _ _ D1 J1.R hb1 (K_inherits_sh (d := d + 4) J1.R h12 hop hh hO) (K_melt_sh (d := d + 4) J1.R h12 hop hh hO) ?_
    refine fo_2_2 (nvQ.i _) (nvQ.r _) (nvQ.r _) (nvQ.r _) (nvQ.r _) (nvQ.r _) (nvQ.r _) (nvQ.r _) (nvQ.r _) (nvQ.r _) (nvQ.r _) (nvQ.r _) (nvQ.r _) J1 (by omega) hb1 hh (oE_shut hh hO) (fun D2 J2 f2 hb2 => ?_)
    exact E4 D2 n B nx V hs _ _ _ _ _ J2 (S1.fr f2) (Nat.le_refl _) hb2 f2
