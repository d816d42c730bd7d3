/-! the law's houses: the text -/
set_option maxHeartbeats 1000000 in
theorem hs_A {d : Nat} {D : Mm} {Q : Option Value → Mm → Prop} {n h o u : Nat} {V : Nat → Int32} {l1 l2 l3 l4 l5 l8 l9 l10 l11 l12 : Int32} {u14 u15 u16 : Value} (n14 : nvQ u14) (n15 : nvQ u15) (n16 : nvQ u16) (R : Rel D n V) (hle : n ≤ 12) (hop : opV V) (hh : h < 6) (hdo : dv D o) (hu0 : nxt D ≤ usd D) (hu1 : usd D ≤ 900000) (hu : u < 100000) (hvu : V (6 + 4 * h + 2) = nI u) (hk : ∀ D2 s1 nb, TxD D2 s1 nb (dgl u) → dyn D2 s1 9 → DB + nxt D ≤ s1 ∧ DB + nxt D ≤ nb → Fr0 D D2 → nxt D2 ≤ usd D2 → usd D2 ≤ usd D + 105 → Wp (d + 10) 114 Q 325 [.ref 0, .int l1, .int l2, .int l3, .int l4, .int l5, .ref o, .int (nI h), .int l8, .int l9, .int l10, .int l11, .int l12, .int (nI 1), u14, u15, u16] [.ref s1, .ref o] D2) : Wp (d + 10) 114 Q 295 [.ref 0, .int l1, .int l2, .int l3, .int l4, .int l5, .ref o, .int (nI h), .int l8, .int l9, .int l10, .int l11, .int l12, .int (nI 1), u14, u15, u16] [.ref o] D := by
  have hBE := DBv
  obtain ⟨D0_, eD0⟩ : ∃ D0_, D0_ = D := ⟨_, rfl⟩
  rw [← eD0] at R hdo hu0 hu1 hk ⊢
  have R0 := R
  have hdo0 := hdo
  have hf : fitU D0_ 4 := ⟨by omega, hu0⟩
  obtain ⟨p, ep⟩ : ∃ p, p = DB + nxt D0_ := ⟨_, rfl⟩
  obtain ⟨D1, e1⟩ : ∃ D1, D1 = alD D0_ (rwO 0) 4 := ⟨_, rfl⟩
  have hN : NwX D1 (nxt D0_) (usd D0_ + 5) p := by rw [e1, ep]; exact NwX.new hu0 (by omega) (by omega)
  have f1 : Fr0 D0_ D1 := by rw [e1]; exact FrL.al hf (Nat.le_refl _)
  have oku : okN (nI u) (ndt (nI u)) := okN_n (by omega)
  have lul := (okN_len oku).1
  have hu : u < 100000 := by omega
  refine w_new i114_295 (Or.inl rfl) (nvL_ok (by repeat (first | exact nvL_nil | refine nvL_cons (by first | exact True.intro | exact nvSt (by decide) | exact nvD g.ob.1 | exact nvD hN.1.1 | exact nvD (dv_le hdo0 f.2) | exact nvD (dv_le hdo0 f1.2) | exact nvD hdo0 | exact nvD hds | exact n14.nv | exact n15.nv | exact n16.nv | exact nvK (by omega) (by omega)) ?_))) (nvL_ok (by repeat (first | exact nvL_nil | refine nvL_cons (by first | exact True.intro | exact nvSt (by decide) | exact nvD g.ob.1 | exact nvD hN.1.1 | exact nvD (dv_le hdo0 f.2) | exact nvD (dv_le hdo0 f1.2) | exact nvD hdo0 | exact nvD hds | exact n14.nv | exact n15.nv | exact n16.nv | exact nvK (by omega) (by omega)) ?_))) hf ?_
  rw [show nF 0 = 4 from rfl, ← ep, ← e1]
  refine w_dup i114_298 rfl ?_
  refine w_PD1 i114_299 c122 (Or.inr rfl) (Or.inr ⟨hN.1.1, by rw [hN.1.2]; decide +kernel, by rw [hN.1.2]; decide⟩) (by repeat (first | exact nvL_nil | refine nvL_cons (by first | exact True.intro | exact nvSt (by decide) | exact nvD g.ob.1 | exact nvD hN.1.1 | exact nvD (dv_le hdo0 f.2) | exact nvD (dv_le hdo0 f1.2) | exact nvD hdo0 | exact nvD hds | exact n14.nv | exact n15.nv | exact n16.nv | exact nvK (by omega) (by omega)) ?_)) ⟨(by repeat (first | exact nvL_nil | refine nvL_cons (by first | exact True.intro | exact nvSt (by decide) | exact nvD g.ob.1 | exact nvD hN.1.1 | exact nvD (dv_le hdo0 f.2) | exact nvD (dv_le hdo0 f1.2) | exact nvD hdo0 | exact nvD hds | exact n14.nv | exact n15.nv | exact n16.nv | exact nvK (by omega) (by omega)) ?_)), rfl, Nat.le_of_ble_eq_true rfl⟩ ?_
  refine K_newSB (T := 10) hN (by omega) (fun D b g g3 g4 => ?_)
  have f : Fr0 D0_ D := by
    have := f1.2
    have hl2 := g.low
    exact ⟨fun q x y => (g3.1 q (by omega) y (by omega) (by omega)).trans (f1.1 q x y), Nat.le_trans f1.2 g3.2⟩
  have R := f.rel R0
  refine w_ldc2 i114_302 (by decide) ?_
  refine w_VD2 i114_304 c126 (Or.inl rfl) (g.rec (by decide +kernel)) (by repeat (first | exact nvL_nil | refine nvL_cons (by first | exact True.intro | exact nvSt (by decide) | exact nvD g.ob.1 | exact nvD hN.1.1 | exact nvD (dv_le hdo0 f.2) | exact nvD (dv_le hdo0 f1.2) | exact nvD hdo0 | exact nvD hds | exact n14.nv | exact n15.nv | exact n16.nv | exact nvK (by omega) (by omega)) ?_)) ⟨(by repeat (first | exact nvL_nil | refine nvL_cons (by first | exact True.intro | exact nvSt (by decide) | exact nvD g.ob.1 | exact nvD hN.1.1 | exact nvD (dv_le hdo0 f.2) | exact nvD (dv_le hdo0 f1.2) | exact nvD hdo0 | exact nvD hds | exact n14.nv | exact n15.nv | exact n16.nv | exact nvK (by omega) (by omega)) ?_)), rfl, Nat.le_of_ble_eq_true rfl⟩ ?_
  refine K_appSD g (Tc (c := 9) (k := []) (by decide) (by decide) (by decide) (by decide)) (by first | omega | (simp only [List.length_append, List.length_cons, List.length_nil]; omega)) (by have := dyn_ge g.ob; omega) (by have := dyn_ge g.rb; omega) (fun D b g2 => ?_)
  have f := f.st g g2
  have g := g2.1
  have R := f.rel R0
  refine w_ald0 i114_307 ?_
  refine w_ild7 i114_308 ?_
  refine w_const i114_310 kc_2 ?_
  refine w_VD3 i114_311 c67 (Or.inl rfl) (Or.inl ⟨by decide +kernel, by decide⟩) (by repeat (first | exact nvL_nil | refine nvL_cons (by first | exact True.intro | exact nvSt (by decide) | exact nvD g.ob.1 | exact nvD hN.1.1 | exact nvD (dv_le hdo0 f.2) | exact nvD (dv_le hdo0 f1.2) | exact nvD hdo0 | exact nvD hds | exact n14.nv | exact n15.nv | exact n16.nv | exact nvK (by omega) (by omega)) ?_)) ⟨(by repeat (first | exact nvL_nil | refine nvL_cons (by first | exact True.intro | exact nvSt (by decide) | exact nvD g.ob.1 | exact nvD hN.1.1 | exact nvD (dv_le hdo0 f.2) | exact nvD (dv_le hdo0 f1.2) | exact nvD hdo0 | exact nvD hds | exact n14.nv | exact n15.nv | exact n16.nv | exact nvK (by omega) (by omega)) ?_)), rfl, Nat.le_of_ble_eq_true rfl⟩ (Ex_go (K_houseOf_2 R hle hop hh) ?_)
  rw [hvu]
  refine w_VD2 i114_314 c190 (Or.inl rfl) (g.rec (by decide +kernel)) (by repeat (first | exact nvL_nil | refine nvL_cons (by first | exact True.intro | exact nvSt (by decide) | exact nvD g.ob.1 | exact nvD hN.1.1 | exact nvD (dv_le hdo0 f.2) | exact nvD (dv_le hdo0 f1.2) | exact nvD hdo0 | exact nvD hds | exact n14.nv | exact n15.nv | exact n16.nv | exact nvK (by omega) (by omega)) ?_)) ⟨(by repeat (first | exact nvL_nil | refine nvL_cons (by first | exact True.intro | exact nvSt (by decide) | exact nvD g.ob.1 | exact nvD hN.1.1 | exact nvD (dv_le hdo0 f.2) | exact nvD (dv_le hdo0 f1.2) | exact nvD hdo0 | exact nvD hds | exact n14.nv | exact n15.nv | exact n16.nv | exact nvK (by omega) (by omega)) ?_)), rfl, Nat.le_of_ble_eq_true rfl⟩ ?_
  refine K_appID g oku (by first | omega | (simp only [List.length_append, List.length_cons, List.length_nil]; omega)) (fun D b g2 => ?_)
  have f := f.st g g2
  have g := g2.1
  have R := f.rel R0
  refine w_VD1 i114_317 c135 (Or.inl rfl) (g.rec (by decide +kernel)) (by repeat (first | exact nvL_nil | refine nvL_cons (by first | exact True.intro | exact nvSt (by decide) | exact nvD g.ob.1 | exact nvD hN.1.1 | exact nvD (dv_le hdo0 f.2) | exact nvD (dv_le hdo0 f1.2) | exact nvD hdo0 | exact nvD hds | exact n14.nv | exact n15.nv | exact n16.nv | exact nvK (by omega) (by omega)) ?_)) ⟨(by repeat (first | exact nvL_nil | refine nvL_cons (by first | exact True.intro | exact nvSt (by decide) | exact nvD g.ob.1 | exact nvD hN.1.1 | exact nvD (dv_le hdo0 f.2) | exact nvD (dv_le hdo0 f1.2) | exact nvD hdo0 | exact nvD hds | exact n14.nv | exact n15.nv | exact n16.nv | exact nvK (by omega) (by omega)) ?_)), rfl, Nat.le_of_ble_eq_true rfl⟩ ?_
  have hus := g.us
  have hcp := g.cpm
  refine K_tsD g (by first | omega | (simp only [List.length_append, List.length_cons, List.length_nil]; omega)) (by omega) (fun D s1 nb x hs1 hg f3 h3 h4 => ?_)
  have f2' := f.2
  have hds := hs1.1
  refine w_goto i114_320 g114_320 ?_
  refine hk D s1 nb ?_ hs1 ⟨by omega, by omega⟩ (f.tr f3) h3 ?_
  · have e9 : [] ++ [] ++ ndt (nI u) = dgl u := by simp only [ndt_n hu, List.nil_append, List.append_nil]
    rw [← e9]; exact x
  · rw [h4]
    simp only [List.length_append, List.length_cons, List.length_nil]
    omega
set_option maxHeartbeats 1000000 in
theorem hs_B {d : Nat} {D : Mm} {Q : Option Value → Mm → Prop} {n h o u : Nat} {V : Nat → Int32} {l1 l2 l3 l4 l5 l8 l9 l10 l11 l12 : Int32} {u14 u15 u16 : Value} (n14 : nvQ u14) (n15 : nvQ u15) (n16 : nvQ u16) (R : Rel D n V) (hle : n ≤ 12) (hop : opV V) (hh : h < 6) (hdo : dv D o) (hu0 : nxt D ≤ usd D) (hu1 : usd D ≤ 900000) (hu : u < 100000) (hvu : V (6 + 4 * h + 3) = nI u) (hk : ∀ D2 s1 nb, TxD D2 s1 nb ([43] ++ dgl u) → dyn D2 s1 9 → DB + nxt D ≤ s1 ∧ DB + nxt D ≤ nb → Fr0 D D2 → nxt D2 ≤ usd D2 → usd D2 ≤ usd D + 105 → Wp (d + 10) 114 Q 373 [.ref 0, .int l1, .int l2, .int l3, .int l4, .int l5, .ref o, .int (nI h), .int l8, .int l9, .int l10, .int l11, .int l12, .int (nI 1), u14, u15, u16] [.ref s1, .ref o] D2) : Wp (d + 10) 114 Q 343 [.ref 0, .int l1, .int l2, .int l3, .int l4, .int l5, .ref o, .int (nI h), .int l8, .int l9, .int l10, .int l11, .int l12, .int (nI 1), u14, u15, u16] [.ref o] D := by
  have hBE := DBv
  obtain ⟨D0_, eD0⟩ : ∃ D0_, D0_ = D := ⟨_, rfl⟩
  rw [← eD0] at R hdo hu0 hu1 hk ⊢
  have R0 := R
  have hdo0 := hdo
  have hf : fitU D0_ 4 := ⟨by omega, hu0⟩
  obtain ⟨p, ep⟩ : ∃ p, p = DB + nxt D0_ := ⟨_, rfl⟩
  obtain ⟨D1, e1⟩ : ∃ D1, D1 = alD D0_ (rwO 0) 4 := ⟨_, rfl⟩
  have hN : NwX D1 (nxt D0_) (usd D0_ + 5) p := by rw [e1, ep]; exact NwX.new hu0 (by omega) (by omega)
  have f1 : Fr0 D0_ D1 := by rw [e1]; exact FrL.al hf (Nat.le_refl _)
  have oku : okN (nI u) (ndt (nI u)) := okN_n (by omega)
  have lul := (okN_len oku).1
  have hu : u < 100000 := by omega
  refine w_new i114_343 (Or.inl rfl) (nvL_ok (by repeat (first | exact nvL_nil | refine nvL_cons (by first | exact True.intro | exact nvSt (by decide) | exact nvD g.ob.1 | exact nvD hN.1.1 | exact nvD (dv_le hdo0 f.2) | exact nvD (dv_le hdo0 f1.2) | exact nvD hdo0 | exact nvD hds | exact n14.nv | exact n15.nv | exact n16.nv | exact nvK (by omega) (by omega)) ?_))) (nvL_ok (by repeat (first | exact nvL_nil | refine nvL_cons (by first | exact True.intro | exact nvSt (by decide) | exact nvD g.ob.1 | exact nvD hN.1.1 | exact nvD (dv_le hdo0 f.2) | exact nvD (dv_le hdo0 f1.2) | exact nvD hdo0 | exact nvD hds | exact n14.nv | exact n15.nv | exact n16.nv | exact nvK (by omega) (by omega)) ?_))) hf ?_
  rw [show nF 0 = 4 from rfl, ← ep, ← e1]
  refine w_dup i114_346 rfl ?_
  refine w_PD1 i114_347 c122 (Or.inr rfl) (Or.inr ⟨hN.1.1, by rw [hN.1.2]; decide +kernel, by rw [hN.1.2]; decide⟩) (by repeat (first | exact nvL_nil | refine nvL_cons (by first | exact True.intro | exact nvSt (by decide) | exact nvD g.ob.1 | exact nvD hN.1.1 | exact nvD (dv_le hdo0 f.2) | exact nvD (dv_le hdo0 f1.2) | exact nvD hdo0 | exact nvD hds | exact n14.nv | exact n15.nv | exact n16.nv | exact nvK (by omega) (by omega)) ?_)) ⟨(by repeat (first | exact nvL_nil | refine nvL_cons (by first | exact True.intro | exact nvSt (by decide) | exact nvD g.ob.1 | exact nvD hN.1.1 | exact nvD (dv_le hdo0 f.2) | exact nvD (dv_le hdo0 f1.2) | exact nvD hdo0 | exact nvD hds | exact n14.nv | exact n15.nv | exact n16.nv | exact nvK (by omega) (by omega)) ?_)), rfl, Nat.le_of_ble_eq_true rfl⟩ ?_
  refine K_newSB (T := 10) hN (by omega) (fun D b g g3 g4 => ?_)
  have f : Fr0 D0_ D := by
    have := f1.2
    have hl2 := g.low
    exact ⟨fun q x y => (g3.1 q (by omega) y (by omega) (by omega)).trans (f1.1 q x y), Nat.le_trans f1.2 g3.2⟩
  have R := f.rel R0
  refine w_ldc2 i114_350 (by decide) ?_
  refine w_VD2 i114_352 c126 (Or.inl rfl) (g.rec (by decide +kernel)) (by repeat (first | exact nvL_nil | refine nvL_cons (by first | exact True.intro | exact nvSt (by decide) | exact nvD g.ob.1 | exact nvD hN.1.1 | exact nvD (dv_le hdo0 f.2) | exact nvD (dv_le hdo0 f1.2) | exact nvD hdo0 | exact nvD hds | exact n14.nv | exact n15.nv | exact n16.nv | exact nvK (by omega) (by omega)) ?_)) ⟨(by repeat (first | exact nvL_nil | refine nvL_cons (by first | exact True.intro | exact nvSt (by decide) | exact nvD g.ob.1 | exact nvD hN.1.1 | exact nvD (dv_le hdo0 f.2) | exact nvD (dv_le hdo0 f1.2) | exact nvD hdo0 | exact nvD hds | exact n14.nv | exact n15.nv | exact n16.nv | exact nvK (by omega) (by omega)) ?_)), rfl, Nat.le_of_ble_eq_true rfl⟩ ?_
  refine K_appSD g (Tc (c := 18) (k := [43]) (by decide) (by decide) (by decide) (by decide)) (by first | omega | (simp only [List.length_append, List.length_cons, List.length_nil]; omega)) (by have := dyn_ge g.ob; omega) (by have := dyn_ge g.rb; omega) (fun D b g2 => ?_)
  have f := f.st g g2
  have g := g2.1
  have R := f.rel R0
  refine w_ald0 i114_355 ?_
  refine w_ild7 i114_356 ?_
  refine w_const i114_358 kc_3 ?_
  refine w_VD3 i114_359 c67 (Or.inl rfl) (Or.inl ⟨by decide +kernel, by decide⟩) (by repeat (first | exact nvL_nil | refine nvL_cons (by first | exact True.intro | exact nvSt (by decide) | exact nvD g.ob.1 | exact nvD hN.1.1 | exact nvD (dv_le hdo0 f.2) | exact nvD (dv_le hdo0 f1.2) | exact nvD hdo0 | exact nvD hds | exact n14.nv | exact n15.nv | exact n16.nv | exact nvK (by omega) (by omega)) ?_)) ⟨(by repeat (first | exact nvL_nil | refine nvL_cons (by first | exact True.intro | exact nvSt (by decide) | exact nvD g.ob.1 | exact nvD hN.1.1 | exact nvD (dv_le hdo0 f.2) | exact nvD (dv_le hdo0 f1.2) | exact nvD hdo0 | exact nvD hds | exact n14.nv | exact n15.nv | exact n16.nv | exact nvK (by omega) (by omega)) ?_)), rfl, Nat.le_of_ble_eq_true rfl⟩ (Ex_go (K_houseOf_3 R hle hop hh) ?_)
  rw [hvu]
  refine w_VD2 i114_362 c190 (Or.inl rfl) (g.rec (by decide +kernel)) (by repeat (first | exact nvL_nil | refine nvL_cons (by first | exact True.intro | exact nvSt (by decide) | exact nvD g.ob.1 | exact nvD hN.1.1 | exact nvD (dv_le hdo0 f.2) | exact nvD (dv_le hdo0 f1.2) | exact nvD hdo0 | exact nvD hds | exact n14.nv | exact n15.nv | exact n16.nv | exact nvK (by omega) (by omega)) ?_)) ⟨(by repeat (first | exact nvL_nil | refine nvL_cons (by first | exact True.intro | exact nvSt (by decide) | exact nvD g.ob.1 | exact nvD hN.1.1 | exact nvD (dv_le hdo0 f.2) | exact nvD (dv_le hdo0 f1.2) | exact nvD hdo0 | exact nvD hds | exact n14.nv | exact n15.nv | exact n16.nv | exact nvK (by omega) (by omega)) ?_)), rfl, Nat.le_of_ble_eq_true rfl⟩ ?_
  refine K_appID g oku (by first | omega | (simp only [List.length_append, List.length_cons, List.length_nil]; omega)) (fun D b g2 => ?_)
  have f := f.st g g2
  have g := g2.1
  have R := f.rel R0
  refine w_VD1 i114_365 c135 (Or.inl rfl) (g.rec (by decide +kernel)) (by repeat (first | exact nvL_nil | refine nvL_cons (by first | exact True.intro | exact nvSt (by decide) | exact nvD g.ob.1 | exact nvD hN.1.1 | exact nvD (dv_le hdo0 f.2) | exact nvD (dv_le hdo0 f1.2) | exact nvD hdo0 | exact nvD hds | exact n14.nv | exact n15.nv | exact n16.nv | exact nvK (by omega) (by omega)) ?_)) ⟨(by repeat (first | exact nvL_nil | refine nvL_cons (by first | exact True.intro | exact nvSt (by decide) | exact nvD g.ob.1 | exact nvD hN.1.1 | exact nvD (dv_le hdo0 f.2) | exact nvD (dv_le hdo0 f1.2) | exact nvD hdo0 | exact nvD hds | exact n14.nv | exact n15.nv | exact n16.nv | exact nvK (by omega) (by omega)) ?_)), rfl, Nat.le_of_ble_eq_true rfl⟩ ?_
  have hus := g.us
  have hcp := g.cpm
  refine K_tsD g (by first | omega | (simp only [List.length_append, List.length_cons, List.length_nil]; omega)) (by omega) (fun D s1 nb x hs1 hg f3 h3 h4 => ?_)
  have f2' := f.2
  have hds := hs1.1
  refine w_goto i114_368 g114_368 ?_
  refine hk D s1 nb ?_ hs1 ⟨by omega, by omega⟩ (f.tr f3) h3 ?_
  · have e9 : [] ++ [43] ++ ndt (nI u) = [43] ++ dgl u := by simp only [ndt_n hu, List.nil_append, List.append_nil]
    rw [← e9]; exact x
  · rw [h4]
    simp only [List.length_append, List.length_cons, List.length_nil]
    omega
set_option maxHeartbeats 1000000 in
theorem hs_t1a0 {d : Nat} {D : Mm} {Q : Option Value → Mm → Prop} {n h o b lo uu : Nat} {tt : List Nat} {V : Nat → Int32} {l1 l2 l3 l4 l5 l8 l9 l10 l11 l12 : Int32} {u14 u15 u16 : Value} (n14 : nvQ u14) (n15 : nvQ u15) (n16 : nvQ u16) (R : Rel D n V) (hle : n ≤ 12) (hop : opV V) (hh : h < 6) (g : SbX D lo 80 uu o b tt) (hu1 : uu ≤ 600000) (hl : tt.length ≤ 79) (h0 : h = 0) (hk : ∀ D2 b2 u2, SbX D2 lo 80 u2 o b2 (tt) → u2 ≤ uu + 0 → FrL lo D D2 → Wp (d + 10) 114 Q 290 [.ref 0, .int l1, .int l2, .int l3, .int l4, .int l5, .ref o, .int (nI h), .int l8, .int l9, .int l10, .int l11, .int l12, .int (nI 0), u14, u15, u16] [.ref o] D2) : Wp (d + 10) 114 Q 273 [.ref 0, .int l1, .int l2, .int l3, .int l4, .int l5, .ref o, .int (nI h), .int l8, .int l9, .int l10, .int l11, .int l12, .int (nI 0), u14, u15, u16] [] D := by
  have hBE := DBv
  obtain ⟨D0_, eD0⟩ : ∃ D0_, D0_ = D := ⟨_, rfl⟩
  rw [← eD0] at R g hk ⊢
  have R0 := R
  have f : FrL lo D0_ D0_ := FrL.rf
  refine w_ald6 i114_273 ?_
  refine w_ild7 i114_275 ?_
  refine w_ineNF i114_277 (by omega) h0 ?_
  refine w_ldc2 i114_280 (by decide) ?_
  refine w_goto i114_282 g114_282 ?_
  refine w_VD2 i114_287 c126 (Or.inl rfl) (g.rec (by decide +kernel)) (by repeat (first | exact nvL_nil | refine nvL_cons (by first | exact True.intro | exact nvSt (by decide) | exact nvD g.ob.1 | exact nvD hds | exact n14.nv | exact n15.nv | exact n16.nv | exact nvK (by omega) (by omega)) ?_)) ⟨(by repeat (first | exact nvL_nil | refine nvL_cons (by first | exact True.intro | exact nvSt (by decide) | exact nvD g.ob.1 | exact nvD hds | exact n14.nv | exact n15.nv | exact n16.nv | exact nvK (by omega) (by omega)) ?_)), rfl, Nat.le_of_ble_eq_true rfl⟩ ?_
  refine K_appSD g (Tc (c := 9) (k := []) (by decide) (by decide) (by decide) (by decide)) (by first | omega | (simp only [List.length_append, List.length_cons, List.length_nil]; omega)) (by have := dyn_ge g.ob; omega) (by have := dyn_ge g.rb; omega) (fun D b g2 => ?_)
  have f := f.tr (StX.fl g g2)
  have g := g2.1
  have R := f.rel R0
  rw [List.append_nil] at g
  exact hk D b uu g (by omega) f
set_option maxHeartbeats 1000000 in
theorem hs_t1b0 {d : Nat} {D : Mm} {Q : Option Value → Mm → Prop} {n h o b lo uu : Nat} {tt : List Nat} {V : Nat → Int32} {l1 l2 l3 l4 l5 l8 l9 l10 l11 l12 : Int32} {u14 u15 u16 : Value} (n14 : nvQ u14) (n15 : nvQ u15) (n16 : nvQ u16) (R : Rel D n V) (hle : n ≤ 12) (hop : opV V) (hh : h < 6) (g : SbX D lo 80 uu o b tt) (hu1 : uu ≤ 600000) (hl : tt.length ≤ 79) (h0 : h ≠ 0) (hk : ∀ D2 b2 u2, SbX D2 lo 80 u2 o b2 (tt ++ [32]) → u2 ≤ uu + 0 → FrL lo D D2 → Wp (d + 10) 114 Q 290 [.ref 0, .int l1, .int l2, .int l3, .int l4, .int l5, .ref o, .int (nI h), .int l8, .int l9, .int l10, .int l11, .int l12, .int (nI 0), u14, u15, u16] [.ref o] D2) : Wp (d + 10) 114 Q 273 [.ref 0, .int l1, .int l2, .int l3, .int l4, .int l5, .ref o, .int (nI h), .int l8, .int l9, .int l10, .int l11, .int l12, .int (nI 0), u14, u15, u16] [] D := by
  have hBE := DBv
  obtain ⟨D0_, eD0⟩ : ∃ D0_, D0_ = D := ⟨_, rfl⟩
  rw [← eD0] at R g hk ⊢
  have R0 := R
  have f : FrL lo D0_ D0_ := FrL.rf
  refine w_ald6 i114_273 ?_
  refine w_ild7 i114_275 ?_
  refine w_ineNT i114_277 g114_277 (by omega) h0 ?_
  refine w_ldc2 i114_285 (by decide) ?_
  refine w_VD2 i114_287 c126 (Or.inl rfl) (g.rec (by decide +kernel)) (by repeat (first | exact nvL_nil | refine nvL_cons (by first | exact True.intro | exact nvSt (by decide) | exact nvD g.ob.1 | exact nvD hds | exact n14.nv | exact n15.nv | exact n16.nv | exact nvK (by omega) (by omega)) ?_)) ⟨(by repeat (first | exact nvL_nil | refine nvL_cons (by first | exact True.intro | exact nvSt (by decide) | exact nvD g.ob.1 | exact nvD hds | exact n14.nv | exact n15.nv | exact n16.nv | exact nvK (by omega) (by omega)) ?_)), rfl, Nat.le_of_ble_eq_true rfl⟩ ?_
  refine K_appSD g (Tc (c := 16) (k := [32]) (by decide) (by decide) (by decide) (by decide)) (by first | omega | (simp only [List.length_append, List.length_cons, List.length_nil]; omega)) (by have := dyn_ge g.ob; omega) (by have := dyn_ge g.rb; omega) (fun D b g2 => ?_)
  have f := f.tr (StX.fl g g2)
  have g := g2.1
  have R := f.rel R0
  exact hk D b uu g (by omega) f
set_option maxHeartbeats 1000000 in
theorem hs_t1a1 {d : Nat} {D : Mm} {Q : Option Value → Mm → Prop} {n h o b lo uu : Nat} {tt : List Nat} {V : Nat → Int32} {l1 l2 l3 l4 l5 l8 l9 l10 l11 l12 : Int32} {u14 u15 u16 : Value} (n14 : nvQ u14) (n15 : nvQ u15) (n16 : nvQ u16) (R : Rel D n V) (hle : n ≤ 12) (hop : opV V) (hh : h < 6) (g : SbX D lo 80 uu o b tt) (hu1 : uu ≤ 600000) (hl : tt.length ≤ 79) (h0 : h = 0) (hk : ∀ D2 b2 u2, SbX D2 lo 80 u2 o b2 (tt) → u2 ≤ uu + 0 → FrL lo D D2 → Wp (d + 10) 114 Q 290 [.ref 0, .int l1, .int l2, .int l3, .int l4, .int l5, .ref o, .int (nI h), .int l8, .int l9, .int l10, .int l11, .int l12, .int (nI 1), u14, u15, u16] [.ref o] D2) : Wp (d + 10) 114 Q 273 [.ref 0, .int l1, .int l2, .int l3, .int l4, .int l5, .ref o, .int (nI h), .int l8, .int l9, .int l10, .int l11, .int l12, .int (nI 1), u14, u15, u16] [] D := by
  have hBE := DBv
  obtain ⟨D0_, eD0⟩ : ∃ D0_, D0_ = D := ⟨_, rfl⟩
  rw [← eD0] at R g hk ⊢
  have R0 := R
  have f : FrL lo D0_ D0_ := FrL.rf
  refine w_ald6 i114_273 ?_
  refine w_ild7 i114_275 ?_
  refine w_ineNF i114_277 (by omega) h0 ?_
  refine w_ldc2 i114_280 (by decide) ?_
  refine w_goto i114_282 g114_282 ?_
  refine w_VD2 i114_287 c126 (Or.inl rfl) (g.rec (by decide +kernel)) (by repeat (first | exact nvL_nil | refine nvL_cons (by first | exact True.intro | exact nvSt (by decide) | exact nvD g.ob.1 | exact nvD hds | exact n14.nv | exact n15.nv | exact n16.nv | exact nvK (by omega) (by omega)) ?_)) ⟨(by repeat (first | exact nvL_nil | refine nvL_cons (by first | exact True.intro | exact nvSt (by decide) | exact nvD g.ob.1 | exact nvD hds | exact n14.nv | exact n15.nv | exact n16.nv | exact nvK (by omega) (by omega)) ?_)), rfl, Nat.le_of_ble_eq_true rfl⟩ ?_
  refine K_appSD g (Tc (c := 9) (k := []) (by decide) (by decide) (by decide) (by decide)) (by first | omega | (simp only [List.length_append, List.length_cons, List.length_nil]; omega)) (by have := dyn_ge g.ob; omega) (by have := dyn_ge g.rb; omega) (fun D b g2 => ?_)
  have f := f.tr (StX.fl g g2)
  have g := g2.1
  have R := f.rel R0
  rw [List.append_nil] at g
  exact hk D b uu g (by omega) f
set_option maxHeartbeats 1000000 in
theorem hs_t1b1 {d : Nat} {D : Mm} {Q : Option Value → Mm → Prop} {n h o b lo uu : Nat} {tt : List Nat} {V : Nat → Int32} {l1 l2 l3 l4 l5 l8 l9 l10 l11 l12 : Int32} {u14 u15 u16 : Value} (n14 : nvQ u14) (n15 : nvQ u15) (n16 : nvQ u16) (R : Rel D n V) (hle : n ≤ 12) (hop : opV V) (hh : h < 6) (g : SbX D lo 80 uu o b tt) (hu1 : uu ≤ 600000) (hl : tt.length ≤ 79) (h0 : h ≠ 0) (hk : ∀ D2 b2 u2, SbX D2 lo 80 u2 o b2 (tt ++ [32]) → u2 ≤ uu + 0 → FrL lo D D2 → Wp (d + 10) 114 Q 290 [.ref 0, .int l1, .int l2, .int l3, .int l4, .int l5, .ref o, .int (nI h), .int l8, .int l9, .int l10, .int l11, .int l12, .int (nI 1), u14, u15, u16] [.ref o] D2) : Wp (d + 10) 114 Q 273 [.ref 0, .int l1, .int l2, .int l3, .int l4, .int l5, .ref o, .int (nI h), .int l8, .int l9, .int l10, .int l11, .int l12, .int (nI 1), u14, u15, u16] [] D := by
  have hBE := DBv
  obtain ⟨D0_, eD0⟩ : ∃ D0_, D0_ = D := ⟨_, rfl⟩
  rw [← eD0] at R g hk ⊢
  have R0 := R
  have f : FrL lo D0_ D0_ := FrL.rf
  refine w_ald6 i114_273 ?_
  refine w_ild7 i114_275 ?_
  refine w_ineNT i114_277 g114_277 (by omega) h0 ?_
  refine w_ldc2 i114_285 (by decide) ?_
  refine w_VD2 i114_287 c126 (Or.inl rfl) (g.rec (by decide +kernel)) (by repeat (first | exact nvL_nil | refine nvL_cons (by first | exact True.intro | exact nvSt (by decide) | exact nvD g.ob.1 | exact nvD hds | exact n14.nv | exact n15.nv | exact n16.nv | exact nvK (by omega) (by omega)) ?_)) ⟨(by repeat (first | exact nvL_nil | refine nvL_cons (by first | exact True.intro | exact nvSt (by decide) | exact nvD g.ob.1 | exact nvD hds | exact n14.nv | exact n15.nv | exact n16.nv | exact nvK (by omega) (by omega)) ?_)), rfl, Nat.le_of_ble_eq_true rfl⟩ ?_
  refine K_appSD g (Tc (c := 16) (k := [32]) (by decide) (by decide) (by decide) (by decide)) (by first | omega | (simp only [List.length_append, List.length_cons, List.length_nil]; omega)) (by have := dyn_ge g.ob; omega) (by have := dyn_ge g.rb; omega) (fun D b g2 => ?_)
  have f := f.tr (StX.fl g g2)
  have g := g2.1
  have R := f.rel R0
  exact hk D b uu g (by omega) f
set_option maxHeartbeats 1000000 in
theorem hs_t2x {d : Nat} {D : Mm} {Q : Option Value → Mm → Prop} {n h o b lo uu : Nat} {tt : List Nat} {V : Nat → Int32} {l1 l2 l3 l4 l5 l8 l9 l10 l11 l12 : Int32} {u14 u15 u16 : Value} (n14 : nvQ u14) (n15 : nvQ u15) (n16 : nvQ u16) (R : Rel D n V) (hle : n ≤ 12) (hop : opV V) (hh : h < 6) (g : SbX D lo 80 uu o b tt) (hu1 : uu ≤ 600000) (hl : tt.length ≤ 79) (hk : ∀ D2 b2 u2, SbX D2 lo 80 u2 o b2 (tt ++ [120]) → u2 ≤ uu + 0 → FrL lo D D2 → Wp (d + 10) 114 Q 328 [.ref 0, .int l1, .int l2, .int l3, .int l4, .int l5, .ref o, .int (nI h), .int l8, .int l9, .int l10, .int l11, .int l12, .int (nI 0), u14, u15, u16] [.ref o] D2) : Wp (d + 10) 114 Q 290 [.ref 0, .int l1, .int l2, .int l3, .int l4, .int l5, .ref o, .int (nI h), .int l8, .int l9, .int l10, .int l11, .int l12, .int (nI 0), u14, u15, u16] [.ref o] D := by
  have hBE := DBv
  obtain ⟨D0_, eD0⟩ : ∃ D0_, D0_ = D := ⟨_, rfl⟩
  rw [← eD0] at R g hk ⊢
  have R0 := R
  have f : FrL lo D0_ D0_ := FrL.rf
  refine w_ild13 i114_290 ?_
  refine w_ieqNT i114_292 g114_292 (by omega) (by omega) ?_
  refine w_ldc2 i114_323 (by decide) ?_
  refine w_VD2 i114_325 c126 (Or.inl rfl) (g.rec (by decide +kernel)) (by repeat (first | exact nvL_nil | refine nvL_cons (by first | exact True.intro | exact nvSt (by decide) | exact nvD g.ob.1 | exact nvD hds | exact n14.nv | exact n15.nv | exact n16.nv | exact nvK (by omega) (by omega)) ?_)) ⟨(by repeat (first | exact nvL_nil | refine nvL_cons (by first | exact True.intro | exact nvSt (by decide) | exact nvD g.ob.1 | exact nvD hds | exact n14.nv | exact n15.nv | exact n16.nv | exact nvK (by omega) (by omega)) ?_)), rfl, Nat.le_of_ble_eq_true rfl⟩ ?_
  refine K_appSD g (Tc (c := 17) (k := [120]) (by decide) (by decide) (by decide) (by decide)) (by first | omega | (simp only [List.length_append, List.length_cons, List.length_nil]; omega)) (by have := dyn_ge g.ob; omega) (by have := dyn_ge g.rb; omega) (fun D b g2 => ?_)
  have f := f.tr (StX.fl g g2)
  have g := g2.1
  have R := f.rel R0
  exact hk D b uu g (by omega) f
set_option maxHeartbeats 1000000 in
theorem hs_t2o {d : Nat} {D : Mm} {Q : Option Value → Mm → Prop} {n h o b lo uu : Nat} {tt : List Nat} {V : Nat → Int32} {l1 l2 l3 l4 l5 l8 l9 l10 l11 l12 : Int32} {u14 u15 u16 : Value} (n14 : nvQ u14) (n15 : nvQ u15) (n16 : nvQ u16) (R : Rel D n V) (hle : n ≤ 12) (hop : opV V) (hh : h < 6) (g : SbX D lo 80 uu o b tt) (hu1 : uu ≤ 600000) (hl : tt.length ≤ 75) {u : Nat} (hu : u < 100000) (hvu : V (6 + 4 * h + 2) = nI u) (hk : ∀ D2 b2 u2, SbX D2 lo 80 u2 o b2 (tt ++ dgl u) → u2 ≤ uu + 105 → FrL lo D D2 → Wp (d + 10) 114 Q 328 [.ref 0, .int l1, .int l2, .int l3, .int l4, .int l5, .ref o, .int (nI h), .int l8, .int l9, .int l10, .int l11, .int l12, .int (nI 1), u14, u15, u16] [.ref o] D2) : Wp (d + 10) 114 Q 290 [.ref 0, .int l1, .int l2, .int l3, .int l4, .int l5, .ref o, .int (nI h), .int l8, .int l9, .int l10, .int l11, .int l12, .int (nI 1), u14, u15, u16] [.ref o] D := by
  have hBE := DBv
  obtain ⟨D0_, eD0⟩ : ∃ D0_, D0_ = D := ⟨_, rfl⟩
  rw [← eD0] at R g hk ⊢
  have R0 := R
  have f : FrL lo D0_ D0_ := FrL.rf
  have ld := @dgl_len u
  refine w_ild13 i114_290 ?_
  refine w_ieqNF i114_292 (by omega) (by omega) ?_
  have hgo := dyn_ge g.ob
  have hgb := dyn_ge g.rb
  have hcp := g.cpm
  have hus := g.us
  refine hs_A n14 n15 n16 R hle hop hh g.ob.1 g.nu (by omega) hu hvu (fun D2 s1 nb x hs1 hg f3 h3 h4 => ?_)
  have hds := hs1.1
  have hlo := g.low
  have g := g.mv (f3.1 o (by omega) (by omega)) (f3.1 b (by omega) (by omega)) f3.2 h3 (u2 := uu + 105) (by omega) (by omega)
  have f := f.tr (f3.mono (show lo ≤ nxt D0_ by omega))
  have R := f.rel R0
  have hne1 : s1 ≠ o := by omega
  have hne2 : nb ≠ b := by omega
  refine w_VD2 i114_325 c126 (Or.inl rfl) (g.rec (by decide +kernel)) (by repeat (first | exact nvL_nil | refine nvL_cons (by first | exact True.intro | exact nvSt (by decide) | exact nvD g.ob.1 | exact nvD hds | exact n14.nv | exact n15.nv | exact n16.nv | exact nvK (by omega) (by omega)) ?_)) ⟨(by repeat (first | exact nvL_nil | refine nvL_cons (by first | exact True.intro | exact nvSt (by decide) | exact nvD g.ob.1 | exact nvD hds | exact n14.nv | exact n15.nv | exact n16.nv | exact nvK (by omega) (by omega)) ?_)), rfl, Nat.le_of_ble_eq_true rfl⟩ ?_
  refine K_appSD g x (by first | omega | (simp only [List.length_append, List.length_cons, List.length_nil]; omega)) hne1 hne2 (fun D b g2 => ?_)
  have f := f.tr (StX.fl g g2)
  have g := g2.1
  have R := f.rel R0
  exact hk D b (uu + 105) g (by omega) f
set_option maxHeartbeats 1000000 in
theorem hs_t3x {d : Nat} {D : Mm} {Q : Option Value → Mm → Prop} {n h o b lo uu : Nat} {tt : List Nat} {V : Nat → Int32} {l1 l2 l3 l4 l5 l8 l9 l10 l11 l12 : Int32} {u14 u15 u16 : Value} (n14 : nvQ u14) (n15 : nvQ u15) (n16 : nvQ u16) (R : Rel D n V) (hle : n ≤ 12) (hop : opV V) (hh : h < 6) (g : SbX D lo 80 uu o b tt) (hu1 : uu ≤ 600000) (hl : tt.length ≤ 79) (hk : ∀ D2 b2 u2, SbX D2 lo 80 u2 o b2 (tt) → u2 ≤ uu + 0 → FrL lo D D2 → Wp (d + 10) 114 Q 377 [.ref 0, .int l1, .int l2, .int l3, .int l4, .int l5, .ref o, .int (nI h), .int l8, .int l9, .int l10, .int l11, .int l12, .int (nI 0), u14, u15, u16] [] D2) : Wp (d + 10) 114 Q 328 [.ref 0, .int l1, .int l2, .int l3, .int l4, .int l5, .ref o, .int (nI h), .int l8, .int l9, .int l10, .int l11, .int l12, .int (nI 0), u14, u15, u16] [.ref o] D := by
  have hBE := DBv
  obtain ⟨D0_, eD0⟩ : ∃ D0_, D0_ = D := ⟨_, rfl⟩
  rw [← eD0] at R g hk ⊢
  have R0 := R
  have f : FrL lo D0_ D0_ := FrL.rf
  refine w_ild13 i114_328 ?_
  refine w_ieqNT i114_330 g114_330 (by omega) (by omega) ?_
  refine w_ldc2 i114_371 (by decide) ?_
  refine w_VD2 i114_373 c126 (Or.inl rfl) (g.rec (by decide +kernel)) (by repeat (first | exact nvL_nil | refine nvL_cons (by first | exact True.intro | exact nvSt (by decide) | exact nvD g.ob.1 | exact nvD hds | exact n14.nv | exact n15.nv | exact n16.nv | exact nvK (by omega) (by omega)) ?_)) ⟨(by repeat (first | exact nvL_nil | refine nvL_cons (by first | exact True.intro | exact nvSt (by decide) | exact nvD g.ob.1 | exact nvD hds | exact n14.nv | exact n15.nv | exact n16.nv | exact nvK (by omega) (by omega)) ?_)), rfl, Nat.le_of_ble_eq_true rfl⟩ ?_
  refine K_appSD g (Tc (c := 9) (k := []) (by decide) (by decide) (by decide) (by decide)) (by first | omega | (simp only [List.length_append, List.length_cons, List.length_nil]; omega)) (by have := dyn_ge g.ob; omega) (by have := dyn_ge g.rb; omega) (fun D b g2 => ?_)
  have f := f.tr (StX.fl g g2)
  have g := g2.1
  have R := f.rel R0
  refine w_pop i114_376 rfl ?_
  rw [List.append_nil] at g
  exact hk D b uu g (by omega) f
set_option maxHeartbeats 1000000 in
theorem hs_t3z {d : Nat} {D : Mm} {Q : Option Value → Mm → Prop} {n h o b lo uu : Nat} {tt : List Nat} {V : Nat → Int32} {l1 l2 l3 l4 l5 l8 l9 l10 l11 l12 : Int32} {u14 u15 u16 : Value} (n14 : nvQ u14) (n15 : nvQ u15) (n16 : nvQ u16) (R : Rel D n V) (hle : n ≤ 12) (hop : opV V) (hh : h < 6) (g : SbX D lo 80 uu o b tt) (hu1 : uu ≤ 600000) (hl : tt.length ≤ 79) (hvu : V (6 + 4 * h + 3) = nI 0) (hk : ∀ D2 b2 u2, SbX D2 lo 80 u2 o b2 (tt) → u2 ≤ uu + 0 → FrL lo D D2 → Wp (d + 10) 114 Q 377 [.ref 0, .int l1, .int l2, .int l3, .int l4, .int l5, .ref o, .int (nI h), .int l8, .int l9, .int l10, .int l11, .int l12, .int (nI 1), u14, u15, u16] [] D2) : Wp (d + 10) 114 Q 328 [.ref 0, .int l1, .int l2, .int l3, .int l4, .int l5, .ref o, .int (nI h), .int l8, .int l9, .int l10, .int l11, .int l12, .int (nI 1), u14, u15, u16] [.ref o] D := by
  have hBE := DBv
  obtain ⟨D0_, eD0⟩ : ∃ D0_, D0_ = D := ⟨_, rfl⟩
  rw [← eD0] at R g hk ⊢
  have R0 := R
  have f : FrL lo D0_ D0_ := FrL.rf
  refine w_ild13 i114_328 ?_
  refine w_ieqNF i114_330 (by omega) (by omega) ?_
  refine w_ald0 i114_333 ?_
  refine w_ild7 i114_334 ?_
  refine w_const i114_336 kc_3 ?_
  refine w_VD3 i114_337 c67 (Or.inl rfl) (Or.inl ⟨by decide +kernel, by decide⟩) (by repeat (first | exact nvL_nil | refine nvL_cons (by first | exact True.intro | exact nvSt (by decide) | exact nvD g.ob.1 | exact nvD hds | exact n14.nv | exact n15.nv | exact n16.nv | exact nvK (by omega) (by omega)) ?_)) ⟨(by repeat (first | exact nvL_nil | refine nvL_cons (by first | exact True.intro | exact nvSt (by decide) | exact nvD g.ob.1 | exact nvD hds | exact n14.nv | exact n15.nv | exact n16.nv | exact nvK (by omega) (by omega)) ?_)), rfl, Nat.le_of_ble_eq_true rfl⟩ (Ex_go (K_houseOf_3 R hle hop hh) ?_)
  rw [hvu]
  refine w_ileNT i114_340 g114_340 (by omega) (Nat.le_refl _) ?_
  refine w_ldc2 i114_371 (by decide) ?_
  refine w_VD2 i114_373 c126 (Or.inl rfl) (g.rec (by decide +kernel)) (by repeat (first | exact nvL_nil | refine nvL_cons (by first | exact True.intro | exact nvSt (by decide) | exact nvD g.ob.1 | exact nvD hds | exact n14.nv | exact n15.nv | exact n16.nv | exact nvK (by omega) (by omega)) ?_)) ⟨(by repeat (first | exact nvL_nil | refine nvL_cons (by first | exact True.intro | exact nvSt (by decide) | exact nvD g.ob.1 | exact nvD hds | exact n14.nv | exact n15.nv | exact n16.nv | exact nvK (by omega) (by omega)) ?_)), rfl, Nat.le_of_ble_eq_true rfl⟩ ?_
  refine K_appSD g (Tc (c := 9) (k := []) (by decide) (by decide) (by decide) (by decide)) (by first | omega | (simp only [List.length_append, List.length_cons, List.length_nil]; omega)) (by have := dyn_ge g.ob; omega) (by have := dyn_ge g.rb; omega) (fun D b g2 => ?_)
  have f := f.tr (StX.fl g g2)
  have g := g2.1
  have R := f.rel R0
  refine w_pop i114_376 rfl ?_
  rw [List.append_nil] at g
  exact hk D b uu g (by omega) f
set_option maxHeartbeats 1000000 in
theorem hs_t3o {d : Nat} {D : Mm} {Q : Option Value → Mm → Prop} {n h o b lo uu : Nat} {tt : List Nat} {V : Nat → Int32} {l1 l2 l3 l4 l5 l8 l9 l10 l11 l12 : Int32} {u14 u15 u16 : Value} (n14 : nvQ u14) (n15 : nvQ u15) (n16 : nvQ u16) (R : Rel D n V) (hle : n ≤ 12) (hop : opV V) (hh : h < 6) (g : SbX D lo 80 uu o b tt) (hu1 : uu ≤ 600000) (hl : tt.length ≤ 74) {u : Nat} (hu : u < 100000) (h0 : 0 < u) (hvu : V (6 + 4 * h + 3) = nI u) (hk : ∀ D2 b2 u2, SbX D2 lo 80 u2 o b2 (tt ++ ([43] ++ dgl u)) → u2 ≤ uu + 105 → FrL lo D D2 → Wp (d + 10) 114 Q 377 [.ref 0, .int l1, .int l2, .int l3, .int l4, .int l5, .ref o, .int (nI h), .int l8, .int l9, .int l10, .int l11, .int l12, .int (nI 1), u14, u15, u16] [] D2) : Wp (d + 10) 114 Q 328 [.ref 0, .int l1, .int l2, .int l3, .int l4, .int l5, .ref o, .int (nI h), .int l8, .int l9, .int l10, .int l11, .int l12, .int (nI 1), u14, u15, u16] [.ref o] D := by
  have hBE := DBv
  obtain ⟨D0_, eD0⟩ : ∃ D0_, D0_ = D := ⟨_, rfl⟩
  rw [← eD0] at R g hk ⊢
  have R0 := R
  have f : FrL lo D0_ D0_ := FrL.rf
  have ld := @dgl_len u
  refine w_ild13 i114_328 ?_
  refine w_ieqNF i114_330 (by omega) (by omega) ?_
  refine w_ald0 i114_333 ?_
  refine w_ild7 i114_334 ?_
  refine w_const i114_336 kc_3 ?_
  refine w_VD3 i114_337 c67 (Or.inl rfl) (Or.inl ⟨by decide +kernel, by decide⟩) (by repeat (first | exact nvL_nil | refine nvL_cons (by first | exact True.intro | exact nvSt (by decide) | exact nvD g.ob.1 | exact nvD hds | exact n14.nv | exact n15.nv | exact n16.nv | exact nvK (by omega) (by omega)) ?_)) ⟨(by repeat (first | exact nvL_nil | refine nvL_cons (by first | exact True.intro | exact nvSt (by decide) | exact nvD g.ob.1 | exact nvD hds | exact n14.nv | exact n15.nv | exact n16.nv | exact nvK (by omega) (by omega)) ?_)), rfl, Nat.le_of_ble_eq_true rfl⟩ (Ex_go (K_houseOf_3 R hle hop hh) ?_)
  rw [hvu]
  refine w_ileNF i114_340 (by omega) h0 ?_
  have hgo := dyn_ge g.ob
  have hgb := dyn_ge g.rb
  have hcp := g.cpm
  have hus := g.us
  refine hs_B n14 n15 n16 R hle hop hh g.ob.1 g.nu (by omega) hu hvu (fun D2 s1 nb x hs1 hg f3 h3 h4 => ?_)
  have hds := hs1.1
  have hlo := g.low
  have g := g.mv (f3.1 o (by omega) (by omega)) (f3.1 b (by omega) (by omega)) f3.2 h3 (u2 := uu + 105) (by omega) (by omega)
  have f := f.tr (f3.mono (show lo ≤ nxt D0_ by omega))
  have R := f.rel R0
  have hne1 : s1 ≠ o := by omega
  have hne2 : nb ≠ b := by omega
  refine w_VD2 i114_373 c126 (Or.inl rfl) (g.rec (by decide +kernel)) (by repeat (first | exact nvL_nil | refine nvL_cons (by first | exact True.intro | exact nvSt (by decide) | exact nvD g.ob.1 | exact nvD hds | exact n14.nv | exact n15.nv | exact n16.nv | exact nvK (by omega) (by omega)) ?_)) ⟨(by repeat (first | exact nvL_nil | refine nvL_cons (by first | exact True.intro | exact nvSt (by decide) | exact nvD g.ob.1 | exact nvD hds | exact n14.nv | exact n15.nv | exact n16.nv | exact nvK (by omega) (by omega)) ?_)), rfl, Nat.le_of_ble_eq_true rfl⟩ ?_
  refine K_appSD g x (by first | omega | (simp only [List.length_append, List.length_cons, List.length_nil]; omega)) hne1 hne2 (fun D b g2 => ?_)
  have f := f.tr (StX.fl g g2)
  have g := g2.1
  have R := f.rel R0
  refine w_pop i114_376 rfl ?_
  exact hk D b (uu + 105) g (by omega) f
