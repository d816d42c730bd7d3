/-! the law's stubs: the texts -/
theorem nv_le {D D2 : Mm} {v : Value} (h : nvV D v) (hn : nxt D ≤ nxt D2) : nvV D2 v := by
  cases v with
  | ref a =>
    obtain ⟨h1, h2, h3⟩ := h
    exact ⟨h1, h2, h3.imp id (fun q => dv_le q hn)⟩
  | _ => exact True.intro
theorem Tc {D : Mm} {c : Nat} {k : List Nat} (hc : c < 19) (hk : roc (c + 2000) = k.map nI) (h1 : ∀ x, x ∈ k → x < 128) (h2 : k.length ≤ 5000) : TxD D (1000 + c) (c + 2000) k := ⟨h1, h2, Or.inr ⟨by omega, by omega, by omega, hk⟩⟩
theorem Fr0.rel {D D2 : Mm} {n : Nat} {V : Nat → Int32} (h : Fr0 D D2) (R : Rel D n V) : Rel D2 n V := h.t.rel R
set_option maxHeartbeats 1000000 in
theorem su_A {d : Nat} {D : Mm} {Q : Option Value → Mm → Prop} {n B s o ar : Nat} {V : Nat → Int32} {l3 l5 l7 : Int32} {l8 l9 l10 l11 : Value} (n8 : nvV D l8) (n9 : nvV D l9) (n10 : nvV D l10) (n11 : nvV D l11) (R : Rel D n V) (H : IV n V B) (hs : s < n) (hdo : dv D o) (hda : dv D ar) (hu0 : nxt D ≤ usd D) (hu1 : usd D ≤ 900000) {t u : Nat} (ht : t < 100) (hu : u < 100) (hvu : vStubOf V s 4 = nI u) (hk : ∀ D2 s1 nb, TxD D2 s1 nb ([62] ++ dgl t ++ [61] ++ dgl u) → dyn D2 s1 9 → DB + nxt D ≤ s1 ∧ DB + nxt D ≤ nb → Fr0 D D2 → nxt D2 ≤ usd D2 → usd D2 ≤ usd D + 105 → Wp (d + 10) 113 Q 146 [.ref 0, .int (nI n), .ref ar, .int l3, .int (nI s), .int l5, .int (nI t), .int l7, l8, l9, l10, l11] [.ref s1, .ref o] D2) : Wp (d + 10) 113 Q 106 [.ref 0, .int (nI n), .ref ar, .int l3, .int (nI s), .int l5, .int (nI t), .int l7, l8, l9, l10, l11] [.ref o] D := by
  have hBE := DBv
  obtain ⟨D0_, eD0⟩ : ∃ D0_, D0_ = D := ⟨_, rfl⟩
  rw [← eD0] at R hdo hda hu0 hu1 hk n8 n9 n10 n11 ⊢
  have R0 := R
  have hdo0 := hdo
  have hda0 := hda
  have hf : fitU D0_ 4 := ⟨by omega, hu0⟩
  obtain ⟨p, ep⟩ : ∃ p, p = DB + nxt D0_ := ⟨_, rfl⟩
  obtain ⟨D1, e1⟩ : ∃ D1, D1 = alD D0_ (rwO 0) 4 := ⟨_, rfl⟩
  have hN : NwX D1 (nxt D0_) (usd D0_ + 5) p := by rw [e1, ep]; exact NwX.new hu0 (by omega) (by omega)
  have f1 : Fr0 D0_ D1 := by rw [e1]; exact FrL.al hf (Nat.le_refl _)
  have hle := H.2.1
  have okt : okN (nI t) (ndt (nI t)) := okN_n (by omega)
  have oku : okN (nI u) (ndt (nI u)) := okN_n (by omega)
  have ltl := (okN_len okt).1
  have lul := (okN_len oku).1
  have l2t : (ndt (nI t)).length ≤ 2 := by rw [ndt_n (by omega)]; exact dgl_2 ht
  have l2u : (ndt (nI u)).length ≤ 2 := by rw [ndt_n (by omega)]; exact dgl_2 hu
  have ht : t < 100000 := by omega
  have hu : u < 100000 := by omega
  refine w_new i113_106 (Or.inl rfl) (nvL_ok (by repeat (first | exact nvL_nil | refine nvL_cons (by first | exact True.intro | exact nvSt (by decide) | exact nvD g.ob.1 | exact nvD hN.1.1 | exact nvD (dv_le hdo0 f.2) | exact nvD (dv_le hda0 f.2) | exact nvD (dv_le hdo0 f1.2) | exact nvD (dv_le hda0 f1.2) | exact nvD hdo0 | exact nvD hda0 | exact nvD hds | exact nv_le n8 f.2 | exact nv_le n9 f.2 | exact nv_le n10 f.2 | exact nv_le n11 f.2 | exact nv_le n8 f1.2 | exact nv_le n9 f1.2 | exact nv_le n10 f1.2 | exact nv_le n11 f1.2 | exact n8 | exact n9 | exact n10 | exact n11 | exact nvK (by omega) (by omega)) ?_))) (nvL_ok (by repeat (first | exact nvL_nil | refine nvL_cons (by first | exact True.intro | exact nvSt (by decide) | exact nvD g.ob.1 | exact nvD hN.1.1 | exact nvD (dv_le hdo0 f.2) | exact nvD (dv_le hda0 f.2) | exact nvD (dv_le hdo0 f1.2) | exact nvD (dv_le hda0 f1.2) | exact nvD hdo0 | exact nvD hda0 | exact nvD hds | exact nv_le n8 f.2 | exact nv_le n9 f.2 | exact nv_le n10 f.2 | exact nv_le n11 f.2 | exact nv_le n8 f1.2 | exact nv_le n9 f1.2 | exact nv_le n10 f1.2 | exact nv_le n11 f1.2 | exact n8 | exact n9 | exact n10 | exact n11 | exact nvK (by omega) (by omega)) ?_))) hf ?_
  rw [show nF 0 = 4 from rfl, ← ep, ← e1]
  refine w_dup i113_109 rfl ?_
  refine w_PD1 i113_110 c122 (Or.inr rfl) (Or.inr ⟨hN.1.1, by rw [hN.1.2]; decide +kernel, by rw [hN.1.2]; decide⟩) (by repeat (first | exact nvL_nil | refine nvL_cons (by first | exact True.intro | exact nvSt (by decide) | exact nvD g.ob.1 | exact nvD hN.1.1 | exact nvD (dv_le hdo0 f.2) | exact nvD (dv_le hda0 f.2) | exact nvD (dv_le hdo0 f1.2) | exact nvD (dv_le hda0 f1.2) | exact nvD hdo0 | exact nvD hda0 | exact nvD hds | exact nv_le n8 f.2 | exact nv_le n9 f.2 | exact nv_le n10 f.2 | exact nv_le n11 f.2 | exact nv_le n8 f1.2 | exact nv_le n9 f1.2 | exact nv_le n10 f1.2 | exact nv_le n11 f1.2 | exact n8 | exact n9 | exact n10 | exact n11 | exact nvK (by omega) (by omega)) ?_)) ⟨(by repeat (first | exact nvL_nil | refine nvL_cons (by first | exact True.intro | exact nvSt (by decide) | exact nvD g.ob.1 | exact nvD hN.1.1 | exact nvD (dv_le hdo0 f.2) | exact nvD (dv_le hda0 f.2) | exact nvD (dv_le hdo0 f1.2) | exact nvD (dv_le hda0 f1.2) | exact nvD hdo0 | exact nvD hda0 | exact nvD hds | exact nv_le n8 f.2 | exact nv_le n9 f.2 | exact nv_le n10 f.2 | exact nv_le n11 f.2 | exact nv_le n8 f1.2 | exact nv_le n9 f1.2 | exact nv_le n10 f1.2 | exact nv_le n11 f1.2 | exact n8 | exact n9 | exact n10 | exact n11 | exact nvK (by omega) (by omega)) ?_)), rfl, Nat.le_of_ble_eq_true rfl⟩ ?_
  refine K_newSB (T := 10) hN (by omega) (fun D b g g3 g4 => ?_)
  have f : Fr0 D0_ D := by
    have := f1.2
    have hl2 := g.low
    exact ⟨fun q x y => (g3.1 q (by omega) y (by omega) (by omega)).trans (f1.1 q x y), Nat.le_trans f1.2 g3.2⟩
  have R := f.rel R0
  refine w_ldc2 i113_113 (by decide) ?_
  refine w_VD2 i113_115 c126 (Or.inl rfl) (g.rec (by decide +kernel)) (by repeat (first | exact nvL_nil | refine nvL_cons (by first | exact True.intro | exact nvSt (by decide) | exact nvD g.ob.1 | exact nvD hN.1.1 | exact nvD (dv_le hdo0 f.2) | exact nvD (dv_le hda0 f.2) | exact nvD (dv_le hdo0 f1.2) | exact nvD (dv_le hda0 f1.2) | exact nvD hdo0 | exact nvD hda0 | exact nvD hds | exact nv_le n8 f.2 | exact nv_le n9 f.2 | exact nv_le n10 f.2 | exact nv_le n11 f.2 | exact nv_le n8 f1.2 | exact nv_le n9 f1.2 | exact nv_le n10 f1.2 | exact nv_le n11 f1.2 | exact n8 | exact n9 | exact n10 | exact n11 | exact nvK (by omega) (by omega)) ?_)) ⟨(by repeat (first | exact nvL_nil | refine nvL_cons (by first | exact True.intro | exact nvSt (by decide) | exact nvD g.ob.1 | exact nvD hN.1.1 | exact nvD (dv_le hdo0 f.2) | exact nvD (dv_le hda0 f.2) | exact nvD (dv_le hdo0 f1.2) | exact nvD (dv_le hda0 f1.2) | exact nvD hdo0 | exact nvD hda0 | exact nvD hds | exact nv_le n8 f.2 | exact nv_le n9 f.2 | exact nv_le n10 f.2 | exact nv_le n11 f.2 | exact nv_le n8 f1.2 | exact nv_le n9 f1.2 | exact nv_le n10 f1.2 | exact nv_le n11 f1.2 | exact n8 | exact n9 | exact n10 | exact n11 | exact nvK (by omega) (by omega)) ?_)), rfl, Nat.le_of_ble_eq_true rfl⟩ ?_
  refine K_appSD g (Tc (c := 13) (k := [62]) (by decide) (by decide) (by decide) (by decide)) (by first | omega | (simp only [List.length_append, List.length_cons, List.length_nil]; omega)) (by have := dyn_ge g.ob; omega) (by have := dyn_ge g.rb; omega) (fun D b g2 => ?_)
  have f := f.st g g2
  have g := g2.1
  have R := f.rel R0
  refine w_ild6 i113_118 ?_
  refine w_VD2 i113_120 c190 (Or.inl rfl) (g.rec (by decide +kernel)) (by repeat (first | exact nvL_nil | refine nvL_cons (by first | exact True.intro | exact nvSt (by decide) | exact nvD g.ob.1 | exact nvD hN.1.1 | exact nvD (dv_le hdo0 f.2) | exact nvD (dv_le hda0 f.2) | exact nvD (dv_le hdo0 f1.2) | exact nvD (dv_le hda0 f1.2) | exact nvD hdo0 | exact nvD hda0 | exact nvD hds | exact nv_le n8 f.2 | exact nv_le n9 f.2 | exact nv_le n10 f.2 | exact nv_le n11 f.2 | exact nv_le n8 f1.2 | exact nv_le n9 f1.2 | exact nv_le n10 f1.2 | exact nv_le n11 f1.2 | exact n8 | exact n9 | exact n10 | exact n11 | exact nvK (by omega) (by omega)) ?_)) ⟨(by repeat (first | exact nvL_nil | refine nvL_cons (by first | exact True.intro | exact nvSt (by decide) | exact nvD g.ob.1 | exact nvD hN.1.1 | exact nvD (dv_le hdo0 f.2) | exact nvD (dv_le hda0 f.2) | exact nvD (dv_le hdo0 f1.2) | exact nvD (dv_le hda0 f1.2) | exact nvD hdo0 | exact nvD hda0 | exact nvD hds | exact nv_le n8 f.2 | exact nv_le n9 f.2 | exact nv_le n10 f.2 | exact nv_le n11 f.2 | exact nv_le n8 f1.2 | exact nv_le n9 f1.2 | exact nv_le n10 f1.2 | exact nv_le n11 f1.2 | exact n8 | exact n9 | exact n10 | exact n11 | exact nvK (by omega) (by omega)) ?_)), rfl, Nat.le_of_ble_eq_true rfl⟩ ?_
  refine K_appID g okt (by first | omega | (simp only [List.length_append, List.length_cons, List.length_nil]; omega)) (fun D b g2 => ?_)
  have f := f.st g g2
  have g := g2.1
  have R := f.rel R0
  refine w_ldc2 i113_123 (by decide) ?_
  refine w_VD2 i113_125 c126 (Or.inl rfl) (g.rec (by decide +kernel)) (by repeat (first | exact nvL_nil | refine nvL_cons (by first | exact True.intro | exact nvSt (by decide) | exact nvD g.ob.1 | exact nvD hN.1.1 | exact nvD (dv_le hdo0 f.2) | exact nvD (dv_le hda0 f.2) | exact nvD (dv_le hdo0 f1.2) | exact nvD (dv_le hda0 f1.2) | exact nvD hdo0 | exact nvD hda0 | exact nvD hds | exact nv_le n8 f.2 | exact nv_le n9 f.2 | exact nv_le n10 f.2 | exact nv_le n11 f.2 | exact nv_le n8 f1.2 | exact nv_le n9 f1.2 | exact nv_le n10 f1.2 | exact nv_le n11 f1.2 | exact n8 | exact n9 | exact n10 | exact n11 | exact nvK (by omega) (by omega)) ?_)) ⟨(by repeat (first | exact nvL_nil | refine nvL_cons (by first | exact True.intro | exact nvSt (by decide) | exact nvD g.ob.1 | exact nvD hN.1.1 | exact nvD (dv_le hdo0 f.2) | exact nvD (dv_le hda0 f.2) | exact nvD (dv_le hdo0 f1.2) | exact nvD (dv_le hda0 f1.2) | exact nvD hdo0 | exact nvD hda0 | exact nvD hds | exact nv_le n8 f.2 | exact nv_le n9 f.2 | exact nv_le n10 f.2 | exact nv_le n11 f.2 | exact nv_le n8 f1.2 | exact nv_le n9 f1.2 | exact nv_le n10 f1.2 | exact nv_le n11 f1.2 | exact n8 | exact n9 | exact n10 | exact n11 | exact nvK (by omega) (by omega)) ?_)), rfl, Nat.le_of_ble_eq_true rfl⟩ ?_
  refine K_appSD g (Tc (c := 14) (k := [61]) (by decide) (by decide) (by decide) (by decide)) (by first | omega | (simp only [List.length_append, List.length_cons, List.length_nil]; omega)) (by have := dyn_ge g.ob; omega) (by have := dyn_ge g.rb; omega) (fun D b g2 => ?_)
  have f := f.st g g2
  have g := g2.1
  have R := f.rel R0
  refine w_ald0 i113_128 ?_
  refine w_ild4 i113_129 ?_
  refine w_const i113_131 kc_4 ?_
  refine w_VD3 i113_132 c58 (Or.inl rfl) (Or.inl ⟨by decide +kernel, by decide⟩) (by repeat (first | exact nvL_nil | refine nvL_cons (by first | exact True.intro | exact nvSt (by decide) | exact nvD g.ob.1 | exact nvD hN.1.1 | exact nvD (dv_le hdo0 f.2) | exact nvD (dv_le hda0 f.2) | exact nvD (dv_le hdo0 f1.2) | exact nvD (dv_le hda0 f1.2) | exact nvD hdo0 | exact nvD hda0 | exact nvD hds | exact nv_le n8 f.2 | exact nv_le n9 f.2 | exact nv_le n10 f.2 | exact nv_le n11 f.2 | exact nv_le n8 f1.2 | exact nv_le n9 f1.2 | exact nv_le n10 f1.2 | exact nv_le n11 f1.2 | exact n8 | exact n9 | exact n10 | exact n11 | exact nvK (by omega) (by omega)) ?_)) ⟨(by repeat (first | exact nvL_nil | refine nvL_cons (by first | exact True.intro | exact nvSt (by decide) | exact nvD g.ob.1 | exact nvD hN.1.1 | exact nvD (dv_le hdo0 f.2) | exact nvD (dv_le hda0 f.2) | exact nvD (dv_le hdo0 f1.2) | exact nvD (dv_le hda0 f1.2) | exact nvD hdo0 | exact nvD hda0 | exact nvD hds | exact nv_le n8 f.2 | exact nv_le n9 f.2 | exact nv_le n10 f.2 | exact nv_le n11 f.2 | exact nv_le n8 f1.2 | exact nv_le n9 f1.2 | exact nv_le n10 f1.2 | exact nv_le n11 f1.2 | exact n8 | exact n9 | exact n10 | exact n11 | exact nvK (by omega) (by omega)) ?_)), rfl, Nat.le_of_ble_eq_true rfl⟩ (Ex_go (K_stubOf_4 R hle hs) ?_)
  rw [hvu]
  refine w_VD2 i113_135 c190 (Or.inl rfl) (g.rec (by decide +kernel)) (by repeat (first | exact nvL_nil | refine nvL_cons (by first | exact True.intro | exact nvSt (by decide) | exact nvD g.ob.1 | exact nvD hN.1.1 | exact nvD (dv_le hdo0 f.2) | exact nvD (dv_le hda0 f.2) | exact nvD (dv_le hdo0 f1.2) | exact nvD (dv_le hda0 f1.2) | exact nvD hdo0 | exact nvD hda0 | exact nvD hds | exact nv_le n8 f.2 | exact nv_le n9 f.2 | exact nv_le n10 f.2 | exact nv_le n11 f.2 | exact nv_le n8 f1.2 | exact nv_le n9 f1.2 | exact nv_le n10 f1.2 | exact nv_le n11 f1.2 | exact n8 | exact n9 | exact n10 | exact n11 | exact nvK (by omega) (by omega)) ?_)) ⟨(by repeat (first | exact nvL_nil | refine nvL_cons (by first | exact True.intro | exact nvSt (by decide) | exact nvD g.ob.1 | exact nvD hN.1.1 | exact nvD (dv_le hdo0 f.2) | exact nvD (dv_le hda0 f.2) | exact nvD (dv_le hdo0 f1.2) | exact nvD (dv_le hda0 f1.2) | exact nvD hdo0 | exact nvD hda0 | exact nvD hds | exact nv_le n8 f.2 | exact nv_le n9 f.2 | exact nv_le n10 f.2 | exact nv_le n11 f.2 | exact nv_le n8 f1.2 | exact nv_le n9 f1.2 | exact nv_le n10 f1.2 | exact nv_le n11 f1.2 | exact n8 | exact n9 | exact n10 | exact n11 | exact nvK (by omega) (by omega)) ?_)), rfl, Nat.le_of_ble_eq_true rfl⟩ ?_
  refine K_appID g oku (by first | omega | (simp only [List.length_append, List.length_cons, List.length_nil]; omega)) (fun D b g2 => ?_)
  have f := f.st g g2
  have g := g2.1
  have R := f.rel R0
  refine w_VD1 i113_138 c135 (Or.inl rfl) (g.rec (by decide +kernel)) (by repeat (first | exact nvL_nil | refine nvL_cons (by first | exact True.intro | exact nvSt (by decide) | exact nvD g.ob.1 | exact nvD hN.1.1 | exact nvD (dv_le hdo0 f.2) | exact nvD (dv_le hda0 f.2) | exact nvD (dv_le hdo0 f1.2) | exact nvD (dv_le hda0 f1.2) | exact nvD hdo0 | exact nvD hda0 | exact nvD hds | exact nv_le n8 f.2 | exact nv_le n9 f.2 | exact nv_le n10 f.2 | exact nv_le n11 f.2 | exact nv_le n8 f1.2 | exact nv_le n9 f1.2 | exact nv_le n10 f1.2 | exact nv_le n11 f1.2 | exact n8 | exact n9 | exact n10 | exact n11 | exact nvK (by omega) (by omega)) ?_)) ⟨(by repeat (first | exact nvL_nil | refine nvL_cons (by first | exact True.intro | exact nvSt (by decide) | exact nvD g.ob.1 | exact nvD hN.1.1 | exact nvD (dv_le hdo0 f.2) | exact nvD (dv_le hda0 f.2) | exact nvD (dv_le hdo0 f1.2) | exact nvD (dv_le hda0 f1.2) | exact nvD hdo0 | exact nvD hda0 | exact nvD hds | exact nv_le n8 f.2 | exact nv_le n9 f.2 | exact nv_le n10 f.2 | exact nv_le n11 f.2 | exact nv_le n8 f1.2 | exact nv_le n9 f1.2 | exact nv_le n10 f1.2 | exact nv_le n11 f1.2 | exact n8 | exact n9 | exact n10 | exact n11 | exact nvK (by omega) (by omega)) ?_)), rfl, Nat.le_of_ble_eq_true rfl⟩ ?_
  have hus := g.us
  have hcp := g.cpm
  refine K_tsD g (by first | omega | (simp only [List.length_append, List.length_cons, List.length_nil]; omega)) (by omega) (fun D s1 nb x hs1 hg f3 h3 h4 => ?_)
  have f2' := f.2
  have hds := hs1.1
  
  refine w_goto i113_141 g113_141 ?_
  refine hk D s1 nb ?_ hs1 ⟨by omega, by omega⟩ (f.tr f3) h3 ?_
  · have e9 : [] ++ [62] ++ ndt (nI t) ++ [61] ++ ndt (nI u) = [62] ++ dgl t ++ [61] ++ dgl u := by simp only [ndt_n ht, ndt_n hu, List.nil_append]
    rw [← e9]; exact x
  · rw [h4]
    simp only [List.length_append, List.length_cons, List.length_nil]
    omega
set_option maxHeartbeats 1000000 in
theorem su_B {d : Nat} {D : Mm} {Q : Option Value → Mm → Prop} {n B s o ar : Nat} {V : Nat → Int32} {l3 l5 l6 l7 : Int32} {l8 l9 l10 l11 : Value} (n8 : nvV D l8) (n9 : nvV D l9) (n10 : nvV D l10) (n11 : nvV D l11) (R : Rel D n V) (H : IV n V B) (hs : s < n) (hdo : dv D o) (hda : dv D ar) (hu0 : nxt D ≤ usd D) (hu1 : usd D ≤ 900000) {u : Nat} (hu : u < 100) (hvu : vStubOf V s 5 = nI u) (hk : ∀ D2 s1 nb, TxD D2 s1 nb ([33] ++ dgl u) → dyn D2 s1 9 → DB + nxt D ≤ s1 ∧ DB + nxt D ≤ nb → Fr0 D D2 → nxt D2 ≤ usd D2 → usd D2 ≤ usd D + 105 → Wp (d + 10) 113 Q 184 [.ref 0, .int (nI n), .ref ar, .int l3, .int (nI s), .int l5, .int l6, .int l7, l8, l9, l10, l11] [.ref s1, .ref o] D2) : Wp (d + 10) 113 Q 154 [.ref 0, .int (nI n), .ref ar, .int l3, .int (nI s), .int l5, .int l6, .int l7, l8, l9, l10, l11] [.ref o] D := by
  have hBE := DBv
  obtain ⟨D0_, eD0⟩ : ∃ D0_, D0_ = D := ⟨_, rfl⟩
  rw [← eD0] at R hdo hda hu0 hu1 hk n8 n9 n10 n11 ⊢
  have R0 := R
  have hdo0 := hdo
  have hda0 := hda
  have hf : fitU D0_ 4 := ⟨by omega, hu0⟩
  obtain ⟨p, ep⟩ : ∃ p, p = DB + nxt D0_ := ⟨_, rfl⟩
  obtain ⟨D1, e1⟩ : ∃ D1, D1 = alD D0_ (rwO 0) 4 := ⟨_, rfl⟩
  have hN : NwX D1 (nxt D0_) (usd D0_ + 5) p := by rw [e1, ep]; exact NwX.new hu0 (by omega) (by omega)
  have f1 : Fr0 D0_ D1 := by rw [e1]; exact FrL.al hf (Nat.le_refl _)
  have hle := H.2.1
  have oku : okN (nI u) (ndt (nI u)) := okN_n (by omega)
  have lul := (okN_len oku).1
  have hu : u < 100000 := by omega
  refine w_new i113_154 (Or.inl rfl) (nvL_ok (by repeat (first | exact nvL_nil | refine nvL_cons (by first | exact True.intro | exact nvSt (by decide) | exact nvD g.ob.1 | exact nvD hN.1.1 | exact nvD (dv_le hdo0 f.2) | exact nvD (dv_le hda0 f.2) | exact nvD (dv_le hdo0 f1.2) | exact nvD (dv_le hda0 f1.2) | exact nvD hdo0 | exact nvD hda0 | exact nvD hds | exact nv_le n8 f.2 | exact nv_le n9 f.2 | exact nv_le n10 f.2 | exact nv_le n11 f.2 | exact nv_le n8 f1.2 | exact nv_le n9 f1.2 | exact nv_le n10 f1.2 | exact nv_le n11 f1.2 | exact n8 | exact n9 | exact n10 | exact n11 | exact nvK (by omega) (by omega)) ?_))) (nvL_ok (by repeat (first | exact nvL_nil | refine nvL_cons (by first | exact True.intro | exact nvSt (by decide) | exact nvD g.ob.1 | exact nvD hN.1.1 | exact nvD (dv_le hdo0 f.2) | exact nvD (dv_le hda0 f.2) | exact nvD (dv_le hdo0 f1.2) | exact nvD (dv_le hda0 f1.2) | exact nvD hdo0 | exact nvD hda0 | exact nvD hds | exact nv_le n8 f.2 | exact nv_le n9 f.2 | exact nv_le n10 f.2 | exact nv_le n11 f.2 | exact nv_le n8 f1.2 | exact nv_le n9 f1.2 | exact nv_le n10 f1.2 | exact nv_le n11 f1.2 | exact n8 | exact n9 | exact n10 | exact n11 | exact nvK (by omega) (by omega)) ?_))) hf ?_
  rw [show nF 0 = 4 from rfl, ← ep, ← e1]
  refine w_dup i113_157 rfl ?_
  refine w_PD1 i113_158 c122 (Or.inr rfl) (Or.inr ⟨hN.1.1, by rw [hN.1.2]; decide +kernel, by rw [hN.1.2]; decide⟩) (by repeat (first | exact nvL_nil | refine nvL_cons (by first | exact True.intro | exact nvSt (by decide) | exact nvD g.ob.1 | exact nvD hN.1.1 | exact nvD (dv_le hdo0 f.2) | exact nvD (dv_le hda0 f.2) | exact nvD (dv_le hdo0 f1.2) | exact nvD (dv_le hda0 f1.2) | exact nvD hdo0 | exact nvD hda0 | exact nvD hds | exact nv_le n8 f.2 | exact nv_le n9 f.2 | exact nv_le n10 f.2 | exact nv_le n11 f.2 | exact nv_le n8 f1.2 | exact nv_le n9 f1.2 | exact nv_le n10 f1.2 | exact nv_le n11 f1.2 | exact n8 | exact n9 | exact n10 | exact n11 | exact nvK (by omega) (by omega)) ?_)) ⟨(by repeat (first | exact nvL_nil | refine nvL_cons (by first | exact True.intro | exact nvSt (by decide) | exact nvD g.ob.1 | exact nvD hN.1.1 | exact nvD (dv_le hdo0 f.2) | exact nvD (dv_le hda0 f.2) | exact nvD (dv_le hdo0 f1.2) | exact nvD (dv_le hda0 f1.2) | exact nvD hdo0 | exact nvD hda0 | exact nvD hds | exact nv_le n8 f.2 | exact nv_le n9 f.2 | exact nv_le n10 f.2 | exact nv_le n11 f.2 | exact nv_le n8 f1.2 | exact nv_le n9 f1.2 | exact nv_le n10 f1.2 | exact nv_le n11 f1.2 | exact n8 | exact n9 | exact n10 | exact n11 | exact nvK (by omega) (by omega)) ?_)), rfl, Nat.le_of_ble_eq_true rfl⟩ ?_
  refine K_newSB (T := 10) hN (by omega) (fun D b g g3 g4 => ?_)
  have f : Fr0 D0_ D := by
    have := f1.2
    have hl2 := g.low
    exact ⟨fun q x y => (g3.1 q (by omega) y (by omega) (by omega)).trans (f1.1 q x y), Nat.le_trans f1.2 g3.2⟩
  have R := f.rel R0
  refine w_ldc2 i113_161 (by decide) ?_
  refine w_VD2 i113_163 c126 (Or.inl rfl) (g.rec (by decide +kernel)) (by repeat (first | exact nvL_nil | refine nvL_cons (by first | exact True.intro | exact nvSt (by decide) | exact nvD g.ob.1 | exact nvD hN.1.1 | exact nvD (dv_le hdo0 f.2) | exact nvD (dv_le hda0 f.2) | exact nvD (dv_le hdo0 f1.2) | exact nvD (dv_le hda0 f1.2) | exact nvD hdo0 | exact nvD hda0 | exact nvD hds | exact nv_le n8 f.2 | exact nv_le n9 f.2 | exact nv_le n10 f.2 | exact nv_le n11 f.2 | exact nv_le n8 f1.2 | exact nv_le n9 f1.2 | exact nv_le n10 f1.2 | exact nv_le n11 f1.2 | exact n8 | exact n9 | exact n10 | exact n11 | exact nvK (by omega) (by omega)) ?_)) ⟨(by repeat (first | exact nvL_nil | refine nvL_cons (by first | exact True.intro | exact nvSt (by decide) | exact nvD g.ob.1 | exact nvD hN.1.1 | exact nvD (dv_le hdo0 f.2) | exact nvD (dv_le hda0 f.2) | exact nvD (dv_le hdo0 f1.2) | exact nvD (dv_le hda0 f1.2) | exact nvD hdo0 | exact nvD hda0 | exact nvD hds | exact nv_le n8 f.2 | exact nv_le n9 f.2 | exact nv_le n10 f.2 | exact nv_le n11 f.2 | exact nv_le n8 f1.2 | exact nv_le n9 f1.2 | exact nv_le n10 f1.2 | exact nv_le n11 f1.2 | exact n8 | exact n9 | exact n10 | exact n11 | exact nvK (by omega) (by omega)) ?_)), rfl, Nat.le_of_ble_eq_true rfl⟩ ?_
  refine K_appSD g (Tc (c := 15) (k := [33]) (by decide) (by decide) (by decide) (by decide)) (by first | omega | (simp only [List.length_append, List.length_cons, List.length_nil]; omega)) (by have := dyn_ge g.ob; omega) (by have := dyn_ge g.rb; omega) (fun D b g2 => ?_)
  have f := f.st g g2
  have g := g2.1
  have R := f.rel R0
  refine w_ald0 i113_166 ?_
  refine w_ild4 i113_167 ?_
  refine w_const i113_169 kc_5 ?_
  refine w_VD3 i113_170 c58 (Or.inl rfl) (Or.inl ⟨by decide +kernel, by decide⟩) (by repeat (first | exact nvL_nil | refine nvL_cons (by first | exact True.intro | exact nvSt (by decide) | exact nvD g.ob.1 | exact nvD hN.1.1 | exact nvD (dv_le hdo0 f.2) | exact nvD (dv_le hda0 f.2) | exact nvD (dv_le hdo0 f1.2) | exact nvD (dv_le hda0 f1.2) | exact nvD hdo0 | exact nvD hda0 | exact nvD hds | exact nv_le n8 f.2 | exact nv_le n9 f.2 | exact nv_le n10 f.2 | exact nv_le n11 f.2 | exact nv_le n8 f1.2 | exact nv_le n9 f1.2 | exact nv_le n10 f1.2 | exact nv_le n11 f1.2 | exact n8 | exact n9 | exact n10 | exact n11 | exact nvK (by omega) (by omega)) ?_)) ⟨(by repeat (first | exact nvL_nil | refine nvL_cons (by first | exact True.intro | exact nvSt (by decide) | exact nvD g.ob.1 | exact nvD hN.1.1 | exact nvD (dv_le hdo0 f.2) | exact nvD (dv_le hda0 f.2) | exact nvD (dv_le hdo0 f1.2) | exact nvD (dv_le hda0 f1.2) | exact nvD hdo0 | exact nvD hda0 | exact nvD hds | exact nv_le n8 f.2 | exact nv_le n9 f.2 | exact nv_le n10 f.2 | exact nv_le n11 f.2 | exact nv_le n8 f1.2 | exact nv_le n9 f1.2 | exact nv_le n10 f1.2 | exact nv_le n11 f1.2 | exact n8 | exact n9 | exact n10 | exact n11 | exact nvK (by omega) (by omega)) ?_)), rfl, Nat.le_of_ble_eq_true rfl⟩ (Ex_go (K_stubOf_5 R hle hs) ?_)
  rw [hvu]
  refine w_VD2 i113_173 c190 (Or.inl rfl) (g.rec (by decide +kernel)) (by repeat (first | exact nvL_nil | refine nvL_cons (by first | exact True.intro | exact nvSt (by decide) | exact nvD g.ob.1 | exact nvD hN.1.1 | exact nvD (dv_le hdo0 f.2) | exact nvD (dv_le hda0 f.2) | exact nvD (dv_le hdo0 f1.2) | exact nvD (dv_le hda0 f1.2) | exact nvD hdo0 | exact nvD hda0 | exact nvD hds | exact nv_le n8 f.2 | exact nv_le n9 f.2 | exact nv_le n10 f.2 | exact nv_le n11 f.2 | exact nv_le n8 f1.2 | exact nv_le n9 f1.2 | exact nv_le n10 f1.2 | exact nv_le n11 f1.2 | exact n8 | exact n9 | exact n10 | exact n11 | exact nvK (by omega) (by omega)) ?_)) ⟨(by repeat (first | exact nvL_nil | refine nvL_cons (by first | exact True.intro | exact nvSt (by decide) | exact nvD g.ob.1 | exact nvD hN.1.1 | exact nvD (dv_le hdo0 f.2) | exact nvD (dv_le hda0 f.2) | exact nvD (dv_le hdo0 f1.2) | exact nvD (dv_le hda0 f1.2) | exact nvD hdo0 | exact nvD hda0 | exact nvD hds | exact nv_le n8 f.2 | exact nv_le n9 f.2 | exact nv_le n10 f.2 | exact nv_le n11 f.2 | exact nv_le n8 f1.2 | exact nv_le n9 f1.2 | exact nv_le n10 f1.2 | exact nv_le n11 f1.2 | exact n8 | exact n9 | exact n10 | exact n11 | exact nvK (by omega) (by omega)) ?_)), rfl, Nat.le_of_ble_eq_true rfl⟩ ?_
  refine K_appID g oku (by first | omega | (simp only [List.length_append, List.length_cons, List.length_nil]; omega)) (fun D b g2 => ?_)
  have f := f.st g g2
  have g := g2.1
  have R := f.rel R0
  refine w_VD1 i113_176 c135 (Or.inl rfl) (g.rec (by decide +kernel)) (by repeat (first | exact nvL_nil | refine nvL_cons (by first | exact True.intro | exact nvSt (by decide) | exact nvD g.ob.1 | exact nvD hN.1.1 | exact nvD (dv_le hdo0 f.2) | exact nvD (dv_le hda0 f.2) | exact nvD (dv_le hdo0 f1.2) | exact nvD (dv_le hda0 f1.2) | exact nvD hdo0 | exact nvD hda0 | exact nvD hds | exact nv_le n8 f.2 | exact nv_le n9 f.2 | exact nv_le n10 f.2 | exact nv_le n11 f.2 | exact nv_le n8 f1.2 | exact nv_le n9 f1.2 | exact nv_le n10 f1.2 | exact nv_le n11 f1.2 | exact n8 | exact n9 | exact n10 | exact n11 | exact nvK (by omega) (by omega)) ?_)) ⟨(by repeat (first | exact nvL_nil | refine nvL_cons (by first | exact True.intro | exact nvSt (by decide) | exact nvD g.ob.1 | exact nvD hN.1.1 | exact nvD (dv_le hdo0 f.2) | exact nvD (dv_le hda0 f.2) | exact nvD (dv_le hdo0 f1.2) | exact nvD (dv_le hda0 f1.2) | exact nvD hdo0 | exact nvD hda0 | exact nvD hds | exact nv_le n8 f.2 | exact nv_le n9 f.2 | exact nv_le n10 f.2 | exact nv_le n11 f.2 | exact nv_le n8 f1.2 | exact nv_le n9 f1.2 | exact nv_le n10 f1.2 | exact nv_le n11 f1.2 | exact n8 | exact n9 | exact n10 | exact n11 | exact nvK (by omega) (by omega)) ?_)), rfl, Nat.le_of_ble_eq_true rfl⟩ ?_
  have hus := g.us
  have hcp := g.cpm
  refine K_tsD g (by first | omega | (simp only [List.length_append, List.length_cons, List.length_nil]; omega)) (by omega) (fun D s1 nb x hs1 hg f3 h3 h4 => ?_)
  have f2' := f.2
  have hds := hs1.1
  
  refine w_goto i113_179 g113_179 ?_
  refine hk D s1 nb ?_ hs1 ⟨by omega, by omega⟩ (f.tr f3) h3 ?_
  · have e9 : [] ++ [33] ++ ndt (nI u) = [33] ++ dgl u := by simp only [ndt_n hu, List.nil_append]
    rw [← e9]; exact x
  · rw [h4]
    simp only [List.length_append, List.length_cons, List.length_nil]
    omega
theorem StX.fl {D D2 : Mm} {lo T u o b b2 : Nat} {t t2 : List Nat} (s : SbX D lo T u o b t) (g : StX D D2 lo T u o b b2 t2) : FrL lo D D2 := by
  have h1 := s.low
  have h2 := dyn_ge s.ob
  have hB := DBv
  exact ⟨fun q x y => g.2.1.1 q (by omega) y (by omega) (by omega), g.2.1.2⟩
theorem FrL.rel {lo : Nat} {D D2 : Mm} {n : Nat} {V : Nat → Int32} (h : FrL lo D D2) (R : Rel D n V) : Rel D2 n V := R.fr (fun q a b => h.1 q (by unfold DB; omega) (by omega))
set_option maxHeartbeats 1000000 in
theorem su_2z {d : Nat} {D : Mm} {Q : Option Value → Mm → Prop} {n B s p b ar lo u : Nat} {tt : List Nat} {V : Nat → Int32} {l3 l5 l7 : Int32} {l8 l9 l10 l11 : Value} (n8 : nvV D l8) (n9 : nvV D l9) (n10 : nvV D l10) (n11 : nvV D l11) (R : Rel D n V) (H : IV n V B) (hs : s < n) (g : SbX D lo 30 u p b tt) (hda : dv D ar) (hu1 : u ≤ 800000) (hl : tt.length ≤ 30) (hk : ∀ D2 b2 u2, SbX D2 lo 30 u2 p b2 (tt) → u2 ≤ u + 105 → FrL lo D D2 → Wp (d + 10) 113 Q 149 [.ref 0, .int (nI n), .ref ar, .int l3, .int (nI s), .int l5, .int (-1015), .int l7, l8, l9, l10, l11] [.ref p] D2) : Wp (d + 10) 113 Q 101 [.ref 0, .int (nI n), .ref ar, .int l3, .int (nI s), .int l5, .int (-1015), .int l7, l8, l9, l10, l11] [.ref p] D := by
  have hBE := DBv
  obtain ⟨D0_, eD0⟩ : ∃ D0_, D0_ = D := ⟨_, rfl⟩
  rw [← eD0] at R g hda hk n8 n9 n10 n11 ⊢
  have R0 := R
  have hda0 := hda
  have hle := H.2.1
  have f : FrL lo D0_ D0_ := FrL.rf
  refine w_ild6 i113_101 ?_
  refine w_iltT i113_103 g113_103 (by decide) ?_
  refine w_ldc2 i113_144 (by decide) ?_
  refine w_VD2 i113_146 c126 (Or.inl rfl) (g.rec (by decide +kernel)) (by repeat (first | exact nvL_nil | refine nvL_cons (by first | exact True.intro | exact nvSt (by decide) | exact nvD g.ob.1 | exact nvD (dv_le hda0 f.2) | exact nvD hda0 | exact nvD hds | exact nv_le n8 f.2 | exact nv_le n9 f.2 | exact nv_le n10 f.2 | exact nv_le n11 f.2 | exact nvK (by omega) (by omega)) ?_)) ⟨(by repeat (first | exact nvL_nil | refine nvL_cons (by first | exact True.intro | exact nvSt (by decide) | exact nvD g.ob.1 | exact nvD (dv_le hda0 f.2) | exact nvD hda0 | exact nvD hds | exact nv_le n8 f.2 | exact nv_le n9 f.2 | exact nv_le n10 f.2 | exact nv_le n11 f.2 | exact nvK (by omega) (by omega)) ?_)), rfl, Nat.le_of_ble_eq_true rfl⟩ ?_
  refine K_appSD g (Tc (c := 9) (k := []) (by decide) (by decide) (by decide) (by decide)) (by first | omega | (simp only [List.length_append, List.length_cons, List.length_nil]; omega)) (by have := dyn_ge g.ob; omega) (by have := dyn_ge g.rb; omega) (fun D b g2 => ?_)
  have f := f.tr (StX.fl g g2)
  have g := g2.1
  have R := f.rel R0
  rw [List.append_nil] at g
  exact hk D b u g (by omega) f
set_option maxHeartbeats 1000000 in
theorem su_2t {d : Nat} {D : Mm} {Q : Option Value → Mm → Prop} {n B s p b ar lo u : Nat} {tt : List Nat} {V : Nat → Int32} {l3 l5 l7 : Int32} {l8 l9 l10 l11 : Value} (n8 : nvV D l8) (n9 : nvV D l9) (n10 : nvV D l10) (n11 : nvV D l11) (R : Rel D n V) (H : IV n V B) (hs : s < n) (g : SbX D lo 30 u p b tt) (hda : dv D ar) (hu1 : u ≤ 800000) {t c : Nat} (ht : t < 100) (hu : c < 100) (hvu : vStubOf V s 4 = nI c) (hl : tt.length ≤ 11) (hk : ∀ D2 b2 u2, SbX D2 lo 30 u2 p b2 (tt ++ ([62] ++ dgl t ++ [61] ++ dgl c)) → u2 ≤ u + 105 → FrL lo D D2 → Wp (d + 10) 113 Q 149 [.ref 0, .int (nI n), .ref ar, .int l3, .int (nI s), .int l5, .int (nI t), .int l7, l8, l9, l10, l11] [.ref p] D2) : Wp (d + 10) 113 Q 101 [.ref 0, .int (nI n), .ref ar, .int l3, .int (nI s), .int l5, .int (nI t), .int l7, l8, l9, l10, l11] [.ref p] D := by
  have hBE := DBv
  obtain ⟨D0_, eD0⟩ : ∃ D0_, D0_ = D := ⟨_, rfl⟩
  rw [← eD0] at R g hda hk n8 n9 n10 n11 ⊢
  have R0 := R
  have hda0 := hda
  have hle := H.2.1
  have f : FrL lo D0_ D0_ := FrL.rf
  have lt2 := dgl_2 ht
  have lu2 := dgl_2 hu
  refine w_ild6 i113_101 ?_
  refine w_iltF i113_103 (nI_pos' (by omega)) ?_
  have hgo := dyn_ge g.ob
  have hgb := dyn_ge g.rb
  have hcp := g.cpm
  have hus := g.us
  refine su_A (nv_le n8 f.2) (nv_le n9 f.2) (nv_le n10 f.2) (nv_le n11 f.2) R H hs g.ob.1 (dv_le hda0 f.2) g.nu (by omega) ht hu hvu (fun D2 s1 nb x hs1 hg f3 h3 h4 => ?_)
  have hds := hs1.1
  have hlo := g.low
  have g := g.mv (f3.1 p (by omega) (by omega)) (f3.1 b (by omega) (by omega)) f3.2 h3 (u2 := u + 105) (by omega) (by omega)
  have f := f.tr (f3.mono (show lo ≤ nxt D0_ by omega))
  have R := f.rel R0
  have hne1 : s1 ≠ p := by omega
  have hne2 : nb ≠ b := by omega
  refine w_VD2 i113_146 c126 (Or.inl rfl) (g.rec (by decide +kernel)) (by repeat (first | exact nvL_nil | refine nvL_cons (by first | exact True.intro | exact nvSt (by decide) | exact nvD g.ob.1 | exact nvD (dv_le hda0 f.2) | exact nvD hda0 | exact nvD hds | exact nv_le n8 f.2 | exact nv_le n9 f.2 | exact nv_le n10 f.2 | exact nv_le n11 f.2 | exact nvK (by omega) (by omega)) ?_)) ⟨(by repeat (first | exact nvL_nil | refine nvL_cons (by first | exact True.intro | exact nvSt (by decide) | exact nvD g.ob.1 | exact nvD (dv_le hda0 f.2) | exact nvD hda0 | exact nvD hds | exact nv_le n8 f.2 | exact nv_le n9 f.2 | exact nv_le n10 f.2 | exact nv_le n11 f.2 | exact nvK (by omega) (by omega)) ?_)), rfl, Nat.le_of_ble_eq_true rfl⟩ ?_
  refine K_appSD g x (by first | omega | (simp only [List.length_append, List.length_cons, List.length_nil]; omega)) hne1 hne2 (fun D b g2 => ?_)
  have f := f.tr (StX.fl g g2)
  have g := g2.1
  have R := f.rel R0
  exact hk D b (u + 105) g (by omega) f
set_option maxHeartbeats 1000000 in
theorem su_3z {d : Nat} {D : Mm} {Q : Option Value → Mm → Prop} {n B s p b ar lo u : Nat} {tt : List Nat} {V : Nat → Int32} {l3 l5 l6 : Int32} {l8 l9 l10 l11 : Value} (n8 : nvV D l8) (n9 : nvV D l9) (n10 : nvV D l10) (n11 : nvV D l11) (R : Rel D n V) (H : IV n V B) (hs : s < n) (g : SbX D lo 30 u p b tt) (hda : dv D ar) (hu1 : u ≤ 800000) (hl : tt.length ≤ 25) (hk : ∀ D2 s1 nb, TxD D2 s1 nb (tt) → dyn D2 s1 9 → DB + lo ≤ s1 ∧ DB + lo ≤ nb → FrL lo D D2 → nxt D2 ≤ usd D2 → usd D2 ≤ u + 300 → Wp (d + 10) 113 Q 192 [.ref 0, .int (nI n), .ref ar, .int l3, .int (nI s), .int l5, .int l6, .int (-1015), .ref s1, l9, l10, l11] [] D2) : Wp (d + 10) 113 Q 149 [.ref 0, .int (nI n), .ref ar, .int l3, .int (nI s), .int l5, .int l6, .int (-1015), l8, l9, l10, l11] [.ref p] D := by
  have hBE := DBv
  obtain ⟨D0_, eD0⟩ : ∃ D0_, D0_ = D := ⟨_, rfl⟩
  rw [← eD0] at R g hda hk n8 n9 n10 n11 ⊢
  have R0 := R
  have hda0 := hda
  have hle := H.2.1
  have f : FrL lo D0_ D0_ := FrL.rf
  refine w_ild7 i113_149 ?_
  refine w_iltT i113_151 g113_151 (by decide) ?_
  refine w_ldc2 i113_182 (by decide) ?_
  refine w_VD2 i113_184 c126 (Or.inl rfl) (g.rec (by decide +kernel)) (by repeat (first | exact nvL_nil | refine nvL_cons (by first | exact True.intro | exact nvSt (by decide) | exact nvD g.ob.1 | exact nvD (dv_le hda0 f.2) | exact nvD hda0 | exact nvD hds | exact nv_le n8 f.2 | exact nv_le n9 f.2 | exact nv_le n10 f.2 | exact nv_le n11 f.2 | exact nvK (by omega) (by omega)) ?_)) ⟨(by repeat (first | exact nvL_nil | refine nvL_cons (by first | exact True.intro | exact nvSt (by decide) | exact nvD g.ob.1 | exact nvD (dv_le hda0 f.2) | exact nvD hda0 | exact nvD hds | exact nv_le n8 f.2 | exact nv_le n9 f.2 | exact nv_le n10 f.2 | exact nv_le n11 f.2 | exact nvK (by omega) (by omega)) ?_)), rfl, Nat.le_of_ble_eq_true rfl⟩ ?_
  refine K_appSD g (Tc (c := 9) (k := []) (by decide) (by decide) (by decide) (by decide)) (by first | omega | (simp only [List.length_append, List.length_cons, List.length_nil]; omega)) (by have := dyn_ge g.ob; omega) (by have := dyn_ge g.rb; omega) (fun D b g2 => ?_)
  have f := f.tr (StX.fl g g2)
  have g := g2.1
  have R := f.rel R0
  rw [List.append_nil] at g
  refine w_VD1 i113_187 c135 (Or.inl rfl) (g.rec (by decide +kernel)) (by repeat (first | exact nvL_nil | refine nvL_cons (by first | exact True.intro | exact nvSt (by decide) | exact nvD g.ob.1 | exact nvD (dv_le hda0 f.2) | exact nvD hda0 | exact nvD hds | exact nv_le n8 f.2 | exact nv_le n9 f.2 | exact nv_le n10 f.2 | exact nv_le n11 f.2 | exact nvK (by omega) (by omega)) ?_)) ⟨(by repeat (first | exact nvL_nil | refine nvL_cons (by first | exact True.intro | exact nvSt (by decide) | exact nvD g.ob.1 | exact nvD (dv_le hda0 f.2) | exact nvD hda0 | exact nvD hds | exact nv_le n8 f.2 | exact nv_le n9 f.2 | exact nv_le n10 f.2 | exact nv_le n11 f.2 | exact nvK (by omega) (by omega)) ?_)), rfl, Nat.le_of_ble_eq_true rfl⟩ ?_
  have hus := g.us
  have hcp := g.cpm
  have hgo := dyn_ge g.ob
  have hlo := g.low
  have hbd := dyn_ge g.rb
  refine K_tsD g (by first | omega | (simp only [List.length_append, List.length_cons, List.length_nil]; omega)) (by omega) (fun D2 s1 nb x hs1 hg f3 h3 h4 => ?_)
  have hds := hs1.1
  refine w_ast8 i113_190 ?_
  have f2' := f.2
  refine hk D2 s1 nb x hs1 ⟨by omega, by omega⟩ (f.tr (f3.mono (by omega))) h3 ?_
  rw [h4]
  first | omega | (simp only [List.length_append, List.length_cons, List.length_nil]; omega)
set_option maxHeartbeats 1000000 in
theorem su_3t {d : Nat} {D : Mm} {Q : Option Value → Mm → Prop} {n B s p b ar lo u : Nat} {tt : List Nat} {V : Nat → Int32} {l3 l5 l6 : Int32} {l8 l9 l10 l11 : Value} (n8 : nvV D l8) (n9 : nvV D l9) (n10 : nvV D l10) (n11 : nvV D l11) (R : Rel D n V) (H : IV n V B) (hs : s < n) (g : SbX D lo 30 u p b tt) (hda : dv D ar) (hu1 : u ≤ 800000) {t c : Nat} (ht : t < 100) (hu : c < 100) (hvu : vStubOf V s 5 = nI c) (hl : tt.length ≤ 17) (hk : ∀ D2 s1 nb, TxD D2 s1 nb (tt ++ ([33] ++ dgl c)) → dyn D2 s1 9 → DB + lo ≤ s1 ∧ DB + lo ≤ nb → FrL lo D D2 → nxt D2 ≤ usd D2 → usd D2 ≤ u + 300 → Wp (d + 10) 113 Q 192 [.ref 0, .int (nI n), .ref ar, .int l3, .int (nI s), .int l5, .int l6, .int (nI t), .ref s1, l9, l10, l11] [] D2) : Wp (d + 10) 113 Q 149 [.ref 0, .int (nI n), .ref ar, .int l3, .int (nI s), .int l5, .int l6, .int (nI t), l8, l9, l10, l11] [.ref p] D := by
  have hBE := DBv
  obtain ⟨D0_, eD0⟩ : ∃ D0_, D0_ = D := ⟨_, rfl⟩
  rw [← eD0] at R g hda hk n8 n9 n10 n11 ⊢
  have R0 := R
  have hda0 := hda
  have hle := H.2.1
  have f : FrL lo D0_ D0_ := FrL.rf
  have lu2 := dgl_2 hu
  refine w_ild7 i113_149 ?_
  refine w_iltF i113_151 (nI_pos' (by omega)) ?_
  have hgo := dyn_ge g.ob
  have hgb := dyn_ge g.rb
  have hcp := g.cpm
  have hus := g.us
  refine su_B (nv_le n8 f.2) (nv_le n9 f.2) (nv_le n10 f.2) (nv_le n11 f.2) R H hs g.ob.1 (dv_le hda0 f.2) g.nu (by omega) hu hvu (fun D2 s1 nb x hs1 hg f3 h3 h4 => ?_)
  have hds := hs1.1
  have hlo := g.low
  have g := g.mv (f3.1 p (by omega) (by omega)) (f3.1 b (by omega) (by omega)) f3.2 h3 (u2 := u + 105) (by omega) (by omega)
  have f := f.tr (f3.mono (show lo ≤ nxt D0_ by omega))
  have R := f.rel R0
  have hne1 : s1 ≠ p := by omega
  have hne2 : nb ≠ b := by omega
  refine w_VD2 i113_184 c126 (Or.inl rfl) (g.rec (by decide +kernel)) (by repeat (first | exact nvL_nil | refine nvL_cons (by first | exact True.intro | exact nvSt (by decide) | exact nvD g.ob.1 | exact nvD (dv_le hda0 f.2) | exact nvD hda0 | exact nvD hds | exact nv_le n8 f.2 | exact nv_le n9 f.2 | exact nv_le n10 f.2 | exact nv_le n11 f.2 | exact nvK (by omega) (by omega)) ?_)) ⟨(by repeat (first | exact nvL_nil | refine nvL_cons (by first | exact True.intro | exact nvSt (by decide) | exact nvD g.ob.1 | exact nvD (dv_le hda0 f.2) | exact nvD hda0 | exact nvD hds | exact nv_le n8 f.2 | exact nv_le n9 f.2 | exact nv_le n10 f.2 | exact nv_le n11 f.2 | exact nvK (by omega) (by omega)) ?_)), rfl, Nat.le_of_ble_eq_true rfl⟩ ?_
  refine K_appSD g x (by first | omega | (simp only [List.length_append, List.length_cons, List.length_nil]; omega)) hne1 hne2 (fun D b g2 => ?_)
  have f := f.tr (StX.fl g g2)
  have g := g2.1
  have R := f.rel R0
  refine w_VD1 i113_187 c135 (Or.inl rfl) (g.rec (by decide +kernel)) (by repeat (first | exact nvL_nil | refine nvL_cons (by first | exact True.intro | exact nvSt (by decide) | exact nvD g.ob.1 | exact nvD (dv_le hda0 f.2) | exact nvD hda0 | exact nvD hds | exact nv_le n8 f.2 | exact nv_le n9 f.2 | exact nv_le n10 f.2 | exact nv_le n11 f.2 | exact nvK (by omega) (by omega)) ?_)) ⟨(by repeat (first | exact nvL_nil | refine nvL_cons (by first | exact True.intro | exact nvSt (by decide) | exact nvD g.ob.1 | exact nvD (dv_le hda0 f.2) | exact nvD hda0 | exact nvD hds | exact nv_le n8 f.2 | exact nv_le n9 f.2 | exact nv_le n10 f.2 | exact nv_le n11 f.2 | exact nvK (by omega) (by omega)) ?_)), rfl, Nat.le_of_ble_eq_true rfl⟩ ?_
  have hus := g.us
  have hcp := g.cpm
  have hgo := dyn_ge g.ob
  have hlo := g.low
  have hbd := dyn_ge g.rb
  refine K_tsD g (by first | omega | (simp only [List.length_append, List.length_cons, List.length_nil]; omega)) (by omega) (fun D2 s1 nb x hs1 hg f3 h3 h4 => ?_)
  have hds := hs1.1
  refine w_ast8 i113_190 ?_
  have f2' := f.2
  refine hk D2 s1 nb x hs1 ⟨by omega, by omega⟩ (f.tr (f3.mono (by omega))) h3 ?_
  rw [h4]
  first | omega | (simp only [List.length_append, List.length_cons, List.length_nil]; omega)
set_option maxHeartbeats 1000000 in
theorem su_1 {d : Nat} {D : Mm} {Q : Option Value → Mm → Prop} {n B s o5 w k ar : Nat} {V : Nat → Int32} {l3 l6 l7 : Int32} {l8 l9 l10 l11 : Value} (n8 : nvV D l8) (n9 : nvV D l9) (n10 : nvV D l10) (n11 : nvV D l11) (R : Rel D n V) (H : IV n V B) (hs : s < n) (hda : dv D ar) (hu0 : nxt D ≤ usd D) (hu1 : usd D ≤ 900000) (ho5 : o5 < 6) (hw : w ≤ 30) (hkk : k ≤ 9) (hvw : vStubOf V s 1 = nI w) (hvk : vStubOf V s 2 = nI k) (hk : ∀ D2 p b2, SbX D2 (nxt D) 30 (usd D + 5) p b2 (tlB s o5 w k) → FrL (nxt D) D D2 → Wp (d + 10) 113 Q 101 [.ref 0, .int (nI n), .ref ar, .int l3, .int (nI s), .int (nI o5), .int l6, .int l7, l8, l9, l10, l11] [.ref p] D2) : Wp (d + 10) 113 Q 49 [.ref 0, .int (nI n), .ref ar, .int l3, .int (nI s), .int (nI o5), .int l6, .int l7, l8, l9, l10, l11] [] D := by
  have hBE := DBv
  obtain ⟨D0_, eD0⟩ : ∃ D0_, D0_ = D := ⟨_, rfl⟩
  rw [← eD0] at R hda hu0 hu1 hk n8 n9 n10 n11 ⊢
  have R0 := R
  have hda0 := hda
  have hf : fitU D0_ 4 := ⟨by omega, hu0⟩
  obtain ⟨p, ep⟩ : ∃ p, p = DB + nxt D0_ := ⟨_, rfl⟩
  obtain ⟨D1, e1⟩ : ∃ D1, D1 = alD D0_ (rwO 0) 4 := ⟨_, rfl⟩
  have hN : NwX D1 (nxt D0_) (usd D0_ + 5) p := by rw [e1, ep]; exact NwX.new hu0 (by omega) (by omega)
  have f1 : Fr0 D0_ D1 := by rw [e1]; exact FrL.al hf (Nat.le_refl _)
  have hle := H.2.1
  have oks : okN (nI s) (ndt (nI s)) := okN_n (by omega)
  have lls : (ndt (nI s)).length ≤ 2 := by rw [ndt_n (by omega)]; exact dgl_2 (by omega)
  have oko : okN (nI o5) (ndt (nI o5)) := okN_n (by omega)
  have llo : (ndt (nI o5)).length ≤ 2 := by rw [ndt_n (by omega)]; exact dgl_2 (by omega)
  have okw : okN (nI w) (ndt (nI w)) := okN_n (by omega)
  have llw : (ndt (nI w)).length ≤ 2 := by rw [ndt_n (by omega)]; exact dgl_2 (by omega)
  have okk : okN (nI k) (ndt (nI k)) := okN_n (by omega)
  have llk : (ndt (nI k)).length ≤ 2 := by rw [ndt_n (by omega)]; exact dgl_2 (by omega)
  refine w_new i113_49 (Or.inl rfl) (nvL_ok (by repeat (first | exact nvL_nil | refine nvL_cons (by first | exact True.intro | exact nvSt (by decide) | exact nvD g.ob.1 | exact nvD hN.1.1 | exact nvD (dv_le hdo0 f.2) | exact nvD (dv_le hda0 f.2) | exact nvD (dv_le hdo0 f1.2) | exact nvD (dv_le hda0 f1.2) | exact nvD hdo0 | exact nvD hda0 | exact nvD hds | exact nv_le n8 f.2 | exact nv_le n9 f.2 | exact nv_le n10 f.2 | exact nv_le n11 f.2 | exact nv_le n8 f1.2 | exact nv_le n9 f1.2 | exact nv_le n10 f1.2 | exact nv_le n11 f1.2 | exact n8 | exact n9 | exact n10 | exact n11 | exact nvK (by omega) (by omega)) ?_))) (nvL_ok (by repeat (first | exact nvL_nil | refine nvL_cons (by first | exact True.intro | exact nvSt (by decide) | exact nvD g.ob.1 | exact nvD hN.1.1 | exact nvD (dv_le hdo0 f.2) | exact nvD (dv_le hda0 f.2) | exact nvD (dv_le hdo0 f1.2) | exact nvD (dv_le hda0 f1.2) | exact nvD hdo0 | exact nvD hda0 | exact nvD hds | exact nv_le n8 f.2 | exact nv_le n9 f.2 | exact nv_le n10 f.2 | exact nv_le n11 f.2 | exact nv_le n8 f1.2 | exact nv_le n9 f1.2 | exact nv_le n10 f1.2 | exact nv_le n11 f1.2 | exact n8 | exact n9 | exact n10 | exact n11 | exact nvK (by omega) (by omega)) ?_))) hf ?_
  rw [show nF 0 = 4 from rfl, ← ep, ← e1]
  refine w_dup i113_52 rfl ?_
  refine w_PD1 i113_53 c122 (Or.inr rfl) (Or.inr ⟨hN.1.1, by rw [hN.1.2]; decide +kernel, by rw [hN.1.2]; decide⟩) (by repeat (first | exact nvL_nil | refine nvL_cons (by first | exact True.intro | exact nvSt (by decide) | exact nvD g.ob.1 | exact nvD hN.1.1 | exact nvD (dv_le hdo0 f.2) | exact nvD (dv_le hda0 f.2) | exact nvD (dv_le hdo0 f1.2) | exact nvD (dv_le hda0 f1.2) | exact nvD hdo0 | exact nvD hda0 | exact nvD hds | exact nv_le n8 f.2 | exact nv_le n9 f.2 | exact nv_le n10 f.2 | exact nv_le n11 f.2 | exact nv_le n8 f1.2 | exact nv_le n9 f1.2 | exact nv_le n10 f1.2 | exact nv_le n11 f1.2 | exact n8 | exact n9 | exact n10 | exact n11 | exact nvK (by omega) (by omega)) ?_)) ⟨(by repeat (first | exact nvL_nil | refine nvL_cons (by first | exact True.intro | exact nvSt (by decide) | exact nvD g.ob.1 | exact nvD hN.1.1 | exact nvD (dv_le hdo0 f.2) | exact nvD (dv_le hda0 f.2) | exact nvD (dv_le hdo0 f1.2) | exact nvD (dv_le hda0 f1.2) | exact nvD hdo0 | exact nvD hda0 | exact nvD hds | exact nv_le n8 f.2 | exact nv_le n9 f.2 | exact nv_le n10 f.2 | exact nv_le n11 f.2 | exact nv_le n8 f1.2 | exact nv_le n9 f1.2 | exact nv_le n10 f1.2 | exact nv_le n11 f1.2 | exact n8 | exact n9 | exact n10 | exact n11 | exact nvK (by omega) (by omega)) ?_)), rfl, Nat.le_of_ble_eq_true rfl⟩ ?_
  refine K_newSB (T := 30) hN (by omega) (fun D b g g3 g4 => ?_)
  have f : Fr0 D0_ D := by
    have := f1.2
    have hl2 := g.low
    exact ⟨fun q x y => (g3.1 q (by omega) y (by omega) (by omega)).trans (f1.1 q x y), Nat.le_trans f1.2 g3.2⟩
  have R := f.rel R0
  refine w_ild4 i113_56 ?_
  refine w_VD2 i113_58 c190 (Or.inl rfl) (g.rec (by decide +kernel)) (by repeat (first | exact nvL_nil | refine nvL_cons (by first | exact True.intro | exact nvSt (by decide) | exact nvD g.ob.1 | exact nvD hN.1.1 | exact nvD (dv_le hdo0 f.2) | exact nvD (dv_le hda0 f.2) | exact nvD (dv_le hdo0 f1.2) | exact nvD (dv_le hda0 f1.2) | exact nvD hdo0 | exact nvD hda0 | exact nvD hds | exact nv_le n8 f.2 | exact nv_le n9 f.2 | exact nv_le n10 f.2 | exact nv_le n11 f.2 | exact nv_le n8 f1.2 | exact nv_le n9 f1.2 | exact nv_le n10 f1.2 | exact nv_le n11 f1.2 | exact n8 | exact n9 | exact n10 | exact n11 | exact nvK (by omega) (by omega)) ?_)) ⟨(by repeat (first | exact nvL_nil | refine nvL_cons (by first | exact True.intro | exact nvSt (by decide) | exact nvD g.ob.1 | exact nvD hN.1.1 | exact nvD (dv_le hdo0 f.2) | exact nvD (dv_le hda0 f.2) | exact nvD (dv_le hdo0 f1.2) | exact nvD (dv_le hda0 f1.2) | exact nvD hdo0 | exact nvD hda0 | exact nvD hds | exact nv_le n8 f.2 | exact nv_le n9 f.2 | exact nv_le n10 f.2 | exact nv_le n11 f.2 | exact nv_le n8 f1.2 | exact nv_le n9 f1.2 | exact nv_le n10 f1.2 | exact nv_le n11 f1.2 | exact n8 | exact n9 | exact n10 | exact n11 | exact nvK (by omega) (by omega)) ?_)), rfl, Nat.le_of_ble_eq_true rfl⟩ ?_
  refine K_appID g oks (by first | omega | (simp only [List.length_append, List.length_cons, List.length_nil]; omega)) (fun D b g2 => ?_)
  have f := f.st g g2
  have g := g2.1
  have R := f.rel R0
  refine w_ldc2 i113_61 (by decide) ?_
  refine w_VD2 i113_63 c126 (Or.inl rfl) (g.rec (by decide +kernel)) (by repeat (first | exact nvL_nil | refine nvL_cons (by first | exact True.intro | exact nvSt (by decide) | exact nvD g.ob.1 | exact nvD hN.1.1 | exact nvD (dv_le hdo0 f.2) | exact nvD (dv_le hda0 f.2) | exact nvD (dv_le hdo0 f1.2) | exact nvD (dv_le hda0 f1.2) | exact nvD hdo0 | exact nvD hda0 | exact nvD hds | exact nv_le n8 f.2 | exact nv_le n9 f.2 | exact nv_le n10 f.2 | exact nv_le n11 f.2 | exact nv_le n8 f1.2 | exact nv_le n9 f1.2 | exact nv_le n10 f1.2 | exact nv_le n11 f1.2 | exact n8 | exact n9 | exact n10 | exact n11 | exact nvK (by omega) (by omega)) ?_)) ⟨(by repeat (first | exact nvL_nil | refine nvL_cons (by first | exact True.intro | exact nvSt (by decide) | exact nvD g.ob.1 | exact nvD hN.1.1 | exact nvD (dv_le hdo0 f.2) | exact nvD (dv_le hda0 f.2) | exact nvD (dv_le hdo0 f1.2) | exact nvD (dv_le hda0 f1.2) | exact nvD hdo0 | exact nvD hda0 | exact nvD hds | exact nv_le n8 f.2 | exact nv_le n9 f.2 | exact nv_le n10 f.2 | exact nv_le n11 f.2 | exact nv_le n8 f1.2 | exact nv_le n9 f1.2 | exact nv_le n10 f1.2 | exact nv_le n11 f1.2 | exact n8 | exact n9 | exact n10 | exact n11 | exact nvK (by omega) (by omega)) ?_)), rfl, Nat.le_of_ble_eq_true rfl⟩ ?_
  refine K_appSD g (Tc (c := 10) (k := [64]) (by decide) (by decide) (by decide) (by decide)) (by first | omega | (simp only [List.length_append, List.length_cons, List.length_nil]; omega)) (by have := dyn_ge g.ob; omega) (by have := dyn_ge g.rb; omega) (fun D b g2 => ?_)
  have f := f.st g g2
  have g := g2.1
  have R := f.rel R0
  refine w_ild5 i113_66 ?_
  refine w_VD2 i113_68 c190 (Or.inl rfl) (g.rec (by decide +kernel)) (by repeat (first | exact nvL_nil | refine nvL_cons (by first | exact True.intro | exact nvSt (by decide) | exact nvD g.ob.1 | exact nvD hN.1.1 | exact nvD (dv_le hdo0 f.2) | exact nvD (dv_le hda0 f.2) | exact nvD (dv_le hdo0 f1.2) | exact nvD (dv_le hda0 f1.2) | exact nvD hdo0 | exact nvD hda0 | exact nvD hds | exact nv_le n8 f.2 | exact nv_le n9 f.2 | exact nv_le n10 f.2 | exact nv_le n11 f.2 | exact nv_le n8 f1.2 | exact nv_le n9 f1.2 | exact nv_le n10 f1.2 | exact nv_le n11 f1.2 | exact n8 | exact n9 | exact n10 | exact n11 | exact nvK (by omega) (by omega)) ?_)) ⟨(by repeat (first | exact nvL_nil | refine nvL_cons (by first | exact True.intro | exact nvSt (by decide) | exact nvD g.ob.1 | exact nvD hN.1.1 | exact nvD (dv_le hdo0 f.2) | exact nvD (dv_le hda0 f.2) | exact nvD (dv_le hdo0 f1.2) | exact nvD (dv_le hda0 f1.2) | exact nvD hdo0 | exact nvD hda0 | exact nvD hds | exact nv_le n8 f.2 | exact nv_le n9 f.2 | exact nv_le n10 f.2 | exact nv_le n11 f.2 | exact nv_le n8 f1.2 | exact nv_le n9 f1.2 | exact nv_le n10 f1.2 | exact nv_le n11 f1.2 | exact n8 | exact n9 | exact n10 | exact n11 | exact nvK (by omega) (by omega)) ?_)), rfl, Nat.le_of_ble_eq_true rfl⟩ ?_
  refine K_appID g oko (by first | omega | (simp only [List.length_append, List.length_cons, List.length_nil]; omega)) (fun D b g2 => ?_)
  have f := f.st g g2
  have g := g2.1
  have R := f.rel R0
  refine w_ldc2 i113_71 (by decide) ?_
  refine w_VD2 i113_73 c126 (Or.inl rfl) (g.rec (by decide +kernel)) (by repeat (first | exact nvL_nil | refine nvL_cons (by first | exact True.intro | exact nvSt (by decide) | exact nvD g.ob.1 | exact nvD hN.1.1 | exact nvD (dv_le hdo0 f.2) | exact nvD (dv_le hda0 f.2) | exact nvD (dv_le hdo0 f1.2) | exact nvD (dv_le hda0 f1.2) | exact nvD hdo0 | exact nvD hda0 | exact nvD hds | exact nv_le n8 f.2 | exact nv_le n9 f.2 | exact nv_le n10 f.2 | exact nv_le n11 f.2 | exact nv_le n8 f1.2 | exact nv_le n9 f1.2 | exact nv_le n10 f1.2 | exact nv_le n11 f1.2 | exact n8 | exact n9 | exact n10 | exact n11 | exact nvK (by omega) (by omega)) ?_)) ⟨(by repeat (first | exact nvL_nil | refine nvL_cons (by first | exact True.intro | exact nvSt (by decide) | exact nvD g.ob.1 | exact nvD hN.1.1 | exact nvD (dv_le hdo0 f.2) | exact nvD (dv_le hda0 f.2) | exact nvD (dv_le hdo0 f1.2) | exact nvD (dv_le hda0 f1.2) | exact nvD hdo0 | exact nvD hda0 | exact nvD hds | exact nv_le n8 f.2 | exact nv_le n9 f.2 | exact nv_le n10 f.2 | exact nv_le n11 f.2 | exact nv_le n8 f1.2 | exact nv_le n9 f1.2 | exact nv_le n10 f1.2 | exact nv_le n11 f1.2 | exact n8 | exact n9 | exact n10 | exact n11 | exact nvK (by omega) (by omega)) ?_)), rfl, Nat.le_of_ble_eq_true rfl⟩ ?_
  refine K_appSD g (Tc (c := 11) (k := [58]) (by decide) (by decide) (by decide) (by decide)) (by first | omega | (simp only [List.length_append, List.length_cons, List.length_nil]; omega)) (by have := dyn_ge g.ob; omega) (by have := dyn_ge g.rb; omega) (fun D b g2 => ?_)
  have f := f.st g g2
  have g := g2.1
  have R := f.rel R0
  refine w_ald0 i113_76 ?_
  refine w_ild4 i113_77 ?_
  refine w_const i113_79 kc_1 ?_
  refine w_VD3 i113_80 c58 (Or.inl rfl) (Or.inl ⟨by decide +kernel, by decide⟩) (by repeat (first | exact nvL_nil | refine nvL_cons (by first | exact True.intro | exact nvSt (by decide) | exact nvD g.ob.1 | exact nvD hN.1.1 | exact nvD (dv_le hdo0 f.2) | exact nvD (dv_le hda0 f.2) | exact nvD (dv_le hdo0 f1.2) | exact nvD (dv_le hda0 f1.2) | exact nvD hdo0 | exact nvD hda0 | exact nvD hds | exact nv_le n8 f.2 | exact nv_le n9 f.2 | exact nv_le n10 f.2 | exact nv_le n11 f.2 | exact nv_le n8 f1.2 | exact nv_le n9 f1.2 | exact nv_le n10 f1.2 | exact nv_le n11 f1.2 | exact n8 | exact n9 | exact n10 | exact n11 | exact nvK (by omega) (by omega)) ?_)) ⟨(by repeat (first | exact nvL_nil | refine nvL_cons (by first | exact True.intro | exact nvSt (by decide) | exact nvD g.ob.1 | exact nvD hN.1.1 | exact nvD (dv_le hdo0 f.2) | exact nvD (dv_le hda0 f.2) | exact nvD (dv_le hdo0 f1.2) | exact nvD (dv_le hda0 f1.2) | exact nvD hdo0 | exact nvD hda0 | exact nvD hds | exact nv_le n8 f.2 | exact nv_le n9 f.2 | exact nv_le n10 f.2 | exact nv_le n11 f.2 | exact nv_le n8 f1.2 | exact nv_le n9 f1.2 | exact nv_le n10 f1.2 | exact nv_le n11 f1.2 | exact n8 | exact n9 | exact n10 | exact n11 | exact nvK (by omega) (by omega)) ?_)), rfl, Nat.le_of_ble_eq_true rfl⟩ (Ex_go (K_stubOf_1 R hle hs) ?_)
  rw [hvw]
  refine w_VD2 i113_83 c190 (Or.inl rfl) (g.rec (by decide +kernel)) (by repeat (first | exact nvL_nil | refine nvL_cons (by first | exact True.intro | exact nvSt (by decide) | exact nvD g.ob.1 | exact nvD hN.1.1 | exact nvD (dv_le hdo0 f.2) | exact nvD (dv_le hda0 f.2) | exact nvD (dv_le hdo0 f1.2) | exact nvD (dv_le hda0 f1.2) | exact nvD hdo0 | exact nvD hda0 | exact nvD hds | exact nv_le n8 f.2 | exact nv_le n9 f.2 | exact nv_le n10 f.2 | exact nv_le n11 f.2 | exact nv_le n8 f1.2 | exact nv_le n9 f1.2 | exact nv_le n10 f1.2 | exact nv_le n11 f1.2 | exact n8 | exact n9 | exact n10 | exact n11 | exact nvK (by omega) (by omega)) ?_)) ⟨(by repeat (first | exact nvL_nil | refine nvL_cons (by first | exact True.intro | exact nvSt (by decide) | exact nvD g.ob.1 | exact nvD hN.1.1 | exact nvD (dv_le hdo0 f.2) | exact nvD (dv_le hda0 f.2) | exact nvD (dv_le hdo0 f1.2) | exact nvD (dv_le hda0 f1.2) | exact nvD hdo0 | exact nvD hda0 | exact nvD hds | exact nv_le n8 f.2 | exact nv_le n9 f.2 | exact nv_le n10 f.2 | exact nv_le n11 f.2 | exact nv_le n8 f1.2 | exact nv_le n9 f1.2 | exact nv_le n10 f1.2 | exact nv_le n11 f1.2 | exact n8 | exact n9 | exact n10 | exact n11 | exact nvK (by omega) (by omega)) ?_)), rfl, Nat.le_of_ble_eq_true rfl⟩ ?_
  refine K_appID g okw (by first | omega | (simp only [List.length_append, List.length_cons, List.length_nil]; omega)) (fun D b g2 => ?_)
  have f := f.st g g2
  have g := g2.1
  have R := f.rel R0
  refine w_ldc2 i113_86 (by decide) ?_
  refine w_VD2 i113_88 c126 (Or.inl rfl) (g.rec (by decide +kernel)) (by repeat (first | exact nvL_nil | refine nvL_cons (by first | exact True.intro | exact nvSt (by decide) | exact nvD g.ob.1 | exact nvD hN.1.1 | exact nvD (dv_le hdo0 f.2) | exact nvD (dv_le hda0 f.2) | exact nvD (dv_le hdo0 f1.2) | exact nvD (dv_le hda0 f1.2) | exact nvD hdo0 | exact nvD hda0 | exact nvD hds | exact nv_le n8 f.2 | exact nv_le n9 f.2 | exact nv_le n10 f.2 | exact nv_le n11 f.2 | exact nv_le n8 f1.2 | exact nv_le n9 f1.2 | exact nv_le n10 f1.2 | exact nv_le n11 f1.2 | exact n8 | exact n9 | exact n10 | exact n11 | exact nvK (by omega) (by omega)) ?_)) ⟨(by repeat (first | exact nvL_nil | refine nvL_cons (by first | exact True.intro | exact nvSt (by decide) | exact nvD g.ob.1 | exact nvD hN.1.1 | exact nvD (dv_le hdo0 f.2) | exact nvD (dv_le hda0 f.2) | exact nvD (dv_le hdo0 f1.2) | exact nvD (dv_le hda0 f1.2) | exact nvD hdo0 | exact nvD hda0 | exact nvD hds | exact nv_le n8 f.2 | exact nv_le n9 f.2 | exact nv_le n10 f.2 | exact nv_le n11 f.2 | exact nv_le n8 f1.2 | exact nv_le n9 f1.2 | exact nv_le n10 f1.2 | exact nv_le n11 f1.2 | exact n8 | exact n9 | exact n10 | exact n11 | exact nvK (by omega) (by omega)) ?_)), rfl, Nat.le_of_ble_eq_true rfl⟩ ?_
  refine K_appSD g (Tc (c := 12) (k := [47]) (by decide) (by decide) (by decide) (by decide)) (by first | omega | (simp only [List.length_append, List.length_cons, List.length_nil]; omega)) (by have := dyn_ge g.ob; omega) (by have := dyn_ge g.rb; omega) (fun D b g2 => ?_)
  have f := f.st g g2
  have g := g2.1
  have R := f.rel R0
  refine w_ald0 i113_91 ?_
  refine w_ild4 i113_92 ?_
  refine w_const i113_94 kc_2 ?_
  refine w_VD3 i113_95 c58 (Or.inl rfl) (Or.inl ⟨by decide +kernel, by decide⟩) (by repeat (first | exact nvL_nil | refine nvL_cons (by first | exact True.intro | exact nvSt (by decide) | exact nvD g.ob.1 | exact nvD hN.1.1 | exact nvD (dv_le hdo0 f.2) | exact nvD (dv_le hda0 f.2) | exact nvD (dv_le hdo0 f1.2) | exact nvD (dv_le hda0 f1.2) | exact nvD hdo0 | exact nvD hda0 | exact nvD hds | exact nv_le n8 f.2 | exact nv_le n9 f.2 | exact nv_le n10 f.2 | exact nv_le n11 f.2 | exact nv_le n8 f1.2 | exact nv_le n9 f1.2 | exact nv_le n10 f1.2 | exact nv_le n11 f1.2 | exact n8 | exact n9 | exact n10 | exact n11 | exact nvK (by omega) (by omega)) ?_)) ⟨(by repeat (first | exact nvL_nil | refine nvL_cons (by first | exact True.intro | exact nvSt (by decide) | exact nvD g.ob.1 | exact nvD hN.1.1 | exact nvD (dv_le hdo0 f.2) | exact nvD (dv_le hda0 f.2) | exact nvD (dv_le hdo0 f1.2) | exact nvD (dv_le hda0 f1.2) | exact nvD hdo0 | exact nvD hda0 | exact nvD hds | exact nv_le n8 f.2 | exact nv_le n9 f.2 | exact nv_le n10 f.2 | exact nv_le n11 f.2 | exact nv_le n8 f1.2 | exact nv_le n9 f1.2 | exact nv_le n10 f1.2 | exact nv_le n11 f1.2 | exact n8 | exact n9 | exact n10 | exact n11 | exact nvK (by omega) (by omega)) ?_)), rfl, Nat.le_of_ble_eq_true rfl⟩ (Ex_go (K_stubOf_2 R hle hs) ?_)
  rw [hvk]
  refine w_VD2 i113_98 c190 (Or.inl rfl) (g.rec (by decide +kernel)) (by repeat (first | exact nvL_nil | refine nvL_cons (by first | exact True.intro | exact nvSt (by decide) | exact nvD g.ob.1 | exact nvD hN.1.1 | exact nvD (dv_le hdo0 f.2) | exact nvD (dv_le hda0 f.2) | exact nvD (dv_le hdo0 f1.2) | exact nvD (dv_le hda0 f1.2) | exact nvD hdo0 | exact nvD hda0 | exact nvD hds | exact nv_le n8 f.2 | exact nv_le n9 f.2 | exact nv_le n10 f.2 | exact nv_le n11 f.2 | exact nv_le n8 f1.2 | exact nv_le n9 f1.2 | exact nv_le n10 f1.2 | exact nv_le n11 f1.2 | exact n8 | exact n9 | exact n10 | exact n11 | exact nvK (by omega) (by omega)) ?_)) ⟨(by repeat (first | exact nvL_nil | refine nvL_cons (by first | exact True.intro | exact nvSt (by decide) | exact nvD g.ob.1 | exact nvD hN.1.1 | exact nvD (dv_le hdo0 f.2) | exact nvD (dv_le hda0 f.2) | exact nvD (dv_le hdo0 f1.2) | exact nvD (dv_le hda0 f1.2) | exact nvD hdo0 | exact nvD hda0 | exact nvD hds | exact nv_le n8 f.2 | exact nv_le n9 f.2 | exact nv_le n10 f.2 | exact nv_le n11 f.2 | exact nv_le n8 f1.2 | exact nv_le n9 f1.2 | exact nv_le n10 f1.2 | exact nv_le n11 f1.2 | exact n8 | exact n9 | exact n10 | exact n11 | exact nvK (by omega) (by omega)) ?_)), rfl, Nat.le_of_ble_eq_true rfl⟩ ?_
  refine K_appID g okk (by first | omega | (simp only [List.length_append, List.length_cons, List.length_nil]; omega)) (fun D b g2 => ?_)
  have f := f.st g g2
  have g := g2.1
  have R := f.rel R0
  have e9 : [] ++ ndt (nI s) ++ [64] ++ ndt (nI o5) ++ [58] ++ ndt (nI w) ++ [47] ++ ndt (nI k) = tlB s o5 w k := by unfold tlB; rw [ndt_n (by omega), ndt_n (by omega), ndt_n (by omega), ndt_n (by omega)]
  rw [e9] at g
  exact hk D p b g f
