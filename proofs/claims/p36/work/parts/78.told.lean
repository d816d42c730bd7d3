/-! the law's telling of a statute -/
theorem sN6_elt {f : Nat → Nat} {i : Nat} : ∀ n, i < n → f i ≤ sN6 n f
  | 0, h => absurd h (Nat.not_lt_zero i)
  | n + 1, h => by
    have e : sN6 (n + 1) f = sN6 n f + f n := rfl
    rcases Nat.lt_or_ge i n with q | q
    · have := sN6_elt (f := f) n q; omega
    · rw [show i = n by omega]; omega
/-- all but the line's own rows is as it was -/
def FrT (D D2 : Mm) : Prop := (∀ q, q < DB + nxt D → q ≠ 4500 → q ≠ 170 → q ≠ 182 → D2 q = D q) ∧ nxt D ≤ nxt D2
theorem FrT.rf {D : Mm} : FrT D D := ⟨fun _ _ _ _ _ => rfl, Nat.le_refl _⟩
theorem FrT.tr {D D2 D3 : Mm} (h : FrT D D2) (g : FrT D2 D3) : FrT D D3 := ⟨fun q a b c e => (g.1 q (by have := h.2; omega) b c e).trans (h.1 q a b c e), Nat.le_trans h.2 g.2⟩
theorem Fr0.t {D D2 : Mm} (h : Fr0 D D2) : FrT D D2 := ⟨fun q a b _ _ => h.1 q a b, h.2⟩
theorem FrB.nx {D D2 : Mm} (h : FrB 170 D D2) : nxt D2 = nxt D ∧ usd D2 = usd D := by
  have e := h 4500 (by decide) (by decide)
  unfold nxt usd; rw [e]; exact ⟨rfl, rfl⟩
theorem FrB.t {D D2 : Mm} (h : FrB 170 D D2) : FrT D D2 := ⟨fun q _ _ c e => h q c e, by rw [h.nx.1]; exact Nat.le_refl _⟩
theorem FrT.rel {D D2 : Mm} {n : Nat} {V : Nat → Int32} (h : FrT D D2) (R : Rel D n V) : Rel D2 n V := R.fr (fun q a b => h.1 q (by unfold DB; omega) (by omega) (by omega) (by omega))
theorem FrT.st {D D1 D2 : Mm} {T u o b b2 : Nat} {t t1 : List Nat} (h : FrT D D1) (s : SbX D1 (nxt D) T u o b t1) (g : StX D1 D2 (nxt D) T u o b b2 t) : FrT D D2 := by
  have hl := s.low
  have h2 := h.2
  exact ⟨fun q x y z w => (g.2.1.1 q (by omega) y (by omega) (by omega)).trans (h.1 q x y z w), Nat.le_trans h.2 g.2.1.2⟩
theorem StX.sbr {D1 D2 : Mm} {lo T u o b b2 : Nat} {t t1 ln : List Nat} (g : StX D1 D2 lo T u o b b2 t) (s : SbX D1 lo T u o b t1) (h : SbR D1 170 ln) : SbR D2 170 ln := by
  have h1 := dyn_ge s.ob
  have h2 := dyn_ge s.rb
  have hB := DBv
  exact h.fr (g.2.1.1 170 (by omega) (by omega) (by omega) (by omega)) (g.2.1.1 182 (by omega) (by omega) (by omega) (by omega))
theorem K_tellV {d : Nat} {D : Mm} {Q : Option Value → Mm → Prop} {n B s : Nat} {V : Nat → Int32} (R : Rel D n V) (H : IV n V B) (hs : s < n) {ln : List Nat} (hL : SbR D 170 ln) (hq : ∀ D2, SbR D2 170 (tlV V s) → FrB 170 D D2 → Q (some (.int (nI (tlV V s).length))) D2) : Ct (d + 9) 76 [.ref 0, .int (nI s)] D Q := by
  obtain ⟨o, w, k, t, u, z, b, h0, h1, h2, h3, h4, h5, h6, b0, b1, b2, b3, b4, b5, b6, b7, b8⟩ := H.2.2.1 s hs
  have e : tlV V s = tlS s o w k t u b z := by
    unfold tlV
    rw [h0, h1, h2, h3, h4, h5, h6, cl_nI (by omega), cl_nI (by omega), cl_nI (by omega), cl_nI (by omega), cl_nI (by omega), cl_nI (by omega), cl_nI (by omega)]
  rw [e] at hq
  exact K_tell R H.2.1 hs h0 h1 h2 h3 h4 h5 h6 (by omega) (by omega) (by omega) (by omega) (by omega) (by omega) (by omega) hL hq
theorem K_tellHV {d : Nat} {D : Mm} {Q : Option Value → Mm → Prop} {n B : Nat} {V : Nat → Int32} (R : Rel D n V) (H : IV n V B) (hB : B ≤ 9000) {ln : List Nat} (hL : SbR D 170 ln) (hq : ∀ D2, SbR D2 170 (thV V) → FrB 170 D D2 → Q (some (.int (nI (thV V).length))) D2) : Ct (d + 9) 77 [.ref 0] D Q := by
  have hs := SM_le H
  exact K_tellH R H.2.1 H.op (O := opc V) (S := stc V) (P := poc V) (fun h hh => ⟨(opc_01 H hh).2.1, by have := (opc_01 H hh).1; omega⟩) (fun h hh => ⟨(ho_nat H hh).1.1, by have := sN6_elt (f := stc V) 6 hh; omega⟩) (fun h hh => ⟨(ho_nat H hh).2.1.1, by have := sN6_elt (f := poc V) 6 hh; omega⟩) hL hq
set_option maxHeartbeats 3000000 in
theorem K_told {d : Nat} {D : Mm} {Q : Option Value → Mm → Prop} {n B : Nat} {V : Nat → Int32} (R : Rel D n V) (H : IV n V B) (G : GV n V B) (hB : B ≤ 9000) {ln0 : List Nat} (hS : SbR D 170 ln0) (hu0 : nxt D ≤ usd D) (hu1 : usd D ≤ 800000) (hq : ∀ D2 s nb ln, TxD D2 s nb (toldT n V) → dyn D2 s 9 → DB + nxt D ≤ s ∧ DB + nxt D ≤ nb → FrT D D2 → SbR D2 170 ln → nxt D2 ≤ usd D2 → usd D2 ≤ usd D + 5300 → Q (some (.ref s)) D2) : Ct (d + 11) 111 [.ref 0] D Q := by
  have hBE := DBv
  have hf : fitU D 4 := ⟨by omega, hu0⟩
  obtain ⟨o, eo⟩ : ∃ o, o = DB + nxt D := ⟨_, rfl⟩
  obtain ⟨D1, e1⟩ : ∃ D1, D1 = alD D (rwO 0) 4 := ⟨_, rfl⟩
  have hN : NwX D1 (nxt D) (usd D + 5) o := by rw [e1, eo]; exact NwX.new hu0 (by omega) (by omega)
  have hus1 : usd D1 ≤ usd D + 5 := hN.2.2.2.2.2.1
  have hdo : dv D1 o := hN.1.1
  have hgo1 := dyn_ge hN.1
  have f1 : Fr0 D D1 := by rw [e1]; exact FrL.al hf (Nat.le_refl _)
  have en1 : nxt D1 = nxt D + 1 := by rw [e1]; exact al_nxt hf
  refine ent m111 rfl rfl (ls := [.ref 0, .retAddr 0, .retAddr 0]) rfl ?_
  refine w_new i111_0 (Or.inl rfl) (nvL_ok (by repeat (first | exact nvL_nil | refine nvL_cons (by first | exact True.intro | exact nvSt (by decide) | exact nvD hdo | exact nvD hdo2 | exact nvD hdo3 | exact nvD hdo4 | exact nvD hdo5 | exact nvD hdo6 | exact nvD hdo7 | exact nvD hdo8 | exact nvD hdo9 | exact nvD hdoa | exact nvD hdoa1 | exact nvD hdob | exact nvD hdoc | exact nvD hdsb | exact nvD hds | exact nvK (by omega) (by omega)) ?_))) (nvL_ok (by repeat (first | exact nvL_nil | refine nvL_cons (by first | exact True.intro | exact nvSt (by decide) | exact nvD hdo | exact nvD hdo2 | exact nvD hdo3 | exact nvD hdo4 | exact nvD hdo5 | exact nvD hdo6 | exact nvD hdo7 | exact nvD hdo8 | exact nvD hdo9 | exact nvD hdoa | exact nvD hdoa1 | exact nvD hdob | exact nvD hdoc | exact nvD hdsb | exact nvD hds | exact nvK (by omega) (by omega)) ?_))) hf ?_
  rw [show nF 0 = 4 from rfl, ← eo, ← e1]
  refine w_dup i111_3 rfl ?_
  refine w_ald0 i111_4 ?_
  refine w_ald0 i111_5 ?_
  refine w_VD1 i111_6 c77 (Or.inl rfl) (Or.inl ⟨by decide +kernel, by decide⟩) (by repeat (first | exact nvL_nil | refine nvL_cons (by first | exact True.intro | exact nvSt (by decide) | exact nvD hdo | exact nvD hdo2 | exact nvD hdo3 | exact nvD hdo4 | exact nvD hdo5 | exact nvD hdo6 | exact nvD hdo7 | exact nvD hdo8 | exact nvD hdo9 | exact nvD hdoa | exact nvD hdoa1 | exact nvD hdob | exact nvD hdoc | exact nvD hdsb | exact nvD hds | exact nvK (by omega) (by omega)) ?_)) ⟨(by repeat (first | exact nvL_nil | refine nvL_cons (by first | exact True.intro | exact nvSt (by decide) | exact nvD hdo | exact nvD hdo2 | exact nvD hdo3 | exact nvD hdo4 | exact nvD hdo5 | exact nvD hdo6 | exact nvD hdo7 | exact nvD hdo8 | exact nvD hdo9 | exact nvD hdoa | exact nvD hdoa1 | exact nvD hdob | exact nvD hdoc | exact nvD hdsb | exact nvD hds | exact nvK (by omega) (by omega)) ?_)), rfl, Nat.le_of_ble_eq_true rfl⟩ ?_
  refine K_tellHV (f1.t.rel R) H hB (f1.sb (Or.inr rfl) hS) (fun Da sa fa => ?_)
  have ena := fa.nx
  have hdoa : dyn Da o 0 := dyn_fr hN.1 (by rw [ena.1]; exact Nat.le_refl _) (fa o (by omega) (by omega))
  have hdoa1 := hdoa.1
  refine w_SD2 i111_9 c110 rfl (by repeat (first | exact nvL_nil | refine nvL_cons (by first | exact True.intro | exact nvSt (by decide) | exact nvD hdo | exact nvD hdo2 | exact nvD hdo3 | exact nvD hdo4 | exact nvD hdo5 | exact nvD hdo6 | exact nvD hdo7 | exact nvD hdo8 | exact nvD hdo9 | exact nvD hdoa | exact nvD hdoa1 | exact nvD hdob | exact nvD hdoc | exact nvD hdsb | exact nvD hds | exact nvK (by omega) (by omega)) ?_)) ⟨(by repeat (first | exact nvL_nil | refine nvL_cons (by first | exact True.intro | exact nvSt (by decide) | exact nvD hdo | exact nvD hdo2 | exact nvD hdo3 | exact nvD hdo4 | exact nvD hdo5 | exact nvD hdo6 | exact nvD hdo7 | exact nvD hdo8 | exact nvD hdo9 | exact nvD hdoa | exact nvD hdoa1 | exact nvD hdob | exact nvD hdoc | exact nvD hdsb | exact nvD hds | exact nvK (by omega) (by omega)) ?_)), rfl, Nat.le_of_ble_eq_true rfl⟩ ?_
  refine K_line sa (by have := thV_len (V := V); omega) (by rw [ena.1, ena.2]; exact hN.2.2.2.2.1) (by rw [ena.2]; omega) (fun Db sb nb xb hsb hgb fb h3b h4b => ?_)
  have hlv := thV_len (V := V)
  rw [ena.1] at hgb
  rw [ena.2] at h4b
  have hdsb := hsb.1
  have eob : Db o = D1 o := (fb.1 o (by rw [ena.1]; omega) (by omega)).trans (fa o (by omega) (by omega))
  have hNb : NwX Db (nxt D) (usd D + 408) o := hN.fr (by have := fb.2; omega) eob h3b (by omega) (by omega)
  have hdob := hNb.1.1
  have fDb : FrT D Db := (f1.t.tr fa.t).tr fb.t
  refine w_PD2 i111_12 c123 (Or.inr rfl) (Or.inr ⟨hNb.1.1, by rw [hNb.1.2]; decide +kernel, by rw [hNb.1.2]; decide⟩) (by repeat (first | exact nvL_nil | refine nvL_cons (by first | exact True.intro | exact nvSt (by decide) | exact nvD hdo | exact nvD hdo2 | exact nvD hdo3 | exact nvD hdo4 | exact nvD hdo5 | exact nvD hdo6 | exact nvD hdo7 | exact nvD hdo8 | exact nvD hdo9 | exact nvD hdoa | exact nvD hdoa1 | exact nvD hdob | exact nvD hdoc | exact nvD hdsb | exact nvD hds | exact nvK (by omega) (by omega)) ?_)) ⟨(by repeat (first | exact nvL_nil | refine nvL_cons (by first | exact True.intro | exact nvSt (by decide) | exact nvD hdo | exact nvD hdo2 | exact nvD hdo3 | exact nvD hdo4 | exact nvD hdo5 | exact nvD hdo6 | exact nvD hdo7 | exact nvD hdo8 | exact nvD hdo9 | exact nvD hdoa | exact nvD hdoa1 | exact nvD hdob | exact nvD hdoc | exact nvD hdsb | exact nvD hds | exact nvK (by omega) (by omega)) ?_)), rfl, Nat.le_of_ble_eq_true rfl⟩ ?_
  refine K_newSBS (T := 600) hNb (by omega) xb (by omega) (fun Dc bc gc1 gc2 gc3 => ?_)
  have hdoc := gc1.ob.1
  have fDc : FrT D Dc := by
    have q1 := fDb.2
    have hl2 := gc1.low
    exact ⟨fun q x y z w => (gc2.1 q (by omega) y (by omega) (by omega)).trans (fDb.1 q x y z w), Nat.le_trans fDb.2 gc2.2⟩
  have sc : SbR Dc 170 (thV V) := by
    have hob := dyn_ge hNb.1
    have hsb0 := fb.sb (Or.inr rfl) sa
    exact hsb0.fr (gc2.1 170 (by omega) (by omega) (by omega) (by omega)) (gc2.1 182 (by omega) (by omega) (by omega) (by omega))
  refine w_ast1 i111_15 ?_
  refine w_const i111_16 kc_0 ?_
  refine w_ist2 i111_17 ?_
  have L18 : ∀ k j, j + k = 12 → ∀ D2 b2, SbX D2 (nxt D) 600 (usd D + 408) o b2 (thV V ++ accL n V j) → FrT D D2 → SbR D2 170 (thV V) → Wp (d + 10) 111 Q 18 [.ref 0, .ref o, .int (nI j)] [] D2 := by
    intro k
    induction k with
    | zero =>
      intro j hjk D2 b2 g2s f2 s2
      have hdo2 := g2s.ob.1
      have g2 := StX.rf g2s
      have R2 := f2.rel R
      have hlv := thV_len (V := V)
      have h12 := H.2.1
      have hj : 12 = j := hjk.symm
      subst hj
      refine w_ild2 i111_18 ?_
      refine w_bip i111_19 kb_12 ?_
      refine w_cgeNT i111_21 g111_21 (by omega) (by omega) (Nat.le_refl _) ?_
      refine w_const i111_45 kc_0 ?_
      refine w_ist2 i111_46 ?_
      have L47 : ∀ k j, j + k = n → ∀ D2 b2, SbX D2 (nxt D) 600 (usd D + 408 + 143 * j) o b2 (thV V ++ accL n V 12 ++ stuL V j) → FrT D D2 → (∃ ln, SbR D2 170 ln) → Wp (d + 10) 111 Q 47 [.ref 0, .ref o, .int (nI j)] [] D2 := by
        intro k
        induction k with
        | zero =>
          intro j hjk D2 b2 g2s f2 s2e
          have hdo2 := g2s.ob.1
          have g2 := StX.rf g2s
          have R2 := f2.rel R
          obtain ⟨ln, s2⟩ := s2e
          have hlv := thV_len (V := V)
          have h12 := H.2.1
          have hj : n = j := hjk.symm
          subst hj
          refine w_ild2 i111_47 ?_
          refine w_ald0 i111_48 ?_
          refine w_const i111_49 kc_0 ?_
          refine w_VD2 i111_50 c80 (Or.inl rfl) (Or.inl ⟨by decide +kernel, by decide⟩) (by repeat (first | exact nvL_nil | refine nvL_cons (by first | exact True.intro | exact nvSt (by decide) | exact nvD hdo | exact nvD hdo2 | exact nvD hdo3 | exact nvD hdo4 | exact nvD hdo5 | exact nvD hdo6 | exact nvD hdo7 | exact nvD hdo8 | exact nvD hdo9 | exact nvD hdoa | exact nvD hdoa1 | exact nvD hdob | exact nvD hdoc | exact nvD hdsb | exact nvD hds | exact nvK (by omega) (by omega)) ?_)) ⟨(by repeat (first | exact nvL_nil | refine nvL_cons (by first | exact True.intro | exact nvSt (by decide) | exact nvD hdo | exact nvD hdo2 | exact nvD hdo3 | exact nvD hdo4 | exact nvD hdo5 | exact nvD hdo6 | exact nvD hdo7 | exact nvD hdo8 | exact nvD hdo9 | exact nvD hdoa | exact nvD hdoa1 | exact nvD hdob | exact nvD hdoc | exact nvD hdsb | exact nvD hds | exact nvK (by omega) (by omega)) ?_)), rfl, Nat.le_of_ble_eq_true rfl⟩ (Ex_go (K_acc0 R2 H.2.1 H.op (H.hc (by omega)).2.2.1) ?_)
          refine w_cgeNT i111_53 g111_53 (by omega) (by omega) (Nat.le_refl _) ?_
          refine w_const i111_111 kc_0 ?_
          refine w_ist2 i111_112 ?_
          have L113 : ∀ k j, j + k = 6 → ∀ D2 b2, SbX D2 (nxt D) 600 (usd D + 408 + 143 * 12) o b2 (thV V ++ accL n V 12 ++ stuL V n ++ houL V j) → FrT D D2 → (∃ ln, SbR D2 170 ln) → Wp (d + 10) 111 Q 113 [.ref 0, .ref o, .int (nI j)] [] D2 := by
            intro k
            induction k with
            | zero =>
              intro j hjk D2 b2 g2s f2 s2e
              have hdo2 := g2s.ob.1
              have g2 := StX.rf g2s
              have R2 := f2.rel R
              obtain ⟨ln, s2⟩ := s2e
              have hlv := thV_len (V := V)
              have h12 := H.2.1
              have hj : 6 = j := hjk.symm
              subst hj
              have hal := accL_len H G hB 12 (by omega)
              have hsl := stuL_len H G hB n (Nat.le_refl _)
              have hhl := houL_len H 6 (Nat.le_refl _)
              have htl : (thV V ++ accL n V 12 ++ stuL V n ++ houL V 6).length ≤ 600 := by simp only [List.length_append]; omega
              refine w_ild2 i111_113 ?_
              refine w_bip i111_114 kb_6 ?_
              refine w_cgeNT i111_116 g111_116 (by omega) (by omega) (Nat.le_refl _) ?_
              refine w_ald1 i111_141 ?_
              refine w_VD1 i111_142 c135 (Or.inl rfl) (g2s.rec (by decide +kernel)) (by repeat (first | exact nvL_nil | refine nvL_cons (by first | exact True.intro | exact nvSt (by decide) | exact nvD hdo | exact nvD hdo2 | exact nvD hdo3 | exact nvD hdo4 | exact nvD hdo5 | exact nvD hdo6 | exact nvD hdo7 | exact nvD hdo8 | exact nvD hdo9 | exact nvD hdoa | exact nvD hdoa1 | exact nvD hdob | exact nvD hdoc | exact nvD hdsb | exact nvD hds | exact nvK (by omega) (by omega)) ?_)) ⟨(by repeat (first | exact nvL_nil | refine nvL_cons (by first | exact True.intro | exact nvSt (by decide) | exact nvD hdo | exact nvD hdo2 | exact nvD hdo3 | exact nvD hdo4 | exact nvD hdo5 | exact nvD hdo6 | exact nvD hdo7 | exact nvD hdo8 | exact nvD hdo9 | exact nvD hdoa | exact nvD hdoa1 | exact nvD hdob | exact nvD hdoc | exact nvD hdsb | exact nvD hds | exact nvK (by omega) (by omega)) ?_)), rfl, Nat.le_of_ble_eq_true rfl⟩ ?_
              have hus := g2s.us
              have hcp := g2s.cpm
              refine K_tsD g2s htl (by omega) (fun D3 s nb x hs hg f3 h3 h4 => ?_)
              have hds := hs.1
              refine w_raD i111_145 r111 hds ?_
              have f2' := f2.2
              exact hq D3 s nb ln x hs ⟨by omega, by omega⟩ (f2.tr f3.t) (f3.sb (Or.inr rfl) s2) h3 (by rw [h4]; omega)
            | succ k ih =>
              intro j hjk D2 b2 g2s f2 s2e
              have hdo2 := g2s.ob.1
              have g2 := StX.rf g2s
              have R2 := f2.rel R
              obtain ⟨ln, s2⟩ := s2e
              have hlv := thV_len (V := V)
              have h12 := H.2.1
              have hj : j < 6 := by omega
              have hal := accL_len H G hB 12 (by omega)
              have hsl := stuL_len H G hB n (Nat.le_refl _)
              have hhl := houL_len H j (by omega)
              refine w_ild2 i111_113 ?_
              refine w_bip i111_114 kb_6 ?_
              refine w_cgeNF i111_116 (by omega) (by omega) (by omega) ?_
              refine w_ald1 i111_119 ?_
              refine w_bip i111_120 kb_59 ?_
              refine w_VD2 i111_122 c189 (Or.inl rfl) (g2.1.rec (by decide +kernel)) (by repeat (first | exact nvL_nil | refine nvL_cons (by first | exact True.intro | exact nvSt (by decide) | exact nvD hdo | exact nvD hdo2 | exact nvD hdo3 | exact nvD hdo4 | exact nvD hdo5 | exact nvD hdo6 | exact nvD hdo7 | exact nvD hdo8 | exact nvD hdo9 | exact nvD hdoa | exact nvD hdoa1 | exact nvD hdob | exact nvD hdoc | exact nvD hdsb | exact nvD hds | exact nvK (by omega) (by omega)) ?_)) ⟨(by repeat (first | exact nvL_nil | refine nvL_cons (by first | exact True.intro | exact nvSt (by decide) | exact nvD hdo | exact nvD hdo2 | exact nvD hdo3 | exact nvD hdo4 | exact nvD hdo5 | exact nvD hdo6 | exact nvD hdo7 | exact nvD hdo8 | exact nvD hdo9 | exact nvD hdoa | exact nvD hdoa1 | exact nvD hdob | exact nvD hdoc | exact nvD hdsb | exact nvD hds | exact nvK (by omega) (by omega)) ?_)), rfl, Nat.le_of_ble_eq_true rfl⟩ ?_
              refine K_appCD g2.1 (by simp only [List.length_append, List.length_cons, List.length_nil]; omega) (by decide) (fun D3 b3 g3 => ?_)
              have hdo3 := g3.1.ob.1
              have f3 := f2.st g2.1 g3
              have s3 := g3.sbr g2.1 s2
              have R3 := f3.rel R
              obtain ⟨eh, heh, eeh⟩ := (ho_nat H hj).2.2
              have hok : okN (V (6 + 4 * j + 1)) (ndt (V (6 + 4 * j + 1))) := by rw [eeh]; exact okN_n (by omega)
              have hokl := (okN_len hok).1
              refine w_ald0 i111_125 ?_
              refine w_ild2 i111_126 ?_
              refine w_const i111_127 kc_1 ?_
              refine w_VD3 i111_128 c67 (Or.inl rfl) (Or.inl ⟨by decide +kernel, by decide⟩) (by repeat (first | exact nvL_nil | refine nvL_cons (by first | exact True.intro | exact nvSt (by decide) | exact nvD hdo | exact nvD hdo2 | exact nvD hdo3 | exact nvD hdo4 | exact nvD hdo5 | exact nvD hdo6 | exact nvD hdo7 | exact nvD hdo8 | exact nvD hdo9 | exact nvD hdoa | exact nvD hdoa1 | exact nvD hdob | exact nvD hdoc | exact nvD hdsb | exact nvD hds | exact nvK (by omega) (by omega)) ?_)) ⟨(by repeat (first | exact nvL_nil | refine nvL_cons (by first | exact True.intro | exact nvSt (by decide) | exact nvD hdo | exact nvD hdo2 | exact nvD hdo3 | exact nvD hdo4 | exact nvD hdo5 | exact nvD hdo6 | exact nvD hdo7 | exact nvD hdo8 | exact nvD hdo9 | exact nvD hdoa | exact nvD hdoa1 | exact nvD hdob | exact nvD hdoc | exact nvD hdsb | exact nvD hds | exact nvK (by omega) (by omega)) ?_)), rfl, Nat.le_of_ble_eq_true rfl⟩ (Ex_go (K_houseOf_1 R3 H.2.1 H.op hj) ?_)
              refine w_VD2 i111_131 c190 (Or.inl rfl) (g3.1.rec (by decide +kernel)) (by repeat (first | exact nvL_nil | refine nvL_cons (by first | exact True.intro | exact nvSt (by decide) | exact nvD hdo | exact nvD hdo2 | exact nvD hdo3 | exact nvD hdo4 | exact nvD hdo5 | exact nvD hdo6 | exact nvD hdo7 | exact nvD hdo8 | exact nvD hdo9 | exact nvD hdoa | exact nvD hdoa1 | exact nvD hdob | exact nvD hdoc | exact nvD hdsb | exact nvD hds | exact nvK (by omega) (by omega)) ?_)) ⟨(by repeat (first | exact nvL_nil | refine nvL_cons (by first | exact True.intro | exact nvSt (by decide) | exact nvD hdo | exact nvD hdo2 | exact nvD hdo3 | exact nvD hdo4 | exact nvD hdo5 | exact nvD hdo6 | exact nvD hdo7 | exact nvD hdo8 | exact nvD hdo9 | exact nvD hdoa | exact nvD hdoa1 | exact nvD hdob | exact nvD hdoc | exact nvD hdsb | exact nvD hds | exact nvK (by omega) (by omega)) ?_)), rfl, Nat.le_of_ble_eq_true rfl⟩ ?_
              refine K_appID g3.1 hok (by simp only [List.length_append, List.length_cons, List.length_nil]; omega) (fun D4 b4 g4 => ?_)
              have hdo4 := g4.1.ob.1
              have f4 := f3.st g3.1 g4
              have s4 := g4.sbr g3.1 s3
              refine w_pop i111_134 rfl ?_
              refine w_inc2 i111_135 (inc1 _) ?_
              refine w_goto i111_138 g111_138 ?_
              exact ih (j + 1) (by omega) D4 b4 (by rw [show thV V ++ accL n V 12 ++ stuL V n ++ houL V (j + 1) = thV V ++ accL n V 12 ++ stuL V n ++ houL V j ++ [59] ++ ndt (V (6 + 4 * j + 1)) from by show thV V ++ accL n V 12 ++ stuL V n ++ (houL V j ++ [59] ++ ndt (V (6 + 4 * j + 1))) = _; simp only [List.append_assoc]]; exact g4.1) f4 ⟨_, s4⟩
          exact L113 _ 0 (Nat.zero_add _) D2 b2 (by rw [show thV V ++ accL n V 12 ++ stuL V n ++ houL V 0 = thV V ++ accL n V 12 ++ stuL V n from List.append_nil _]; exact g2s.mv rfl rfl (Nat.le_refl _) g2s.nu (by omega) (by omega)) f2 ⟨_, s2⟩
        | succ k ih =>
          intro j hjk D2 b2 g2s f2 s2e
          have hdo2 := g2s.ob.1
          have g2 := StX.rf g2s
          have R2 := f2.rel R
          obtain ⟨ln, s2⟩ := s2e
          have hlv := thV_len (V := V)
          have h12 := H.2.1
          have hj : j < n := by omega
          have hal := accL_len H G hB 12 (by omega)
          have hsl := stuL_len H G hB j (by omega)
          refine w_ild2 i111_47 ?_
          refine w_ald0 i111_48 ?_
          refine w_const i111_49 kc_0 ?_
          refine w_VD2 i111_50 c80 (Or.inl rfl) (Or.inl ⟨by decide +kernel, by decide⟩) (by repeat (first | exact nvL_nil | refine nvL_cons (by first | exact True.intro | exact nvSt (by decide) | exact nvD hdo | exact nvD hdo2 | exact nvD hdo3 | exact nvD hdo4 | exact nvD hdo5 | exact nvD hdo6 | exact nvD hdo7 | exact nvD hdo8 | exact nvD hdo9 | exact nvD hdoa | exact nvD hdoa1 | exact nvD hdob | exact nvD hdoc | exact nvD hdsb | exact nvD hds | exact nvK (by omega) (by omega)) ?_)) ⟨(by repeat (first | exact nvL_nil | refine nvL_cons (by first | exact True.intro | exact nvSt (by decide) | exact nvD hdo | exact nvD hdo2 | exact nvD hdo3 | exact nvD hdo4 | exact nvD hdo5 | exact nvD hdo6 | exact nvD hdo7 | exact nvD hdo8 | exact nvD hdo9 | exact nvD hdoa | exact nvD hdoa1 | exact nvD hdob | exact nvD hdoc | exact nvD hdsb | exact nvD hds | exact nvK (by omega) (by omega)) ?_)), rfl, Nat.le_of_ble_eq_true rfl⟩ (Ex_go (K_acc0 R2 H.2.1 H.op (H.hc (by omega)).2.2.1) ?_)
          refine w_cgeNF i111_53 (by omega) (by omega) (by omega) ?_
          refine w_ald1 i111_56 ?_
          refine w_bip i111_57 kb_59 ?_
          refine w_VD2 i111_59 c189 (Or.inl rfl) (g2.1.rec (by decide +kernel)) (by repeat (first | exact nvL_nil | refine nvL_cons (by first | exact True.intro | exact nvSt (by decide) | exact nvD hdo | exact nvD hdo2 | exact nvD hdo3 | exact nvD hdo4 | exact nvD hdo5 | exact nvD hdo6 | exact nvD hdo7 | exact nvD hdo8 | exact nvD hdo9 | exact nvD hdoa | exact nvD hdoa1 | exact nvD hdob | exact nvD hdoc | exact nvD hdsb | exact nvD hds | exact nvK (by omega) (by omega)) ?_)) ⟨(by repeat (first | exact nvL_nil | refine nvL_cons (by first | exact True.intro | exact nvSt (by decide) | exact nvD hdo | exact nvD hdo2 | exact nvD hdo3 | exact nvD hdo4 | exact nvD hdo5 | exact nvD hdo6 | exact nvD hdo7 | exact nvD hdo8 | exact nvD hdo9 | exact nvD hdoa | exact nvD hdoa1 | exact nvD hdob | exact nvD hdoc | exact nvD hdsb | exact nvD hds | exact nvK (by omega) (by omega)) ?_)), rfl, Nat.le_of_ble_eq_true rfl⟩ ?_
          refine K_appCD g2.1 (by simp only [List.length_append, List.length_cons, List.length_nil]; omega) (by decide) (fun D3 b3 g3 => ?_)
          have hdo3 := g3.1.ob.1
          have f3 := f2.st g2.1 g3
          have s3 := g3.sbr g2.1 s2
          have R3 := f3.rel R
          have hlt := tlV_len H hj
          refine w_ald0 i111_62 ?_
          refine w_ald0 i111_63 ?_
          refine w_ild2 i111_64 ?_
          refine w_VD2 i111_65 c76 (Or.inl rfl) (Or.inl ⟨by decide +kernel, by decide⟩) (by repeat (first | exact nvL_nil | refine nvL_cons (by first | exact True.intro | exact nvSt (by decide) | exact nvD hdo | exact nvD hdo2 | exact nvD hdo3 | exact nvD hdo4 | exact nvD hdo5 | exact nvD hdo6 | exact nvD hdo7 | exact nvD hdo8 | exact nvD hdo9 | exact nvD hdoa | exact nvD hdoa1 | exact nvD hdob | exact nvD hdoc | exact nvD hdsb | exact nvD hds | exact nvK (by omega) (by omega)) ?_)) ⟨(by repeat (first | exact nvL_nil | refine nvL_cons (by first | exact True.intro | exact nvSt (by decide) | exact nvD hdo | exact nvD hdo2 | exact nvD hdo3 | exact nvD hdo4 | exact nvD hdo5 | exact nvD hdo6 | exact nvD hdo7 | exact nvD hdo8 | exact nvD hdo9 | exact nvD hdoa | exact nvD hdoa1 | exact nvD hdob | exact nvD hdoc | exact nvD hdsb | exact nvD hds | exact nvK (by omega) (by omega)) ?_)), rfl, Nat.le_of_ble_eq_true rfl⟩ ?_
          refine K_tellV R3 H hj s3 (fun Da sa fa => ?_)
          have ena := fa.nx
          have go3 := dyn_ge g3.1.ob
          have gb3 := dyn_ge g3.1.rb
          have ga : SbX Da (nxt D) 600 (usd D + 408 + 143 * j) o b3 (thV V ++ accL n V 12 ++ stuL V j ++ [59]) := g3.1.mv (fa o (by omega) (by omega)) (fa b3 (by omega) (by omega)) (by rw [ena.1]; exact Nat.le_refl _) (by rw [ena.1, ena.2]; exact g3.1.nu) (by rw [ena.2]; omega) (by omega)
          have hdoa := ga.ob.1
          have usa := ga.us
          have cpa := ga.cpm
          refine w_SD2 i111_68 c110 rfl (by repeat (first | exact nvL_nil | refine nvL_cons (by first | exact True.intro | exact nvSt (by decide) | exact nvD hdo | exact nvD hdo2 | exact nvD hdo3 | exact nvD hdo4 | exact nvD hdo5 | exact nvD hdo6 | exact nvD hdo7 | exact nvD hdo8 | exact nvD hdo9 | exact nvD hdoa | exact nvD hdoa1 | exact nvD hdob | exact nvD hdoc | exact nvD hdsb | exact nvD hds | exact nvK (by omega) (by omega)) ?_)) ⟨(by repeat (first | exact nvL_nil | refine nvL_cons (by first | exact True.intro | exact nvSt (by decide) | exact nvD hdo | exact nvD hdo2 | exact nvD hdo3 | exact nvD hdo4 | exact nvD hdo5 | exact nvD hdo6 | exact nvD hdo7 | exact nvD hdo8 | exact nvD hdo9 | exact nvD hdoa | exact nvD hdoa1 | exact nvD hdob | exact nvD hdoc | exact nvD hdsb | exact nvD hds | exact nvK (by omega) (by omega)) ?_)), rfl, Nat.le_of_ble_eq_true rfl⟩ ?_
          refine K_line sa (by omega) ga.nu (by omega) (fun D4 sb nb xb hsb hgb fb h3b h4b => ?_)
          rw [ena.1] at hgb
          have hdsb := hsb.1
          have g4s : SbX D4 (nxt D) 600 (usd D + 408 + 143 * (j + 1)) o b3 (thV V ++ accL n V 12 ++ stuL V j ++ [59]) := ga.mv (fb.1 o (by omega) (by omega)) (fb.1 b3 (by omega) (by omega)) fb.2 h3b (by omega) (by omega)
          have hdo4 := g4s.ob.1
          have f4 : FrT D D4 := (f3.tr fa.t).tr fb.t
          have s4 := fb.sb (Or.inr rfl) sa
          refine w_VD2 i111_71 c126 (Or.inl rfl) (g4s.rec (by decide +kernel)) (by repeat (first | exact nvL_nil | refine nvL_cons (by first | exact True.intro | exact nvSt (by decide) | exact nvD hdo | exact nvD hdo2 | exact nvD hdo3 | exact nvD hdo4 | exact nvD hdo5 | exact nvD hdo6 | exact nvD hdo7 | exact nvD hdo8 | exact nvD hdo9 | exact nvD hdoa | exact nvD hdoa1 | exact nvD hdob | exact nvD hdoc | exact nvD hdsb | exact nvD hds | exact nvK (by omega) (by omega)) ?_)) ⟨(by repeat (first | exact nvL_nil | refine nvL_cons (by first | exact True.intro | exact nvSt (by decide) | exact nvD hdo | exact nvD hdo2 | exact nvD hdo3 | exact nvD hdo4 | exact nvD hdo5 | exact nvD hdo6 | exact nvD hdo7 | exact nvD hdo8 | exact nvD hdo9 | exact nvD hdoa | exact nvD hdoa1 | exact nvD hdob | exact nvD hdoc | exact nvD hdsb | exact nvD hds | exact nvK (by omega) (by omega)) ?_)), rfl, Nat.le_of_ble_eq_true rfl⟩ ?_
          refine K_appSD g4s xb (by simp only [List.length_append, List.length_cons, List.length_nil]; omega) (by omega) (by omega) (fun D5 b5 g5 => ?_)
          have hdo5 := g5.1.ob.1
          have f5 := f4.st g4s g5
          have s5 := g5.sbr g4s s4
          refine w_bip i111_74 kb_47 ?_
          refine w_VD2 i111_76 c189 (Or.inl rfl) (g5.1.rec (by decide +kernel)) (by repeat (first | exact nvL_nil | refine nvL_cons (by first | exact True.intro | exact nvSt (by decide) | exact nvD hdo | exact nvD hdo2 | exact nvD hdo3 | exact nvD hdo4 | exact nvD hdo5 | exact nvD hdo6 | exact nvD hdo7 | exact nvD hdo8 | exact nvD hdo9 | exact nvD hdoa | exact nvD hdoa1 | exact nvD hdob | exact nvD hdoc | exact nvD hdsb | exact nvD hds | exact nvK (by omega) (by omega)) ?_)) ⟨(by repeat (first | exact nvL_nil | refine nvL_cons (by first | exact True.intro | exact nvSt (by decide) | exact nvD hdo | exact nvD hdo2 | exact nvD hdo3 | exact nvD hdo4 | exact nvD hdo5 | exact nvD hdo6 | exact nvD hdo7 | exact nvD hdo8 | exact nvD hdo9 | exact nvD hdoa | exact nvD hdoa1 | exact nvD hdob | exact nvD hdoc | exact nvD hdsb | exact nvD hds | exact nvK (by omega) (by omega)) ?_)), rfl, Nat.le_of_ble_eq_true rfl⟩ ?_
          refine K_appCD g5.1 (by simp only [List.length_append, List.length_cons, List.length_nil]; omega) (by decide) (fun D6 b6 g6 => ?_)
          have hdo6 := g6.1.ob.1
          have f6 := f5.st g5.1 g6
          have s6 := g6.sbr g5.1 s5
          have R6 := f6.rel R
          have ho6 := so6_ok H hj
          have ho6l := (okN_len ho6).1
          have ho7 := so7_ok G hB hj
          have ho7l := (okN_len ho7).1
          refine w_ald0 i111_79 ?_
          refine w_ild2 i111_80 ?_
          refine w_bip i111_81 kb_6 ?_
          refine w_VD3 i111_83 c58 (Or.inl rfl) (Or.inl ⟨by decide +kernel, by decide⟩) (by repeat (first | exact nvL_nil | refine nvL_cons (by first | exact True.intro | exact nvSt (by decide) | exact nvD hdo | exact nvD hdo2 | exact nvD hdo3 | exact nvD hdo4 | exact nvD hdo5 | exact nvD hdo6 | exact nvD hdo7 | exact nvD hdo8 | exact nvD hdo9 | exact nvD hdoa | exact nvD hdoa1 | exact nvD hdob | exact nvD hdoc | exact nvD hdsb | exact nvD hds | exact nvK (by omega) (by omega)) ?_)) ⟨(by repeat (first | exact nvL_nil | refine nvL_cons (by first | exact True.intro | exact nvSt (by decide) | exact nvD hdo | exact nvD hdo2 | exact nvD hdo3 | exact nvD hdo4 | exact nvD hdo5 | exact nvD hdo6 | exact nvD hdo7 | exact nvD hdo8 | exact nvD hdo9 | exact nvD hdoa | exact nvD hdoa1 | exact nvD hdob | exact nvD hdoc | exact nvD hdsb | exact nvD hds | exact nvK (by omega) (by omega)) ?_)), rfl, Nat.le_of_ble_eq_true rfl⟩ (Ex_go (K_stubOf_6 R6 H.2.1 hj) ?_)
          refine w_VD2 i111_86 c190 (Or.inl rfl) (g6.1.rec (by decide +kernel)) (by repeat (first | exact nvL_nil | refine nvL_cons (by first | exact True.intro | exact nvSt (by decide) | exact nvD hdo | exact nvD hdo2 | exact nvD hdo3 | exact nvD hdo4 | exact nvD hdo5 | exact nvD hdo6 | exact nvD hdo7 | exact nvD hdo8 | exact nvD hdo9 | exact nvD hdoa | exact nvD hdoa1 | exact nvD hdob | exact nvD hdoc | exact nvD hdsb | exact nvD hds | exact nvK (by omega) (by omega)) ?_)) ⟨(by repeat (first | exact nvL_nil | refine nvL_cons (by first | exact True.intro | exact nvSt (by decide) | exact nvD hdo | exact nvD hdo2 | exact nvD hdo3 | exact nvD hdo4 | exact nvD hdo5 | exact nvD hdo6 | exact nvD hdo7 | exact nvD hdo8 | exact nvD hdo9 | exact nvD hdoa | exact nvD hdoa1 | exact nvD hdob | exact nvD hdoc | exact nvD hdsb | exact nvD hds | exact nvK (by omega) (by omega)) ?_)), rfl, Nat.le_of_ble_eq_true rfl⟩ ?_
          refine K_appID g6.1 ho6 (by simp only [List.length_append, List.length_cons, List.length_nil]; omega) (fun D7 b7 g7 => ?_)
          have hdo7 := g7.1.ob.1
          have f7 := f6.st g6.1 g7
          have s7 := g7.sbr g6.1 s6
          refine w_bip i111_89 kb_44 ?_
          refine w_VD2 i111_91 c189 (Or.inl rfl) (g7.1.rec (by decide +kernel)) (by repeat (first | exact nvL_nil | refine nvL_cons (by first | exact True.intro | exact nvSt (by decide) | exact nvD hdo | exact nvD hdo2 | exact nvD hdo3 | exact nvD hdo4 | exact nvD hdo5 | exact nvD hdo6 | exact nvD hdo7 | exact nvD hdo8 | exact nvD hdo9 | exact nvD hdoa | exact nvD hdoa1 | exact nvD hdob | exact nvD hdoc | exact nvD hdsb | exact nvD hds | exact nvK (by omega) (by omega)) ?_)) ⟨(by repeat (first | exact nvL_nil | refine nvL_cons (by first | exact True.intro | exact nvSt (by decide) | exact nvD hdo | exact nvD hdo2 | exact nvD hdo3 | exact nvD hdo4 | exact nvD hdo5 | exact nvD hdo6 | exact nvD hdo7 | exact nvD hdo8 | exact nvD hdo9 | exact nvD hdoa | exact nvD hdoa1 | exact nvD hdob | exact nvD hdoc | exact nvD hdsb | exact nvD hds | exact nvK (by omega) (by omega)) ?_)), rfl, Nat.le_of_ble_eq_true rfl⟩ ?_
          refine K_appCD g7.1 (by simp only [List.length_append, List.length_cons, List.length_nil]; omega) (by decide) (fun D8 b8 g8 => ?_)
          have hdo8 := g8.1.ob.1
          have f8 := f7.st g7.1 g8
          have s8 := g8.sbr g7.1 s7
          have R8 := f8.rel R
          refine w_ald0 i111_94 ?_
          refine w_ild2 i111_95 ?_
          refine w_bip i111_96 kb_7 ?_
          refine w_VD3 i111_98 c58 (Or.inl rfl) (Or.inl ⟨by decide +kernel, by decide⟩) (by repeat (first | exact nvL_nil | refine nvL_cons (by first | exact True.intro | exact nvSt (by decide) | exact nvD hdo | exact nvD hdo2 | exact nvD hdo3 | exact nvD hdo4 | exact nvD hdo5 | exact nvD hdo6 | exact nvD hdo7 | exact nvD hdo8 | exact nvD hdo9 | exact nvD hdoa | exact nvD hdoa1 | exact nvD hdob | exact nvD hdoc | exact nvD hdsb | exact nvD hds | exact nvK (by omega) (by omega)) ?_)) ⟨(by repeat (first | exact nvL_nil | refine nvL_cons (by first | exact True.intro | exact nvSt (by decide) | exact nvD hdo | exact nvD hdo2 | exact nvD hdo3 | exact nvD hdo4 | exact nvD hdo5 | exact nvD hdo6 | exact nvD hdo7 | exact nvD hdo8 | exact nvD hdo9 | exact nvD hdoa | exact nvD hdoa1 | exact nvD hdob | exact nvD hdoc | exact nvD hdsb | exact nvD hds | exact nvK (by omega) (by omega)) ?_)), rfl, Nat.le_of_ble_eq_true rfl⟩ (Ex_go (K_stubOf_7 R8 H.2.1 hj) ?_)
          refine w_VD2 i111_101 c190 (Or.inl rfl) (g8.1.rec (by decide +kernel)) (by repeat (first | exact nvL_nil | refine nvL_cons (by first | exact True.intro | exact nvSt (by decide) | exact nvD hdo | exact nvD hdo2 | exact nvD hdo3 | exact nvD hdo4 | exact nvD hdo5 | exact nvD hdo6 | exact nvD hdo7 | exact nvD hdo8 | exact nvD hdo9 | exact nvD hdoa | exact nvD hdoa1 | exact nvD hdob | exact nvD hdoc | exact nvD hdsb | exact nvD hds | exact nvK (by omega) (by omega)) ?_)) ⟨(by repeat (first | exact nvL_nil | refine nvL_cons (by first | exact True.intro | exact nvSt (by decide) | exact nvD hdo | exact nvD hdo2 | exact nvD hdo3 | exact nvD hdo4 | exact nvD hdo5 | exact nvD hdo6 | exact nvD hdo7 | exact nvD hdo8 | exact nvD hdo9 | exact nvD hdoa | exact nvD hdoa1 | exact nvD hdob | exact nvD hdoc | exact nvD hdsb | exact nvD hds | exact nvK (by omega) (by omega)) ?_)), rfl, Nat.le_of_ble_eq_true rfl⟩ ?_
          refine K_appID g8.1 ho7 (by simp only [List.length_append, List.length_cons, List.length_nil]; omega) (fun D9 b9 g9 => ?_)
          have hdo9 := g9.1.ob.1
          have f9 := f8.st g8.1 g9
          have s9 := g9.sbr g8.1 s8
          refine w_pop i111_104 rfl ?_
          refine w_inc2 i111_105 (inc1 _) ?_
          refine w_goto i111_108 g111_108 ?_
          exact ih (j + 1) (by omega) D9 b9 (by rw [show thV V ++ accL n V 12 ++ stuL V (j + 1) = thV V ++ accL n V 12 ++ stuL V j ++ [59] ++ tlV V j ++ [47] ++ ndt (vStubOf V j 6) ++ [44] ++ ndt (vStubOf V j 7) from by show thV V ++ accL n V 12 ++ (stuL V j ++ [59] ++ tlV V j ++ [47] ++ ndt (vStubOf V j 6) ++ [44] ++ ndt (vStubOf V j 7)) = _; simp only [List.append_assoc]]; exact g9.1) f9 ⟨_, s9⟩
      exact L47 _ 0 (Nat.zero_add _) D2 b2 (by rw [show thV V ++ accL n V 12 ++ stuL V 0 = thV V ++ accL n V 12 from List.append_nil _]; exact g2s) f2 ⟨_, s2⟩
    | succ k ih =>
      intro j hjk D2 b2 g2s f2 s2
      have hdo2 := g2s.ob.1
      have g2 := StX.rf g2s
      have R2 := f2.rel R
      have hlv := thV_len (V := V)
      have h12 := H.2.1
      have hal := accL_len H G hB j (by omega)
      refine w_ild2 i111_18 ?_
      refine w_bip i111_19 kb_12 ?_
      refine w_cgeNF i111_21 (by omega) (by omega) (by omega) ?_
      refine w_ald1 i111_24 ?_
      refine w_bip i111_25 kb_44 ?_
      refine w_VD2 i111_27 c189 (Or.inl rfl) (g2.1.rec (by decide +kernel)) (by repeat (first | exact nvL_nil | refine nvL_cons (by first | exact True.intro | exact nvSt (by decide) | exact nvD hdo | exact nvD hdo2 | exact nvD hdo3 | exact nvD hdo4 | exact nvD hdo5 | exact nvD hdo6 | exact nvD hdo7 | exact nvD hdo8 | exact nvD hdo9 | exact nvD hdoa | exact nvD hdoa1 | exact nvD hdob | exact nvD hdoc | exact nvD hdsb | exact nvD hds | exact nvK (by omega) (by omega)) ?_)) ⟨(by repeat (first | exact nvL_nil | refine nvL_cons (by first | exact True.intro | exact nvSt (by decide) | exact nvD hdo | exact nvD hdo2 | exact nvD hdo3 | exact nvD hdo4 | exact nvD hdo5 | exact nvD hdo6 | exact nvD hdo7 | exact nvD hdo8 | exact nvD hdo9 | exact nvD hdoa | exact nvD hdoa1 | exact nvD hdob | exact nvD hdoc | exact nvD hdsb | exact nvD hds | exact nvK (by omega) (by omega)) ?_)), rfl, Nat.le_of_ble_eq_true rfl⟩ ?_
      refine K_appCD g2.1 (by simp only [List.length_append, List.length_cons, List.length_nil]; omega) (by decide) (fun D3 b3 g3 => ?_)
      have hdo3 := g3.1.ob.1
      have f3 := f2.st g2.1 g3
      have s3 := g3.sbr g2.1 s2
      have R3 := f3.rel R
      obtain ⟨ma, hma, ema⟩ := acc_ok H G hB j (by omega)
      have hok : okN (accV n V j) (ndt (accV n V j)) := by rw [ema]; exact okN_n hma
      have hokl := (okN_len hok).1
      refine w_ald0 i111_30 ?_
      refine w_ild2 i111_31 ?_
      refine w_VD2 i111_32 c80 (Or.inl rfl) (Or.inl ⟨by decide +kernel, by decide⟩) (by repeat (first | exact nvL_nil | refine nvL_cons (by first | exact True.intro | exact nvSt (by decide) | exact nvD hdo | exact nvD hdo2 | exact nvD hdo3 | exact nvD hdo4 | exact nvD hdo5 | exact nvD hdo6 | exact nvD hdo7 | exact nvD hdo8 | exact nvD hdo9 | exact nvD hdoa | exact nvD hdoa1 | exact nvD hdob | exact nvD hdoc | exact nvD hdsb | exact nvD hds | exact nvK (by omega) (by omega)) ?_)) ⟨(by repeat (first | exact nvL_nil | refine nvL_cons (by first | exact True.intro | exact nvSt (by decide) | exact nvD hdo | exact nvD hdo2 | exact nvD hdo3 | exact nvD hdo4 | exact nvD hdo5 | exact nvD hdo6 | exact nvD hdo7 | exact nvD hdo8 | exact nvD hdo9 | exact nvD hdoa | exact nvD hdoa1 | exact nvD hdob | exact nvD hdoc | exact nvD hdsb | exact nvD hds | exact nvK (by omega) (by omega)) ?_)), rfl, Nat.le_of_ble_eq_true rfl⟩ (Ex_go (K_accW R3 H.2.1 H.op (H.hc (by omega)).2.2.1 j (by omega)) ?_)
      refine w_VD2 i111_35 c190 (Or.inl rfl) (g3.1.rec (by decide +kernel)) (by repeat (first | exact nvL_nil | refine nvL_cons (by first | exact True.intro | exact nvSt (by decide) | exact nvD hdo | exact nvD hdo2 | exact nvD hdo3 | exact nvD hdo4 | exact nvD hdo5 | exact nvD hdo6 | exact nvD hdo7 | exact nvD hdo8 | exact nvD hdo9 | exact nvD hdoa | exact nvD hdoa1 | exact nvD hdob | exact nvD hdoc | exact nvD hdsb | exact nvD hds | exact nvK (by omega) (by omega)) ?_)) ⟨(by repeat (first | exact nvL_nil | refine nvL_cons (by first | exact True.intro | exact nvSt (by decide) | exact nvD hdo | exact nvD hdo2 | exact nvD hdo3 | exact nvD hdo4 | exact nvD hdo5 | exact nvD hdo6 | exact nvD hdo7 | exact nvD hdo8 | exact nvD hdo9 | exact nvD hdoa | exact nvD hdoa1 | exact nvD hdob | exact nvD hdoc | exact nvD hdsb | exact nvD hds | exact nvK (by omega) (by omega)) ?_)), rfl, Nat.le_of_ble_eq_true rfl⟩ ?_
      refine K_appID g3.1 hok (by simp only [List.length_append, List.length_cons, List.length_nil]; omega) (fun D4 b4 g4 => ?_)
      have hdo4 := g4.1.ob.1
      have f4 := f3.st g3.1 g4
      have s4 := g4.sbr g3.1 s3
      refine w_pop i111_38 rfl ?_
      refine w_inc2 i111_39 (inc1 _) ?_
      refine w_goto i111_42 g111_42 ?_
      exact ih (j + 1) (by omega) D4 b4 (by rw [show thV V ++ accL n V (j + 1) = thV V ++ accL n V j ++ [44] ++ ndt (accV n V j) from by show thV V ++ (accL n V j ++ [44] ++ ndt (accV n V j)) = _; simp only [List.append_assoc]]; exact g4.1) f4 s4
  exact L18 _ 0 (Nat.zero_add _) Dc bc (by rw [show thV V ++ accL n V 0 = thV V from List.append_nil _]; exact gc1) fDc sc
