/-! the law's line -/
theorem SbX.mv {D D2 : Mm} {lo T u u2 o b : Nat} {t : List Nat} (h : SbX D lo T u o b t) (h1 : D2 o = D o) (h2 : D2 b = D b) (hn : nxt D ≤ nxt D2) (h3 : nxt D2 ≤ usd D2) (h4 : usd D2 + u ≤ usd D + u2) (h5 : u2 ≤ 1000000) : SbX D2 lo T u2 o b t := by
  have ec : cap D2 b = cap D b := by unfold cap; rw [h2]
  have hu := h.us
  refine ⟨dyn_fr h.ob hn h1, dyn_fr h.rb hn h2, ?_⟩
  rw [h1, h2, ec]
  exact ⟨h.val, h.cod, h.len, h.fit, h.cpm, h.tT, h.byr, h.fb, h.low, h3, by omega, h5⟩
theorem Fr0.st {D D1 D2 : Mm} {T u o b b2 : Nat} {t t1 : List Nat} (h : Fr0 D D1) (s : SbX D1 (nxt D) T u o b t1) (g : StX D1 D2 (nxt D) T u o b b2 t) : Fr0 D D2 := by
  have hl := s.low
  have h2 := h.2
  exact ⟨fun q x y => (g.2.1.1 q (by omega) y (by omega) (by omega)).trans (h.1 q x y), Nat.le_trans h.2 g.2.1.2⟩
theorem Fr0.sb {D D2 : Mm} {ln : List Nat} (h : Fr0 D D2) {o : Nat} (ho : o = 169 ∨ o = 170) (s : SbR D o ln) : SbR D2 o ln := by
  have hB := DBv
  exact s.fr (h.1 o (by omega) (by omega)) (h.1 (o + 12) (by omega) (by omega))
theorem take_s {ln : List Nat} {i : Nat} (h : i < ln.length) : ln.take (i + 1) = ln.take i ++ [ln.getD i 0] := by
  rw [List.take_succ, List.getElem?_eq_getElem h, List.getD_eq_getElem?_getD, List.getElem?_eq_getElem h]
  rfl
set_option maxHeartbeats 400000 in
theorem K_line {d : Nat} {D : Mm} {Q : Option Value → Mm → Prop} {ln : List Nat} (hS : SbR D 170 ln) (hl : ln.length ≤ 140) (hu0 : nxt D ≤ usd D) (hu1 : usd D ≤ 900000) (hq : ∀ D2 s nb, TxD D2 s nb ln → dyn D2 s 9 → DB + nxt D ≤ s ∧ DB + nxt D ≤ nb → Fr0 D D2 → nxt D2 ≤ usd D2 → usd D2 ≤ usd D + 5 * ln.length + 43 → Q (some (.ref s)) D2) : Ct (d + 10) 110 [.ref 0, .int (nI ln.length)] D Q := by
  have hBE := DBv
  have hf : fitU D 4 := ⟨by omega, hu0⟩
  obtain ⟨o, eo⟩ : ∃ o, o = DB + nxt D := ⟨_, rfl⟩
  obtain ⟨D1, e1⟩ : ∃ D1, D1 = alD D (rwO 0) 4 := ⟨_, rfl⟩
  have hN : NwX D1 (nxt D) (usd D + 5) o := by rw [e1, eo]; exact NwX.new hu0 (by omega) (by omega)
  have hdo : dv D1 o := hN.1.1
  have f1 : Fr0 D D1 := by rw [e1]; exact FrL.al hf (Nat.le_refl _)
  refine ent m110 rfl rfl (ls := [.ref 0, .int (nI ln.length), .retAddr 0, .retAddr 0]) rfl ?_
  refine w_new i110_0 (Or.inl rfl) (nvL_ok (by repeat (first | exact nvL_nil | refine nvL_cons (by first | assumption | trivial | exact nvSt (by decide) | exact nvD (by assumption) | exact nvK (by omega) (by omega)) ?_))) (nvL_ok (by repeat (first | exact nvL_nil | refine nvL_cons (by first | assumption | trivial | exact nvSt (by decide) | exact nvD (by assumption) | exact nvK (by omega) (by omega)) ?_))) hf ?_
  rw [show nF 0 = 4 from rfl, ← eo, ← e1]
  refine w_dup i110_3 rfl ?_
  refine w_PD1 i110_4 c122 (Or.inr rfl) (Or.inr ⟨hN.1.1, by rw [hN.1.2]; decide +kernel, by rw [hN.1.2]; decide⟩) (by repeat (first | exact nvL_nil | refine nvL_cons (by first | assumption | trivial | exact nvSt (by decide) | exact nvD (by assumption) | exact nvK (by omega) (by omega)) ?_)) ⟨(by repeat (first | exact nvL_nil | refine nvL_cons (by first | assumption | trivial | exact nvSt (by decide) | exact nvD (by assumption) | exact nvK (by omega) (by omega)) ?_)), rfl, Nat.le_of_ble_eq_true rfl⟩ ?_
  refine K_newSB (T := ln.length) hN (by omega) (fun D2 b2 g1 g2 g3 => ?_)
  have f2 : Fr0 D D2 := by
    have := f1.2
    have hl2 := g1.low
    exact ⟨fun q x y => (g2.1 q (by omega) y (by omega) (by omega)).trans (f1.1 q x y), Nat.le_trans f1.2 g2.2⟩
  refine w_ast2 i110_7 ?_
  refine w_const i110_8 kc_0 ?_
  refine w_ist3 i110_9 ?_
  have L10 : ∀ k i, i + k = ln.length → ∀ D2 b2, SbX D2 (nxt D) ln.length (usd D + 5) o b2 (ln.take i) → Fr0 D D2 → Wp (d + 9) 110 Q 10 [.ref 0, .int (nI ln.length), .ref o, .int (nI i)] [] D2 := by
    intro k
    induction k with
    | zero =>
      intro i hi D2 b2 g f
      have hi : i = ln.length := hi
      subst hi
      rw [List.take_length] at g
      have hdo2 := g.ob.1
      refine w_ild3 i110_10 ?_
      refine w_ild1 i110_11 ?_
      refine w_cgeNT i110_12 g110_12 (by omega) (by omega) (Nat.le_refl _) ?_
      refine w_ald2 i110_32 ?_
      refine w_VD1 i110_33 c135 (Or.inl rfl) (g.rec (by decide +kernel)) (by repeat (first | exact nvL_nil | refine nvL_cons (by first | assumption | trivial | exact nvSt (by decide) | exact nvD (by assumption) | exact nvK (by omega) (by omega)) ?_)) ⟨(by repeat (first | exact nvL_nil | refine nvL_cons (by first | assumption | trivial | exact nvSt (by decide) | exact nvD (by assumption) | exact nvK (by omega) (by omega)) ?_)), rfl, Nat.le_of_ble_eq_true rfl⟩ ?_
      have hlo := g.low
      have hus := g.us
      have hcp := g.cpm
      refine K_tsD g (Nat.le_refl _) (by omega) (fun D3 s nb x hs hg f3 h3 h4 => ?_)
      have hds := hs.1
      refine w_raD i110_36 r110 hds ?_
      have f2' := f.2
      exact hq D3 s nb x hs ⟨by omega, by omega⟩ (f.tr f3) h3 (by rw [h4]; omega)
    | succ k ih =>
      intro i hik D2 b2 g f
      have hi : i < ln.length := by omega
      have hdo2 := g.ob.1
      refine w_ild3 i110_10 ?_
      refine w_ild1 i110_11 ?_
      refine w_cgeNF i110_12 (by omega) (by omega) (by omega) ?_
      refine w_ald2 i110_15 ?_
      refine w_ald0 i110_16 ?_
      refine w_ild3 i110_17 ?_
      refine w_VD2 i110_18 c78 (Or.inl rfl) (Or.inl ⟨by decide +kernel, by decide⟩) (by repeat (first | exact nvL_nil | refine nvL_cons (by first | assumption | trivial | exact nvSt (by decide) | exact nvD (by assumption) | exact nvK (by omega) (by omega)) ?_)) ⟨(by repeat (first | exact nvL_nil | refine nvL_cons (by first | assumption | trivial | exact nvSt (by decide) | exact nvD (by assumption) | exact nvK (by omega) (by omega)) ?_)), rfl, Nat.le_of_ble_eq_true rfl⟩ (Ex_go (K_char (f.sb (Or.inr rfl) hS) hl hi) ?_)
      refine w_i2c i110_21 (i2c_t _ (getD_lt hS.2.2.2.2.2.1 hi)) ?_
      refine w_VD2 i110_22 c189 (Or.inl rfl) (g.rec (by decide +kernel)) (by repeat (first | exact nvL_nil | refine nvL_cons (by first | assumption | trivial | exact nvSt (by decide) | exact nvD (by assumption) | exact nvK (by omega) (by omega)) ?_)) ⟨(by repeat (first | exact nvL_nil | refine nvL_cons (by first | assumption | trivial | exact nvSt (by decide) | exact nvD (by assumption) | exact nvK (by omega) (by omega)) ?_)), rfl, Nat.le_of_ble_eq_true rfl⟩ ?_
      refine K_appCD g (by rw [List.length_take]; omega) (getD_lt hS.2.2.2.2.2.1 hi) (fun D3 b3 g4 => ?_)
      have hdo3 := g4.1.ob.1
      refine w_pop i110_25 rfl ?_
      refine w_inc3 i110_26 (inc1 _) ?_
      refine w_goto i110_29 g110_29 ?_
      exact ih (i + 1) (by omega) D3 b3 (by rw [take_s hi]; exact g4.1) (f.st g g4)
  exact L10 _ 0 (Nat.zero_add _) D2 b2 g1 f2
