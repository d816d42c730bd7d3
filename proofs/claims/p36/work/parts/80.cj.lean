/-! the statute as the law sees it -/
def SV (n : Nat) (V : Nat → Int32) (B : Nat) : Prop := IV n V B ∧ XG n V B
theorem SV.mono {n B C : Nat} {V : Nat → Int32} (H : SV n V B) (h : B ≤ C) : SV n V C := ⟨H.1.mono h, H.2.mono h⟩
abbrev HsT : Type := List (Nat × (Nat → Int32))
def hsG (hs : HsT) (i : Nat) : Nat × (Nat → Int32) := hs.getD i (0, i0)
/-- a statute with its orders taken back one by one -/
def CJ (D : Mm) (n : Nat) (V : Nat → Int32) (B : Nat) (hs : HsT) (nx : Nat) : Prop := Rel D n V ∧ SV n V B ∧ (hs.length ≤ 8 ∧ nx < 9 ∧ D 155 1 = nI nx ∧ D 155 2 = nI hs.length ∧ ∀ i, i < hs.length → SV (hsG hs i).1 (hsG hs i).2 B ∧ RelB D (rowb ((nx + 8 - i) % 9)) (hsG hs i).1 (hsG hs i).2) ∧ SbR D 169 []
def FrJ (D D2 : Mm) : Prop := ∀ q, (q = 0 ∨ (15 ≤ q ∧ q ≤ 28) ∨ 169 ≤ q) → D2 q = D q
theorem FrJ.tr {D D2 D3 : Mm} (h : FrJ D D2) (g : FrJ D2 D3) : FrJ D D3 := fun q a => (g q a).trans (h q a)
theorem FrJ.rf {D : Mm} : FrJ D D := fun _ _ => rfl
theorem FrJ.nx {D D2 : Mm} (h : FrJ D D2) : nxt D2 = nxt D ∧ usd D2 = usd D := by
  have e := h 4500 (by omega)
  unfold nxt usd; rw [e]; exact ⟨rfl, rfl⟩
theorem rowb_b {r : Nat} (h : r < 9) : 29 ≤ rowb r ∧ rowb r + 13 ≤ 154 := by unfold rowb; omega
theorem rowb_d {r s : Nat} (h : r ≠ s) : rowb r + 13 < rowb s ∨ rowb s + 13 < rowb r := by unfold rowb; omega
theorem CJ.fr {D D2 : Mm} {n B nx : Nat} {V : Nat → Int32} {hs : HsT} (J : CJ D n V B hs nx) (f : ∀ q, (q < 15 ∨ 28 < q) → q ≠ 0 → q ≤ 181 → q ≠ 170 → D2 q = D q) : CJ D2 n V B hs nx := by
  obtain ⟨R, S, ⟨a1, a2, a3, a4, a5⟩, b⟩ := J
  refine ⟨R.fr (fun q x y => f q (by omega) (by omega) (by omega) (by omega)), S, ⟨a1, a2, by rw [f 155 (by omega) (by omega) (by omega) (by omega)]; exact a3, by rw [f 155 (by omega) (by omega) (by omega) (by omega)]; exact a4, fun i hi => ⟨(a5 i hi).1, (a5 i hi).2.fr (fun q x y => ?_)⟩⟩, b.fr (f 169 (by omega) (by omega) (by omega) (by omega)) (f 181 (by omega) (by omega) (by omega) (by omega))⟩
  have := rowb_b (r := (nx + 8 - i) % 9) (by omega)
  exact f q (by omega) (by omega) (by omega) (by omega)
theorem CJ.frT {D D2 : Mm} {n B nx : Nat} {V : Nat → Int32} {hs : HsT} (J : CJ D n V B hs nx) (f : FrT D D2) : CJ D2 n V B hs nx := J.fr (fun q _ _ c d => f.1 q (by unfold DB; omega) (by omega) d (by omega))
theorem CJ.fr0 {D D2 : Mm} {n B nx : Nat} {V : Nat → Int32} {hs : HsT} (J : CJ D n V B hs nx) (f : Fr0 D D2) : CJ D2 n V B hs nx := J.frT f.t
section
variable {D : Mm} {n B nx : Nat} {V : Nat → Int32} {hs : HsT}
theorem CJ.R (J : CJ D n V B hs nx) : Rel D n V := J.1
theorem CJ.iv (J : CJ D n V B hs nx) : IV n V B := J.2.1.1
theorem CJ.xg (J : CJ D n V B hs nx) : XG n V B := J.2.1.2
theorem CJ.h12 (J : CJ D n V B hs nx) : n ≤ 12 := J.2.1.1.2.1
theorem CJ.op (J : CJ D n V B hs nx) : opV V := J.iv.op
theorem CJ.by_ (J : CJ D n V B hs nx) (hB : B ≤ 9000) : byV n V := (J.iv.hc (by omega)).2.2.1
end
/-- an order's end -/
theorem CJ.out {D : Mm} {n B nx : Nat} {V : Nat → Int32} {hs : HsT} {o : Out} {Q : Option Value → Mm → Prop} (J : CJ D n V B hs nx) (hg : good o (B + 30)) (hx : gx o (B + 30))
    (hq1 : ∀ x rs, o = .inl (x, rs) → ∀ D2, CJ D2 n V B hs nx → FrJ D D2 → (rs ≠ [] → RsC D2 rs) → Q (some (.int x)) D2)
    (hq2 : ∀ a V2, o = .inr (a, V2) → 0 ≤ a → ∀ D2, CJ D2 (cl (V2 0)) V2 (B + 30) ((n, V) :: hs.take 7) ((nx + 1) % 9) → FrJ D D2 → Q (some (.int a)) D2) : OutC o D nx hs.length n V Q := by
  have J0 := J
  obtain ⟨R, S, ⟨a1, a2, a3, a4, a5⟩, b⟩ := J
  have hb := rowb_b a2
  unfold OutC
  split
  · next x rs =>
    intro D2 f1 f2 f3
    refine hq1 x rs rfl D2 ?_ (fun q hq => f1 q (by omega) (by omega) (by omega) (by omega)) f3
    refine ⟨R.fr (fun q x y => f1 q (by omega) (by omega) (by omega) (by omega)), S, ⟨a1, a2, by rw [f1 155 (by omega) (by omega) (by omega) (by omega)]; exact a3, by rw [f1 155 (by omega) (by omega) (by omega) (by omega)]; exact a4, fun i hi => ⟨(a5 i hi).1, (a5 i hi).2.fr (fun q x y => ?_)⟩⟩, b.fr (f1 169 (by omega) (by omega) (by omega) (by omega)) (f1 181 (by omega) (by omega) (by omega) (by omega))⟩
    have d := rowb_d (show (nx + 8 - i) % 9 ≠ nx by omega)
    have e := rowb_b (r := (nx + 8 - i) % 9) (by omega)
    exact f1 q (by omega) (by omega) (by omega) (by omega)
  · next a V2 =>
    intro D2 g1 g2 g3 g4 f1
    obtain ⟨h1, h2⟩ := good_r hg rfl
    have hx2 : XG (cl (V2 0)) V2 (B + 30) := hx
    have hl : ((n, V) :: hs.take 7).length = min (hs.length + 1) 8 := by rw [List.length_cons, List.length_take]; omega
    refine hq2 a V2 rfl h2 D2 ⟨g1, ⟨h1, hx2⟩, ⟨by rw [hl]; omega, by omega, g3, by rw [hl]; exact g4, fun i hi => ?_⟩, b.fr (f1 169 (by omega) (by omega) (by omega) (by omega) (by omega) (by omega)) (f1 181 (by omega) (by omega) (by omega) (by omega) (by omega) (by omega))⟩ (fun q hq => f1 q (by omega) (by omega) (by omega) (by omega) (by omega) (by omega))
    rw [hl] at hi
    cases i with
    | zero =>
      show SV n V (B + 30) ∧ RelB D2 (rowb (((nx + 1) % 9 + 8 - 0) % 9)) n V
      rw [show ((nx + 1) % 9 + 8 - 0) % 9 = nx by omega]
      exact ⟨S.mono (by omega), g2⟩
    | succ i =>
      have e : hsG ((n, V) :: hs.take 7) (i + 1) = hsG hs i := by
        unfold hsG
        rw [List.getD_cons_succ, List.getD_eq_getElem?_getD, List.getD_eq_getElem?_getD, List.getElem?_take_of_lt (by omega)]
      rw [e, show ((nx + 1) % 9 + 8 - (i + 1)) % 9 = (nx + 8 - i) % 9 by omega]
      refine ⟨(a5 i (by omega)).1.mono (by omega), (a5 i (by omega)).2.fr (fun q x y => ?_)⟩
      have d := rowb_d (show (nx + 8 - i) % 9 ≠ nx by omega)
      have e := rowb_b (r := (nx + 8 - i) % 9) (by omega)
      exact f1 q (by omega) (by omega) (by omega) (by omega) (by omega) (by omega)
theorem J_S {d : Nat} {D : Mm} {n B nx : Nat} {V : Nat → Int32} {hs : HsT} {a b e : Int32} {Q : Option Value → Mm → Prop} (J : CJ D n V B hs nx) (hB : B ≤ 9000)
    (hq1 : ∀ x rs, oS n V a b e = .inl (x, rs) → ∀ D2, CJ D2 n V B hs nx → FrJ D D2 → (rs ≠ [] → RsC D2 rs) → Q (some (.int x)) D2)
    (hq2 : ∀ y V2, oS n V a b e = .inr (y, V2) → 0 ≤ y → ∀ D2, CJ D2 (cl (V2 0)) V2 (B + 30) ((n, V) :: hs.take 7) ((nx + 1) % 9) → FrJ D D2 → Q (some (.int y)) D2) : Ct (d + 9) 54 [.ref 0, .int a, .int b, .int e] D Q :=
  K_pS J.R (J.iv.hc (by omega)) J.2.2.1.2.2.1 J.2.2.1.2.1 J.2.2.1.2.2.2.1 J.2.2.1.1 (fun a2 V2 e => (good_r (good_S J.iv) e).2) (J.out (good_S J.iv) (gx_S J.iv J.xg) hq1 hq2)
theorem J_B {d : Nat} {D : Mm} {n B nx : Nat} {V : Nat → Int32} {hs : HsT} {a b : Int32} {Q : Option Value → Mm → Prop} (J : CJ D n V B hs nx) (hB : B ≤ 9000)
    (hq1 : ∀ x rs, oB n V a b = .inl (x, rs) → ∀ D2, CJ D2 n V B hs nx → FrJ D D2 → (rs ≠ [] → RsC D2 rs) → Q (some (.int x)) D2)
    (hq2 : ∀ y V2, oB n V a b = .inr (y, V2) → 0 ≤ y → ∀ D2, CJ D2 (cl (V2 0)) V2 (B + 30) ((n, V) :: hs.take 7) ((nx + 1) % 9) → FrJ D D2 → Q (some (.int y)) D2) : Ct (d + 9) 55 [.ref 0, .int a, .int b] D Q :=
  K_pB J.R (J.iv.hc (by omega)) J.2.2.1.2.2.1 J.2.2.1.2.1 J.2.2.1.2.2.2.1 J.2.2.1.1 (fun a2 V2 e => (good_r (good_B J.iv) e).2) (J.out (good_B J.iv) (gx_B J.iv J.xg) hq1 hq2)
theorem J_O {d : Nat} {D : Mm} {n B nx : Nat} {V : Nat → Int32} {hs : HsT} {a b e : Int32} {Q : Option Value → Mm → Prop} (J : CJ D n V B hs nx) (hB : B ≤ 9000)
    (hq1 : ∀ x rs, oO n V a b e = .inl (x, rs) → ∀ D2, CJ D2 n V B hs nx → FrJ D D2 → (rs ≠ [] → RsC D2 rs) → Q (some (.int x)) D2)
    (hq2 : ∀ y V2, oO n V a b e = .inr (y, V2) → 0 ≤ y → ∀ D2, CJ D2 (cl (V2 0)) V2 (B + 30) ((n, V) :: hs.take 7) ((nx + 1) % 9) → FrJ D D2 → Q (some (.int y)) D2) : Ct (d + 9) 56 [.ref 0, .int a, .int b, .int e] D Q :=
  K_pO J.R (J.iv.hc (by omega)) J.2.2.1.2.2.1 J.2.2.1.2.1 J.2.2.1.2.2.2.1 J.2.2.1.1 (fun a2 V2 e => (good_r (good_O J.iv) e).2) (J.out (good_O J.iv) (gx_O J.iv J.xg) hq1 hq2)
theorem J_W {d : Nat} {D : Mm} {n B nx : Nat} {V : Nat → Int32} {hs : HsT} {a b e : Int32} {Q : Option Value → Mm → Prop} (J : CJ D n V B hs nx) (hB : B ≤ 9000)
    (hq1 : ∀ x rs, oW n V a b e = .inl (x, rs) → ∀ D2, CJ D2 n V B hs nx → FrJ D D2 → (rs ≠ [] → RsC D2 rs) → Q (some (.int x)) D2)
    (hq2 : ∀ y V2, oW n V a b e = .inr (y, V2) → 0 ≤ y → ∀ D2, CJ D2 (cl (V2 0)) V2 (B + 30) ((n, V) :: hs.take 7) ((nx + 1) % 9) → FrJ D D2 → Q (some (.int y)) D2) : Ct (d + 9) 57 [.ref 0, .int a, .int b, .int e] D Q :=
  K_pW J.R (J.iv.hc (by omega)) J.2.2.1.2.2.1 J.2.2.1.2.1 J.2.2.1.2.2.2.1 J.2.2.1.1 (fun a2 V2 e => (good_r (good_W J.iv) e).2) (J.out (good_W J.iv) (gx_W J.iv J.xg) hq1 hq2)
theorem J_P {d : Nat} {D : Mm} {n B nx : Nat} {V : Nat → Int32} {hs : HsT} {a b : Int32} {Q : Option Value → Mm → Prop} (J : CJ D n V B hs nx) (hB : B ≤ 9000)
    (hq1 : ∀ x rs, oP n V a b = .inl (x, rs) → ∀ D2, CJ D2 n V B hs nx → FrJ D D2 → (rs ≠ [] → RsC D2 rs) → Q (some (.int x)) D2)
    (hq2 : ∀ y V2, oP n V a b = .inr (y, V2) → 0 ≤ y → ∀ D2, CJ D2 (cl (V2 0)) V2 (B + 30) ((n, V) :: hs.take 7) ((nx + 1) % 9) → FrJ D D2 → Q (some (.int y)) D2) : Ct (d + 9) 59 [.ref 0, .int a, .int b] D Q :=
  K_pP J.R (J.iv.hc (by omega)) J.2.2.1.2.2.1 J.2.2.1.2.1 J.2.2.1.2.2.2.1 J.2.2.1.1 (fun a2 V2 e => (good_r (good_P J.iv (by omega)) e).2) (J.out (good_P J.iv (by omega)) (gx_P J.iv J.xg) hq1 hq2)
theorem J_D {d : Nat} {D : Mm} {n B nx : Nat} {V : Nat → Int32} {hs : HsT} {Q : Option Value → Mm → Prop} (J : CJ D n V B hs nx) (hB : B ≤ 9000)
    (hq1 : ∀ x rs, vShares n V = .inl (x, rs) → ∀ D2, CJ D2 n V B hs nx → FrJ D D2 → (rs ≠ [] → RsC D2 rs) → Q (some (.int x)) D2)
    (hq2 : ∀ y V2, vShares n V = .inr (y, V2) → 0 ≤ y → ∀ D2, CJ D2 (cl (V2 0)) V2 (B + 30) ((n, V) :: hs.take 7) ((nx + 1) % 9) → FrJ D D2 → Q (some (.int y)) D2) : Ct (d + 9) 60 [.ref 0] D Q :=
  K_pD J.R (J.iv.hc (by omega)) J.2.2.1.2.2.1 J.2.2.1.2.1 J.2.2.1.2.2.2.1 J.2.2.1.1 (fun a2 V2 e => (good_r (good_D J.iv (by omega)) e).2) (J.out (good_D J.iv (by omega)) (gx_D J.iv (by omega) J.xg) hq1 hq2)
theorem J_M {d : Nat} {D : Mm} {n B nx : Nat} {V : Nat → Int32} {hs : HsT} {a b e : Int32} {Q : Option Value → Mm → Prop} (J : CJ D n V B hs nx) (hB : B ≤ 9000)
    (hq1 : ∀ x rs, oM n V a b e = .inl (x, rs) → ∀ D2, CJ D2 n V B hs nx → FrJ D D2 → (rs ≠ [] → RsC D2 rs) → Q (some (.int x)) D2)
    (hq2 : ∀ y V2, oM n V a b e = .inr (y, V2) → 0 ≤ y → ∀ D2, CJ D2 (cl (V2 0)) V2 (B + 30) ((n, V) :: hs.take 7) ((nx + 1) % 9) → FrJ D D2 → Q (some (.int y)) D2) : Ct (d + 9) 63 [.ref 0, .int a, .int b, .int e] D Q :=
  K_pM J.R (J.iv.hc (by omega)) J.2.2.1.2.2.1 J.2.2.1.2.1 J.2.2.1.2.2.2.1 J.2.2.1.1 (fun a2 V2 e => (good_r (good_M J.iv) e).2) (J.out (good_M J.iv) (gx_M J.iv J.xg) hq1 hq2)
theorem J_H {d : Nat} {D : Mm} {n B nx : Nat} {V : Nat → Int32} {hs : HsT} {a b : Int32} {Q : Option Value → Mm → Prop} (J : CJ D n V B hs nx) (hB : B ≤ 9000)
    (hq1 : ∀ x rs, oH V a b = .inl (x, rs) → ∀ D2, CJ D2 n V B hs nx → FrJ D D2 → (rs ≠ [] → RsC D2 rs) → Q (some (.int x)) D2)
    (hq2 : ∀ y V2, oH V a b = .inr (y, V2) → 0 ≤ y → ∀ D2, CJ D2 (cl (V2 0)) V2 (B + 30) ((n, V) :: hs.take 7) ((nx + 1) % 9) → FrJ D D2 → Q (some (.int y)) D2) : Ct (d + 9) 64 [.ref 0, .int a, .int b] D Q :=
  K_pH J.R (J.iv.hc (by omega)) J.2.2.1.2.2.1 J.2.2.1.2.1 J.2.2.1.2.2.2.1 J.2.2.1.1 (fun a2 V2 e => (good_r (good_H (n := n) J.iv) e).2) (J.out (good_H (n := n) J.iv) (gx_H (n := n) J.iv J.xg) hq1 hq2)
theorem J_E {d : Nat} {D : Mm} {n B nx : Nat} {V : Nat → Int32} {hs : HsT} {a : Int32} {Q : Option Value → Mm → Prop} (J : CJ D n V B hs nx) (hB : B ≤ 9000)
    (hq1 : ∀ x rs, oE n V a = .inl (x, rs) → ∀ D2, CJ D2 n V B hs nx → FrJ D D2 → (rs ≠ [] → RsC D2 rs) → Q (some (.int x)) D2)
    (hq2 : ∀ y V2, oE n V a = .inr (y, V2) → 0 ≤ y → ∀ D2, CJ D2 (cl (V2 0)) V2 (B + 30) ((n, V) :: hs.take 7) ((nx + 1) % 9) → FrJ D D2 → Q (some (.int y)) D2) : Ct (d + 9) 65 [.ref 0, .int a] D Q :=
  K_pE J.R (J.iv.hc (by omega)) J.2.2.1.2.2.1 J.2.2.1.2.1 J.2.2.1.2.2.2.1 J.2.2.1.1 (fun a2 V2 e => (good_r (good_E J.iv (by omega) J.iv.hr) e).2) (J.out (good_E J.iv (by omega) J.iv.hr) (gx_E J.iv (by omega) J.xg) hq1 hq2)
theorem J_T {d : Nat} {D : Mm} {n B nx : Nat} {V : Nat → Int32} {hs : HsT} {a : Int32} {Q : Option Value → Mm → Prop} (J : CJ D n V B hs nx) (hB : B ≤ 9000)
    (hq1 : ∀ x rs, vPasses n V a = .inl (x, rs) → ∀ D2, CJ D2 n V B hs nx → FrJ D D2 → (rs ≠ [] → RsC D2 rs) → Q (some (.int x)) D2)
    (hq2 : ∀ y V2, vPasses n V a = .inr (y, V2) → 0 ≤ y → ∀ D2, CJ D2 (cl (V2 0)) V2 (B + 30) ((n, V) :: hs.take 7) ((nx + 1) % 9) → FrJ D D2 → Q (some (.int y)) D2) : Ct (d + 9) 66 [.ref 0, .int a] D Q :=
  K_pT J.R (J.iv.hc (by omega)) J.2.2.1.2.2.1 J.2.2.1.2.1 J.2.2.1.2.2.2.1 J.2.2.1.1 (fun a2 V2 e => (good_r (good_T J.iv) e).2) (J.out (good_T J.iv) (gx_T J.iv J.xg) hq1 hq2)
/-- the last order taken back -/
theorem J_undo {d : Nat} {D : Mm} {n m B nx : Nat} {V W : Nat → Int32} {hs : HsT} {Q : Option Value → Mm → Prop} (J : CJ D n V B ((m, W) :: hs) nx) (hq : ∀ D2, CJ D2 m W B hs ((nx + 8) % 9) → FrJ D D2 → Q (some (.int (nI hs.length))) D2) : Ct (d + 7) 82 [.ref 0] D Q := by
  obtain ⟨R, S, ⟨a1, a2, a3, a4, a5⟩, b⟩ := J
  rw [List.length_cons] at a1 a4 a5
  have h0 := a5 0 (by omega)
  have h0a : SV m W B := h0.1
  have h0b : RelB D (rowb ((nx + 8 - 0) % 9)) m W := h0.2
  rw [Nat.sub_zero] at h0b
  refine K_undo a3 a2 a4 (by omega) h0b h0a.1.2.1 h0a.1.op (fun D2 g1 f1 => ?_)
  have f : ∀ q, (q < 1 ∨ 14 < q) → q ≠ 155 → D2 q = D q := fun q x y => (f1 q x).trans ((mupF y).trans (mupF y))
  have e1 : D2 155 1 = nI ((nx + 8) % 9) := by rw [f1 155 (by omega)]; exact mupE
  have e2 : D2 155 2 = nI hs.length := by rw [f1 155 (by omega)]; exact (mupJ (by decide)).trans mupE
  refine hq D2 ⟨g1, h0a, ⟨by omega, by omega, e1, e2, fun i hi => ?_⟩, b.fr (f 169 (by omega) (by omega)) (f 181 (by omega) (by omega))⟩ (fun q hq => f q (by omega) (by omega))
  have h := a5 (i + 1) (by omega)
  have e : hsG ((m, W) :: hs) (i + 1) = hsG hs i := rfl
  rw [e] at h
  rw [show ((nx + 8) % 9 + 8 - i) % 9 = (nx + 8 - (i + 1)) % 9 by omega]
  refine ⟨h.1, h.2.fr (fun q x y => ?_)⟩
  have e := rowb_b (r := (nx + 8 - (i + 1)) % 9) (by omega)
  exact f q (by omega) (by omega)
/-- what was saved -/
def Sav (D : Mm) (n : Nat) (V : Nat → Int32) (B : Nat) : Prop := D 0 2 = nI 1 ∧ RelB D 15 n V ∧ SV n V B
theorem Sav.fr {D D2 : Mm} {n B : Nat} {V : Nat → Int32} (h : Sav D n V B) (f : FrJ D D2) : Sav D2 n V B := ⟨by rw [f 0 (Or.inl rfl)]; exact h.1, h.2.1.fr (fun q a b => f q (by omega)), h.2.2⟩
theorem J_save {d : Nat} {D : Mm} {n B nx : Nat} {V : Nat → Int32} {hs : HsT} {Q : Option Value → Mm → Prop} (J : CJ D n V B hs nx) (hq : ∀ D2, CJ D2 n V B hs nx → Sav D2 n V B → (∀ q, 29 ≤ q → D2 q = D q) → Q (some (.int (nI n))) D2) : Ct (d + 7) 83 [.ref 0] D Q := by
  refine K_save J.R J.h12 J.op (fun D2 g1 f1 f2 f3 => hq D2 (J.fr (fun q a b c e => f1 q b a)) ⟨f3, g1, J.2.1⟩ (fun q hq => f1 q (by omega) (by omega)))
theorem J_restore {d : Nat} {D : Mm} {n m B nx : Nat} {V W : Nat → Int32} {hs : HsT} {Q : Option Value → Mm → Prop} (J : CJ D n V B hs nx) (S : Sav D m W B) (hq : ∀ D2, CJ D2 m W B [] nx → FrJ D D2 → Q (some (.int (nI m))) D2) : Ct (d + 7) 84 [.ref 0] D Q := by
  obtain ⟨R, S0, ⟨a1, a2, a3, a4, a5⟩, b⟩ := J
  refine K_restore S.1 S.2.1 S.2.2.1.2.1 S.2.2.1.op (fun D2 g1 f1 f2 f3 => ?_)
  exact hq D2 ⟨g1, S.2.2, ⟨Nat.zero_le _, a2, (f2 1 (by decide)).trans a3, f3, fun i hi => absurd hi (Nat.not_lt_zero i)⟩, b.fr (f1 169 (by omega) (by omega)) (f1 181 (by omega) (by omega))⟩ (fun q hq => f1 q (by omega) (by omega))
/-- the beginning -/
theorem J_start {scr : Nat → Int32} {L : Nat} : CJ (D0 scr L) 0 (vF 6) 0 [] 0 ∧ SbR (D0 scr L) 170 [] ∧ D0 scr L 0 2 = nI 0 := by
  have e : ∀ q, q < 183 → D0 scr L q = D00 q := fun q hq => D0_ne (by omega)
  refine ⟨⟨D0_Rel.fr (fun q a b => e q (by omega)), ⟨D0_IV, ⟨fun s hs => absurd hs (Nat.not_lt_zero s), fun h hh => ?_, fun h hh => Nat.zero_le _⟩, fun j a b => ⟨0, Nat.zero_le _, ?_⟩, fun s hs => absurd hs (Nat.not_lt_zero s)⟩, ⟨Nat.zero_le _, by decide, ?_, ?_, fun i hi => absurd hi (Nat.not_lt_zero i)⟩, (D00_sb 169 (Or.inl rfl)).fr (e _ (by omega)) (e _ (by omega))⟩, (D00_sb 170 (Or.inr rfl)).fr (e _ (by omega)) (e _ (by omega)), ?_⟩
  · obtain ⟨h1, -⟩ := D0_ho h hh
    exact Or.inl h1
  · rcases (by omega : j = 2 ∨ j = 3 ∨ j = 4 ∨ j = 5) with q | q | q | q <;> subst q <;> decide +kernel
  · rw [e 155 (by omega)]; decide +kernel
  · rw [e 155 (by omega)]; decide +kernel
  · rw [e 0 (by omega)]; decide +kernel
