/-! both objects side by side -/
def PV (D : Mm) (i : Nat) : Nat → Int32 := fun k => D 176 (i * 126 + k)
def HistJ (D : Mm) (c nx B : Nat) : Prop := c ≤ 8 ∧ nx < 9 ∧ D 171 1 = nI c ∧ D 155 1 = nI nx ∧ D 155 2 = nI c ∧ ∀ i, i < c → ∃ m, IV m (PV D i) B ∧ RelB D (rowb ((nx + 9 - c + i) % 9)) m (PV D i)
def nzR (rs : List (Int32 × Int32)) : Prop := ∀ p, p ∈ rs → p.1 ≠ 0
def ReasJ (D : Mm) (rs : List (Int32 × Int32)) : Prop := rs.length ≤ 3 ∧ RsM (D 171) rs ∧ RsC D rs ∧ nzR rs
def SavJ (D : Mm) (B : Nat) : Prop := (D 171 8 = nI 0 ∧ D 0 2 = nI 0) ∨ (D 171 8 = nI 1 ∧ D 0 2 = nI 1 ∧ ∃ m, IV m (D 174) B ∧ RelB D 15 m (D 174))
def TxtJ (D : Mm) (tx : List Nat) : Prop := tx.length ≤ 60 ∧ D 171 19 = nI tx.length ∧ (∀ i, i < tx.length → D 179 i = nI (tx.getD i 0)) ∧ (∀ i, i < tx.length → 32 ≤ tx.getD i 0 ∧ tx.getD i 0 ≤ 126) ∧ SbR D 169 tx
def LinJ (D : Mm) (ln : List Nat) : Prop := ln.length ≤ 140 ∧ LSt D ln ∧ SbR D 170 ln
def JJ (D : Mm) (W B n c nx : Nat) (rs : List (Int32 × Int32)) (tx ln : List Nat) : Prop := B + 30 * tx.length ≤ W ∧ (IV n (D 172) B ∧ Rel D n (D 172)) ∧ HistJ D c nx B ∧ ReasJ D rs ∧ SavJ D B ∧ TxtJ D tx ∧ LinJ D ln
def J (D : Mm) (W : Nat) : Prop := ∃ B n c nx rs tx ln, JJ D W B n c nx rs tx ln
theorem J.mono {D : Mm} {W W2 : Nat} (h : J D W) (g : W ≤ W2) : J D W2 := by
  obtain ⟨B, n, c, nx, rs, tx, ln, h1, h2⟩ := h
  exact ⟨B, n, c, nx, rs, tx, ln, Nat.le_trans h1 g, h2⟩
theorem rowb_b {r : Nat} (h : r < 9) : 29 ≤ rowb r ∧ rowb r + 13 ≤ 154 := by unfold rowb; omega
theorem rowb_d {r s : Nat} (h : r ≠ s) : rowb r + 13 < rowb s ∨ rowb s + 13 < rowb r := by unfold rowb; omega
theorem HistJ.fr {D D2 : Mm} {c nx B : Nat} (H : HistJ D c nx B) (f1 : D2 171 1 = D 171 1) (f2 : D2 155 1 = D 155 1) (f3 : D2 155 2 = D 155 2) (f4 : D2 176 = D 176) (f5 : ∀ q, 29 ≤ q → q ≤ 154 → (q < rowb nx ∨ rowb nx + 13 < q) → D2 q = D q) : HistJ D2 c nx B := by
  obtain ⟨a1, a2, a3, a4, a5, a6⟩ := H
  refine ⟨a1, a2, f1.trans a3, f2.trans a4, f3.trans a5, fun i hi => ?_⟩
  obtain ⟨m, g1, g2⟩ := a6 i hi
  have e : PV D2 i = PV D i := by unfold PV; rw [f4]
  rw [e]
  have hr : (nx + 9 - c + i) % 9 ≠ nx := by omega
  have b := rowb_b (r := (nx + 9 - c + i) % 9) (by omega)
  have dj := rowb_d hr
  exact ⟨m, g1, g2.fr (fun q x y => f5 q (by omega) (by omega) (by omega))⟩
theorem HistJ.mono {D : Mm} {c nx B C : Nat} (H : HistJ D c nx B) (h : B ≤ C) : HistJ D c nx C := ⟨H.1, H.2.1, H.2.2.1, H.2.2.2.1, H.2.2.2.2.1, fun i hi => by
  obtain ⟨m, g1, g2⟩ := H.2.2.2.2.2 i hi
  exact ⟨m, g1.mono h, g2⟩⟩
theorem HistJ.ok {D D3 : Mm} {V : Nat → Int32} {c nx n B : Nat} (H : HistJ D c nx B) (hV : IV n V B) (hR : RelB D3 (rowb nx) n V) (hP : PstE (D 176) V (D3 176) c) (f1 : D3 171 1 = nI (min (c + 1) 8)) (f2 : D3 155 1 = nI ((nx + 1) % 9)) (f3 : D3 155 2 = nI (min (c + 1) 8)) (f5 : ∀ q, 29 ≤ q → q ≤ 154 → (q < rowb nx ∨ rowb nx + 13 < q) → D3 q = D q) : HistJ D3 (min (c + 1) 8) ((nx + 1) % 9) B := by
  obtain ⟨a1, a2, a3, a4, a5, a6⟩ := H
  refine ⟨by omega, by omega, f1, f2, f3, fun i hi => ?_⟩
  by_cases z : i + 1 < min (c + 1) 8
  · obtain ⟨m, g1, g2⟩ := a6 (i + (c + 1 - min (c + 1) 8)) (by omega)
    have e : ∀ k, k < 126 → PV D3 i k = PV D (i + (c + 1 - min (c + 1) 8)) k := fun k hk => hP.1 i k z hk
    have er : ((nx + 1) % 9 + 9 - min (c + 1) 8 + i) % 9 = (nx + 9 - c + (i + (c + 1 - min (c + 1) 8))) % 9 := by omega
    have hr : (nx + 9 - c + (i + (c + 1 - min (c + 1) 8))) % 9 ≠ nx := by omega
    have b := rowb_b (r := (nx + 9 - c + (i + (c + 1 - min (c + 1) 8))) % 9) (by omega)
    have dj := rowb_d hr
    rw [er]
    exact ⟨m, g1.ext e, (g2.fr (fun q x y => f5 q (by omega) (by omega) (by omega))).ext g1.2.1 e⟩
  · have zi : i = min (c + 1) 8 - 1 := by omega
    have e : ∀ k, k < 126 → PV D3 i k = V k := fun k hk => by rw [zi]; exact hP.2 k hk
    have er : ((nx + 1) % 9 + 9 - min (c + 1) 8 + i) % 9 = nx := by omega
    rw [er]
    exact ⟨n, hV.ext e, hR.ext hV.2.1 e⟩
theorem RsM.cg {F G : Nat → Int32} {rs : List (Int32 × Int32)} (h : RsM F rs) (e : ∀ j, 2 ≤ j → j ≤ 7 → G j = F j) : RsM G rs := by
  unfold RsM at h ⊢
  rw [e 2 (by decide) (by decide), e 3 (by decide) (by decide), e 4 (by decide) (by decide), e 5 (by decide) (by decide), e 6 (by decide) (by decide), e 7 (by decide) (by decide)]
  exact h
theorem RsC.cg {D D2 : Mm} {rs : List (Int32 × Int32)} (h : RsC D rs) (e1 : D2 157 = D 157) (e2 : D2 158 = D 158) (e3 : D2 159 = D 159) : RsC D2 rs := by
  unfold RsC at h ⊢
  rw [e1, e2, e3]
  exact h
theorem ReasJ.fr {D D2 : Mm} {rs : List (Int32 × Int32)} (H : ReasJ D rs) (e : ∀ j, 2 ≤ j → j ≤ 7 → D2 171 j = D 171 j) (e1 : D2 157 = D 157) (e2 : D2 158 = D 158) (e3 : D2 159 = D 159) : ReasJ D2 rs := ⟨H.1, H.2.1.cg e, H.2.2.1.cg e1 e2 e3, H.2.2.2⟩
theorem SavJ.fr {D D2 : Mm} {B C : Nat} (H : SavJ D B) (h : B ≤ C) (e1 : D2 171 8 = D 171 8) (e2 : D2 0 2 = D 0 2) (e3 : D2 174 = D 174) (e4 : ∀ q, 15 ≤ q → q ≤ 28 → D2 q = D q) : SavJ D2 C := by
  rcases H with ⟨a, b⟩ | ⟨a, b, m, g1, g2⟩
  · exact Or.inl ⟨e1.trans a, e2.trans b⟩
  · refine Or.inr ⟨e1.trans a, e2.trans b, m, ?_, ?_⟩
    · rw [e3]; exact g1.mono h
    · rw [e3]; exact g2.fr (fun q x y => e4 q x (by omega))
theorem TxtJ.fr {D D2 : Mm} {tx : List Nat} (H : TxtJ D tx) (e1 : D2 171 19 = D 171 19) (e2 : D2 179 = D 179) (e3 : D2 169 = D 169) (e4 : D2 181 = D 181) : TxtJ D2 tx := by
  obtain ⟨a1, a2, a3, a4, a5⟩ := H
  exact ⟨a1, e1.trans a2, by rw [e2]; exact a3, a4, a5.fr e3 e4⟩
theorem LinJ.fr {D D2 : Mm} {ln : List Nat} (H : LinJ D ln) (e1 : D2 171 22 = D 171 22) (e2 : D2 180 = D 180) (e3 : D2 170 = D 170) (e4 : D2 182 = D 182) : LinJ D2 ln := by
  obtain ⟨a1, ⟨a2, a3⟩, a4⟩ := H
  exact ⟨a1, ⟨e1.trans a2, by rw [e2]; exact a3⟩, a4.fr e3 e4⟩
/-- a call of the one, and of the other -/
def StpJ (d kC kM : Nat) (args : List Value) (W : Nat) : Prop := ∀ D, J D W → Ct d kC (.ref 0 :: args) D (fun r D2 => ∃ a, r = some (.int a) ∧ Ct d kM (.ref 171 :: args) D2 (fun r2 D3 => r2 = some (.int a) ∧ J D3 (W + 30)))
theorem stp_ex {dc dm d kC kM W : Nat} {args : List Value} {D : Mm} {a : Int32} (hJ : J D W) (h1 : dc ≤ d) (h2 : dm ≤ d) (hC : Ct dc kC (.ref 0 :: args) D (Ex (some (.int a)) D)) (hM : Ct dm kM (.ref 171 :: args) D (Ex (some (.int a)) D)) : Ct d kC (.ref 0 :: args) D (fun r D2 => ∃ a, r = some (.int a) ∧ Ct d kM (.ref 171 :: args) D2 (fun r2 D3 => r2 = some (.int a) ∧ J D3 (W + 30))) := by
  refine Ct_exq (Ct_up h1 hC) ⟨a, rfl, ?_⟩
  exact Ct_exq (Ct_up h2 hM) ⟨rfl, hJ.mono (by omega)⟩
theorem nzR_ok {x : Int32} {rs : List (Int32 × Int32)} (h : okF (.inl (x, rs))) : nzR rs ∧ rs.length ≤ 2 := by
  rcases h with ⟨e, _⟩ | ⟨_, ⟨a, b, e, ha⟩ | ⟨a, b, u, v, e, ha, hu⟩⟩
  · subst e; exact ⟨fun p hp => (by cases hp), (by decide : 0 ≤ 2)⟩
  · subst e
    refine ⟨fun p hp => ?_, by show 1 ≤ 2; decide⟩
    rw [List.mem_singleton.mp hp]; exact ha
  · subst e
    refine ⟨fun p hp => ?_, by show 2 ≤ 2; decide⟩
    rcases List.mem_cons.mp hp with z | z
    · rw [z]; exact ha
    · rw [List.mem_singleton.mp z]; exact hu
theorem RsM_fF {F : Nat → Int32} {x : Int32} {rs : List (Int32 × Int32)} (h : okF (.inl (x, rs))) (hr : rs ≠ []) : RsM (fF F x rs) rs := by
  rcases h with ⟨e, _⟩ | ⟨_, ⟨a, b, e, ha⟩ | ⟨a, b, u, v, e, ha, hu⟩⟩
  · exact absurd e hr
  · subst e; exact ⟨rfl, rfl, rfl, rfl⟩
  · subst e; exact ⟨rfl, rfl, rfl, rfl, rfl⟩
theorem fF_nil {F : Nat → Int32} {x : Int32} {j : Nat} (h : j ≠ 0) : fF F x [] j = F j := updJ h
/-- a change, on both sides -/
theorem stp_out {d kC kM W : Nat} {args : List Value} {D : Mm} {B n c nx : Nat} {rs0 : List (Int32 × Int32)} {tx ln : List Nat} (H : JJ D W B n c nx rs0 tx ln) {o : Out} (hok : okF o) (hg : good o (B + 30))
    (hC : ∀ Q, OutC o D nx c n (D 172) Q → Ct d kC (.ref 0 :: args) D Q)
    (hM : ∀ D2 Q, D2 172 = D 172 → D2 171 1 = nI c → OutE o D2 c Q → Ct d kM (.ref 171 :: args) D2 Q) : Ct d kC (.ref 0 :: args) D (fun r D2 => ∃ a, r = some (.int a) ∧ Ct d kM (.ref 171 :: args) D2 (fun r2 D3 => r2 = some (.int a) ∧ J D3 (W + 30))) := by
  obtain ⟨j0, ⟨jI, jR⟩, jH, jS, jV, jT, jL⟩ := H
  have hb := rowb_b jH.2.1
  refine hC _ ?_
  cases o with
  | inl w =>
    obtain ⟨x, rs⟩ := w
    intro D2 k1 k2 k3
    have e172 : D2 172 = D 172 := k1 172 (by omega) (by decide) (by decide) (by decide)
    have e171 : D2 171 = D 171 := k1 171 (by omega) (by decide) (by decide) (by decide)
    refine ⟨x, rfl, hM D2 _ e172 (by rw [e171]; exact jH.2.2.1) ?_⟩
    intro D3 m1 m2 m3
    refine ⟨rfl, ?_⟩
    have f : ∀ q, (q < rowb nx ∨ rowb nx + 13 < q) → q ≠ 157 → q ≠ 158 → q ≠ 159 → q ≠ 171 → q ≠ 172 → q ≠ 173 → D3 q = D q := fun q a b1 b2 b3 b4 b5 b6 => (m3 q b4 b5 b6).trans (k1 q a b1 b2 b3)
    have f171 : ∀ j, j = 1 ∨ 7 < j → D3 171 j = D 171 j := fun j hj => by
      rw [m1, e171]
      rcases hj with z | z
      · subst z; exact fF_1.trans (updJ (by decide))
      · exact (fF_hi (by omega)).trans (updJ (by omega))
    have f172 : ∀ j, j < 126 → D3 172 j = D 172 j := fun j hj => by rw [m2 j hj, e172]
    have g1 : Rel D3 n (D 172) := jR.fr (fun q a b => f q (by omega) (by omega) (by omega) (by omega) (by omega) (by omega) (by omega))
    refine ⟨B, n, c, nx, if rs = [] then rs0 else rs, tx, ln, by omega, ⟨jI.ext f172, g1.ext jI.2.1 (fun j _ hj => f172 j hj)⟩, ?_, ?_, ?_, ?_, ?_⟩
    · exact jH.fr (f171 1 (Or.inl rfl)) (by rw [f 155 (by omega) (by decide) (by decide) (by decide) (by decide) (by decide) (by decide)]) (by rw [f 155 (by omega) (by decide) (by decide) (by decide) (by decide) (by decide) (by decide)]) (f 176 (by omega) (by decide) (by decide) (by decide) (by decide) (by decide) (by decide)) (fun q a b e => f q e (by omega) (by omega) (by omega) (by omega) (by omega) (by omega))
    · by_cases z : rs = []
      · rw [if_pos z]
        obtain ⟨z1, z2, z3⟩ := k2 z
        refine jS.fr (fun j a b => ?_) ((m3 157 (by decide) (by decide) (by decide)).trans z1) ((m3 158 (by decide) (by decide) (by decide)).trans z2) ((m3 159 (by decide) (by decide) (by decide)).trans z3)
        rw [m1, e171, z]
        exact (fF_nil (by omega)).trans (updJ (by omega))
      · rw [if_neg z]
        have nz := nzR_ok hok
        refine ⟨by omega, ?_, (k3 z).cg (m3 157 (by decide) (by decide) (by decide)) (m3 158 (by decide) (by decide) (by decide)) (m3 159 (by decide) (by decide) (by decide)), nz.1⟩
        rw [m1]
        exact RsM_fF hok z
    · exact jV.fr (Nat.le_refl _) (f171 8 (Or.inr (by decide))) (by rw [f 0 (by omega) (by decide) (by decide) (by decide) (by decide) (by decide) (by decide)]) (f 174 (by omega) (by decide) (by decide) (by decide) (by decide) (by decide) (by decide)) (fun q a b => f q (by omega) (by omega) (by omega) (by omega) (by omega) (by omega) (by omega))
    · exact jT.fr (f171 19 (Or.inr (by decide))) (f 179 (by omega) (by decide) (by decide) (by decide) (by decide) (by decide) (by decide)) (f 169 (by omega) (by decide) (by decide) (by decide) (by decide) (by decide) (by decide)) (f 181 (by omega) (by decide) (by decide) (by decide) (by decide) (by decide) (by decide))
    · exact jL.fr (f171 22 (Or.inr (by decide))) (f 180 (by omega) (by decide) (by decide) (by decide) (by decide) (by decide) (by decide)) (f 170 (by omega) (by decide) (by decide) (by decide) (by decide) (by decide) (by decide)) (f 182 (by omega) (by decide) (by decide) (by decide) (by decide) (by decide) (by decide))
  | inr w =>
    obtain ⟨a, V2⟩ := w
    intro D2 k1 k2 k3 k4 k5
    have e172 : D2 172 = D 172 := k5 172 (by omega) (by omega) (by decide) (by decide) (by decide) (by decide)
    have e171 : D2 171 = D 171 := k5 171 (by omega) (by omega) (by decide) (by decide) (by decide) (by decide)
    have e176 : D2 176 = D 176 := k5 176 (by omega) (by omega) (by decide) (by decide) (by decide) (by decide)
    refine ⟨a, rfl, hM D2 _ e172 (by rw [e171]; exact jH.2.2.1) ?_⟩
    intro D3 m1 m2 m3 m4 m5
    refine ⟨rfl, ?_⟩
    have f : ∀ q, (q < 1 ∨ 14 < q) → (q < rowb nx ∨ rowb nx + 13 < q) → q ≠ 155 → q ≠ 166 → q ≠ 167 → q ≠ 168 → q ≠ 171 → q ≠ 172 → q ≠ 173 → q ≠ 176 → q ≠ 177 → q ≠ 178 → D3 q = D q := fun q a0 a1 b1 b2 b3 b4 b5 b6 b7 b8 b9 b0 => (m5 q b5 b6 b7 b8 b9 b0).trans (k5 q a0 a1 b1 b2 b3 b4)
    have f171 : ∀ j, j ≠ 0 → j ≠ 1 → j ≠ 16 → D3 171 j = D 171 j := fun j a b e => by rw [m4 j a b e, e171]
    have h155 : D3 155 = D2 155 := m5 155 (by decide) (by decide) (by decide) (by decide) (by decide) (by decide)
    have hg : IV (cl (V2 0)) V2 (B + 30) ∧ 0 ≤ a := hg
    refine ⟨B + 30, cl (V2 0), min (c + 1) 8, (nx + 1) % 9, rs0, tx, ln, by omega, ⟨by rw [m1]; exact hg.1, by rw [m1]; exact k1.fr (fun q a b => m5 q (by omega) (by omega) (by omega) (by omega) (by omega) (by omega))⟩, ?_, ?_, ?_, ?_, ?_⟩
    · rw [e176, e172] at m2
      exact (jH.ok jI (k2.fr (fun q a b => m5 q (by omega) (by omega) (by omega) (by omega) (by omega) (by omega))) m2 m3 (by rw [h155]; exact k3) (by rw [h155]; exact k4) (fun q a b e => f q (by omega) e (by omega) (by omega) (by omega) (by omega) (by omega) (by omega) (by omega) (by omega) (by omega) (by omega))).mono (by omega)
    · exact jS.fr (fun j a b => f171 j (by omega) (by omega) (by omega)) (f 157 (by omega) (by omega) (by decide) (by decide) (by decide) (by decide) (by decide) (by decide) (by decide) (by decide) (by decide) (by decide)) (f 158 (by omega) (by omega) (by decide) (by decide) (by decide) (by decide) (by decide) (by decide) (by decide) (by decide) (by decide) (by decide)) (f 159 (by omega) (by omega) (by decide) (by decide) (by decide) (by decide) (by decide) (by decide) (by decide) (by decide) (by decide) (by decide))
    · exact jV.fr (by omega) (f171 8 (by decide) (by decide) (by decide)) (by rw [f 0 (by omega) (by omega) (by decide) (by decide) (by decide) (by decide) (by decide) (by decide) (by decide) (by decide) (by decide) (by decide)]) (f 174 (by omega) (by omega) (by decide) (by decide) (by decide) (by decide) (by decide) (by decide) (by decide) (by decide) (by decide) (by decide)) (fun q a b => f q (by omega) (by omega) (by omega) (by omega) (by omega) (by omega) (by omega) (by omega) (by omega) (by omega) (by omega) (by omega))
    · exact jT.fr (f171 19 (by decide) (by decide) (by decide)) (f 179 (by omega) (by omega) (by decide) (by decide) (by decide) (by decide) (by decide) (by decide) (by decide) (by decide) (by decide) (by decide)) (f 169 (by omega) (by omega) (by decide) (by decide) (by decide) (by decide) (by decide) (by decide) (by decide) (by decide) (by decide) (by decide)) (f 181 (by omega) (by omega) (by decide) (by decide) (by decide) (by decide) (by decide) (by decide) (by decide) (by decide) (by decide) (by decide))
    · exact jL.fr (f171 22 (by decide) (by decide) (by decide)) (f 180 (by omega) (by omega) (by decide) (by decide) (by decide) (by decide) (by decide) (by decide) (by decide) (by decide) (by decide) (by decide)) (f 170 (by omega) (by omega) (by decide) (by decide) (by decide) (by decide) (by decide) (by decide) (by decide) (by decide) (by decide) (by decide)) (f 182 (by omega) (by omega) (by decide) (by decide) (by decide) (by decide) (by decide) (by decide) (by decide) (by decide) (by decide) (by decide))
theorem good_pos {o : Out} {B : Nat} (h : good o B) : ∀ a2 V2, o = .inr (a2, V2) → 0 ≤ a2 := fun a2 V2 e => (good_r h e).2
theorem stp_S {d W : Nat} {a b x : Int32} (hW : W ≤ 18000) : StpJ (d + 9) 54 127 [.int a, .int b, .int x] W := by
  intro D hJ
  obtain ⟨B, n, c, nx, rs, tx, ln, H⟩ := hJ
  have jI := H.2.1.1
  have jR := H.2.1.2
  have jH := H.2.2.1
  have hB := H.1
  have h8 := jH.1
  have hC := jI.hc (show B ≤ 20000 by omega)
  have HCv : ∀ {D2 : Mm}, D2 172 = D 172 → HV n (D2 172) := fun e => by rw [e]; exact hC.hv
  have G : good (oS n (D 172) a b x) (B + 30) := good_S jI
  refine stp_out (d := d + 9) H (o := (oS n (D 172) a b x)) okF_S G (fun Q hO => K_pS jR hC jH.2.2.2.1 jH.2.1 jH.2.2.2.2.1 h8 (good_pos G) hO) (fun D2 Q e e1 hO => ?_)
  refine Ct_up (show d + 7 ≤ d + 9 by omega) ?_
  exact P_oS (HCv e) e1 (by omega) (show OutE (oS n (D2 172) a b x) D2 c Q from e ▸ hO)
theorem stp_B {d W : Nat} {a b : Int32} (hW : W ≤ 18000) : StpJ (d + 9) 55 130 [.int a, .int b] W := by
  intro D hJ
  obtain ⟨B, n, c, nx, rs, tx, ln, H⟩ := hJ
  have jI := H.2.1.1
  have jR := H.2.1.2
  have jH := H.2.2.1
  have hB := H.1
  have h8 := jH.1
  have hC := jI.hc (show B ≤ 20000 by omega)
  have HCv : ∀ {D2 : Mm}, D2 172 = D 172 → HV n (D2 172) := fun e => by rw [e]; exact hC.hv
  have G : good (oB n (D 172) a b) (B + 30) := good_B jI
  refine stp_out (d := d + 9) H (o := (oB n (D 172) a b)) okF_B G (fun Q hO => K_pB jR hC jH.2.2.2.1 jH.2.1 jH.2.2.2.2.1 h8 (good_pos G) hO) (fun D2 Q e e1 hO => ?_)
  refine Ct_up (show d + 7 ≤ d + 9 by omega) ?_
  exact P_oB (HCv e) e1 (by omega) (show OutE (oB n (D2 172) a b) D2 c Q from e ▸ hO)
theorem stp_O {d W : Nat} {a b x : Int32} (hW : W ≤ 18000) : StpJ (d + 9) 56 132 [.int a, .int b, .int x] W := by
  intro D hJ
  obtain ⟨B, n, c, nx, rs, tx, ln, H⟩ := hJ
  have jI := H.2.1.1
  have jR := H.2.1.2
  have jH := H.2.2.1
  have hB := H.1
  have h8 := jH.1
  have hC := jI.hc (show B ≤ 20000 by omega)
  have HCv : ∀ {D2 : Mm}, D2 172 = D 172 → HV n (D2 172) := fun e => by rw [e]; exact hC.hv
  have G : good (oO n (D 172) a b x) (B + 30) := good_O jI
  refine stp_out (d := d + 9) H (o := (oO n (D 172) a b x)) okF_O G (fun Q hO => K_pO jR hC jH.2.2.2.1 jH.2.1 jH.2.2.2.2.1 h8 (good_pos G) hO) (fun D2 Q e e1 hO => ?_)
  refine Ct_up (show d + 7 ≤ d + 9 by omega) ?_
  exact P_oO (HCv e) e1 (by omega) (show OutE (oO n (D2 172) a b x) D2 c Q from e ▸ hO)
theorem stp_W {d W : Nat} {a b x : Int32} (hW : W ≤ 18000) : StpJ (d + 9) 57 134 [.int a, .int b, .int x] W := by
  intro D hJ
  obtain ⟨B, n, c, nx, rs, tx, ln, H⟩ := hJ
  have jI := H.2.1.1
  have jR := H.2.1.2
  have jH := H.2.2.1
  have hB := H.1
  have h8 := jH.1
  have hC := jI.hc (show B ≤ 20000 by omega)
  have HCv : ∀ {D2 : Mm}, D2 172 = D 172 → HV n (D2 172) := fun e => by rw [e]; exact hC.hv
  have G : good (oW n (D 172) a b x) (B + 30) := good_W jI
  refine stp_out (d := d + 9) H (o := (oW n (D 172) a b x)) okF_W G (fun Q hO => K_pW jR hC jH.2.2.2.1 jH.2.1 jH.2.2.2.2.1 h8 (good_pos G) hO) (fun D2 Q e e1 hO => ?_)
  refine Ct_up (show d + 7 ≤ d + 9 by omega) ?_
  exact P_oW (HCv e) e1 (by omega) (show OutE (oW n (D2 172) a b x) D2 c Q from e ▸ hO)
theorem stp_P {d W : Nat} {a b : Int32} (hW : W ≤ 18000) : StpJ (d + 9) 59 138 [.int a, .int b] W := by
  intro D hJ
  obtain ⟨B, n, c, nx, rs, tx, ln, H⟩ := hJ
  have jI := H.2.1.1
  have jR := H.2.1.2
  have jH := H.2.2.1
  have hB := H.1
  have h8 := jH.1
  have hC := jI.hc (show B ≤ 20000 by omega)
  have HCv : ∀ {D2 : Mm}, D2 172 = D 172 → HV n (D2 172) := fun e => by rw [e]; exact hC.hv
  have G : good (oP n (D 172) a b) (B + 30) := good_P jI (by omega)
  refine stp_out (d := d + 9) H (o := (oP n (D 172) a b)) okF_P G (fun Q hO => K_pP jR hC jH.2.2.2.1 jH.2.1 jH.2.2.2.2.1 h8 (good_pos G) hO) (fun D2 Q e e1 hO => ?_)
  refine Ct_up (show d + 7 ≤ d + 9 by omega) ?_
  exact P_oP (HCv e) e1 (by omega) (show OutE (oP n (D2 172) a b) D2 c Q from e ▸ hO)
theorem stp_M {d W : Nat} {a b x : Int32} (hW : W ≤ 18000) : StpJ (d + 9) 63 147 [.int a, .int b, .int x] W := by
  intro D hJ
  obtain ⟨B, n, c, nx, rs, tx, ln, H⟩ := hJ
  have jI := H.2.1.1
  have jR := H.2.1.2
  have jH := H.2.2.1
  have hB := H.1
  have h8 := jH.1
  have hC := jI.hc (show B ≤ 20000 by omega)
  have HCv : ∀ {D2 : Mm}, D2 172 = D 172 → HV n (D2 172) := fun e => by rw [e]; exact hC.hv
  have G : good (oM n (D 172) a b x) (B + 30) := good_M jI
  refine stp_out (d := d + 9) H (o := (oM n (D 172) a b x)) okF_M G (fun Q hO => K_pM jR hC jH.2.2.2.1 jH.2.1 jH.2.2.2.2.1 h8 (good_pos G) hO) (fun D2 Q e e1 hO => ?_)
  refine Ct_up (show d + 7 ≤ d + 9 by omega) ?_
  exact P_oM (HCv e) e1 (by omega) (show OutE (oM n (D2 172) a b x) D2 c Q from e ▸ hO)
theorem stp_H {d W : Nat} {a b : Int32} (hW : W ≤ 18000) : StpJ (d + 9) 64 149 [.int a, .int b] W := by
  intro D hJ
  obtain ⟨B, n, c, nx, rs, tx, ln, H⟩ := hJ
  have jI := H.2.1.1
  have jR := H.2.1.2
  have jH := H.2.2.1
  have hB := H.1
  have h8 := jH.1
  have hC := jI.hc (show B ≤ 20000 by omega)
  have HCv : ∀ {D2 : Mm}, D2 172 = D 172 → HV n (D2 172) := fun e => by rw [e]; exact hC.hv
  have G : good (oH (D 172) a b) (B + 30) := good_H jI
  refine stp_out (d := d + 9) H (o := (oH (D 172) a b)) okF_H G (fun Q hO => K_pH jR hC jH.2.2.2.1 jH.2.1 jH.2.2.2.2.1 h8 (good_pos G) hO) (fun D2 Q e e1 hO => ?_)
  refine Ct_up (show d + 7 ≤ d + 9 by omega) ?_
  exact P_oH (HCv e) e1 (by omega) (show OutE (oH (D2 172) a b) D2 c Q from e ▸ hO)
theorem stp_E {d W : Nat} {a : Int32} (hW : W ≤ 18000) : StpJ (d + 9) 65 154 [.int a] W := by
  intro D hJ
  obtain ⟨B, n, c, nx, rs, tx, ln, H⟩ := hJ
  have jI := H.2.1.1
  have jR := H.2.1.2
  have jH := H.2.2.1
  have hB := H.1
  have h8 := jH.1
  have hC := jI.hc (show B ≤ 20000 by omega)
  have HCv : ∀ {D2 : Mm}, D2 172 = D 172 → HV n (D2 172) := fun e => by rw [e]; exact hC.hv
  have G : good (oE n (D 172) a) (B + 30) := good_E jI (by omega) jI.hr
  refine stp_out (d := d + 9) H (o := (oE n (D 172) a)) okF_E G (fun Q hO => K_pE jR hC jH.2.2.2.1 jH.2.1 jH.2.2.2.2.1 h8 (good_pos G) hO) (fun D2 Q e e1 hO => ?_)
  refine Ct_up (show d + 7 ≤ d + 9 by omega) ?_
  exact P_oE (HCv e) e1 (by omega) (show OutE (oE n (D2 172) a) D2 c Q from e ▸ hO)
theorem stp_T {d W : Nat} {a : Int32} (hW : W ≤ 18000) : StpJ (d + 9) 66 156 [.int a] W := by
  intro D hJ
  obtain ⟨B, n, c, nx, rs, tx, ln, H⟩ := hJ
  have jI := H.2.1.1
  have jR := H.2.1.2
  have jH := H.2.2.1
  have hB := H.1
  have h8 := jH.1
  have hC := jI.hc (show B ≤ 20000 by omega)
  have HCv : ∀ {D2 : Mm}, D2 172 = D 172 → HV n (D2 172) := fun e => by rw [e]; exact hC.hv
  have G : good (vPasses n (D 172) a) (B + 30) := good_T jI
  refine stp_out (d := d + 9) H (o := (vPasses n (D 172) a)) okF_T G (fun Q hO => K_pT jR hC jH.2.2.2.1 jH.2.1 jH.2.2.2.2.1 h8 (good_pos G) hO) (fun D2 Q e e1 hO => ?_)
  refine Ct_up (show d + 7 ≤ d + 9 by omega) ?_
  exact P_pass (e ▸ jI.1) jI.2.1 e1 (by omega) (okF_ne okF_T) (show OutE (vPasses n (D2 172) a) D2 c Q from e ▸ hO)
theorem stp_D {d W : Nat} (hW : W ≤ 18000) : StpJ (d + 9) 60 143 [] W := by
  intro D hJ
  obtain ⟨B, n, c, nx, rs, tx, ln, H⟩ := hJ
  have jI := H.2.1.1
  have jR := H.2.1.2
  have jH := H.2.2.1
  have hB := H.1
  have h8 := jH.1
  have hC := jI.hc (show B ≤ 20000 by omega)
  have HCv : ∀ {D2 : Mm}, D2 172 = D 172 → HV n (D2 172) := fun e => by rw [e]; exact hC.hv
  have G : good (vShares n (D 172)) (B + 30) := good_D jI (by omega)
  refine stp_out (d := d + 9) H (o := (vShares n (D 172))) okF_D G (fun Q hO => K_pD jR hC jH.2.2.2.1 jH.2.1 jH.2.2.2.2.1 h8 (good_pos G) hO) (fun D2 Q e e1 hO => ?_)
  refine Ct_up (show d + 7 ≤ d + 9 by omega) ?_
  exact P_share (e ▸ jI.1) jI.2.1 (HCv e).hF e1 (by omega) (okF_ne okF_D) (show OutE (vShares n (D2 172)) D2 c Q from e ▸ hO)
