/-! both objects side by side, the rest -/
theorem stp_undo {d W : Nat} (hW : W ≤ 18000) : StpJ (d + 9) 82 186 [] W := by
  intro D hJ
  obtain ⟨B, n, c, nx, rs, tx, ln, H⟩ := id hJ
  obtain ⟨j0, ⟨jI, jR⟩, jH, jS, jV, jT, jL⟩ := id H
  have hB := H.1
  have hC := jI.hc (show B ≤ 20000 by omega)
  have hV := hC.hv
  have hb9 := rowb_b jH.2.1
  obtain ⟨h1, h2, h3, h4, h5, h6⟩ := jH
  rcases c with _ | c
  · exact stp_ex hJ (show d + 7 ≤ d + 9 by omega) (show d + 6 ≤ d + 9 by omega) (K_undo_no h5) (P_undo_no h3)
  · obtain ⟨m, g1, g2⟩ := h6 c (by omega)
    rw [show (nx + 9 - (c + 1) + c) % 9 = (nx + 8) % 9 by omega] at g2
    refine Ct_up (show d + 7 ≤ d + 9 by omega) (K_undo h4 h2 h5 (by omega) g2 g1.2.1 g1.op (fun D2 e1 e2 => ⟨_, rfl, ?_⟩))
    have f : ∀ q, (q < 1 ∨ 14 < q) → q ≠ 155 → D2 q = D q := fun q a b => by rw [e2 q a, mupF b, mupF b]
    have e171 := f 171 (by omega) (by decide)
    have e176 := f 176 (by omega) (by decide)
    have a1 : D2 155 1 = nI ((nx + 8) % 9) := by rw [e2 155 (by omega)]; exact mupE
    have a2 : D2 155 2 = nI c := by rw [e2 155 (by omega), mupJ (by decide)]; exact mupE
    refine Ct_up (show d + 6 ≤ d + 9 by omega) (P_undo (by rw [e171]; exact h3) (by omega) ⟨rfl, ?_⟩)
    generalize hD3 : setc (mup D2 171 1 (nI c)) 172 (row (D2 176) (D2 172) c 126) = D3
    have k : ∀ q, (q < 1 ∨ 14 < q) → q ≠ 155 → q ≠ 171 → q ≠ 172 → D3 q = D q := fun q a b e g => by rw [← hD3, setcF g, mupF e, f q a b]
    have k155 : D3 155 = D2 155 := by rw [← hD3, setcF (by decide), mupF (by decide)]
    have k171 : ∀ j, j ≠ 1 → D3 171 j = D 171 j := fun j h => by rw [← hD3, setcG (by decide), mupJ h, e171]
    have k1 : D3 171 1 = nI c := by rw [← hD3, setcG (by decide)]; exact mupE
    have k172 : ∀ j, j < 126 → D3 172 j = PV D c j := fun j h => by rw [← hD3, setcR]; unfold row PV; rw [if_pos h, e176]
    have kR : Rel D3 m (PV D c) := RelB.fr e1 (fun q a b => by rw [← hD3, setcF (by omega), mupF (by omega)])
    refine ⟨B, m, c, (nx + 8) % 9, rs, tx, ln, by omega, ⟨g1.ext k172, kR.ext g1.2.1 (fun j _ hj => k172 j hj)⟩, ⟨by omega, by omega, k1, by rw [k155]; exact a1, by rw [k155]; exact a2, fun i hi => ?_⟩, ?_, ?_, ?_, ?_⟩
    · obtain ⟨m2, g3, g4⟩ := h6 i (by omega)
      have er : ((nx + 8) % 9 + 9 - c + i) % 9 = (nx + 9 - (c + 1) + i) % 9 := by omega
      have b := rowb_b (r := (nx + 9 - (c + 1) + i) % 9) (by omega)
      have e : PV D3 i = PV D i := by unfold PV; rw [k 176 (by omega) (by decide) (by decide) (by decide)]
      rw [er, e]
      exact ⟨m2, g3, g4.fr (fun q x y => k q (by omega) (by omega) (by omega) (by omega))⟩
    · exact jS.fr (fun j a b => k171 j (by omega)) (k 157 (by omega) (by decide) (by decide) (by decide)) (k 158 (by omega) (by decide) (by decide) (by decide)) (k 159 (by omega) (by decide) (by decide) (by decide))
    · exact jV.fr (Nat.le_refl _) (k171 8 (by decide)) (by rw [k 0 (by omega) (by decide) (by decide) (by decide)]) (k 174 (by omega) (by decide) (by decide) (by decide)) (fun q a b => k q (by omega) (by omega) (by omega) (by omega))
    · exact jT.fr (k171 19 (by decide)) (k 179 (by omega) (by decide) (by decide) (by decide)) (k 169 (by omega) (by decide) (by decide) (by decide)) (k 181 (by omega) (by decide) (by decide) (by decide))
    · exact jL.fr (k171 22 (by decide)) (k 180 (by omega) (by decide) (by decide) (by decide)) (k 170 (by omega) (by decide) (by decide) (by decide)) (k 182 (by omega) (by decide) (by decide) (by decide))
theorem stp_save {d W : Nat} (hW : W ≤ 18000) : StpJ (d + 9) 83 187 [] W := by
  intro D hJ
  obtain ⟨B, n, c, nx, rs, tx, ln, H⟩ := id hJ
  obtain ⟨j0, ⟨jI, jR⟩, jH, jS, jV, jT, jL⟩ := id H
  have hB := H.1
  have hC := jI.hc (show B ≤ 20000 by omega)
  have hV := hC.hv
  have hb9 := rowb_b jH.2.1
  refine Ct_up (show d + 7 ≤ d + 9 by omega) (K_save jR hV.h12 hC.ho (fun D2 e1 e2 e3 e4 => ⟨_, rfl, ?_⟩))
  have e171 := e2 171 (by decide) (by omega)
  have e172 := e2 172 (by decide) (by omega)
  refine Ct_up (show d + 6 ≤ d + 9 by omega) (P_save (by rw [e172]; exact hV.hn) ⟨rfl, ?_⟩)
  generalize hD3 : mup (cpy D2 174 172 126) 171 8 (nI 1) = D3
  have k : ∀ q, q ≠ 0 → (q < 15 ∨ 28 < q) → q ≠ 171 → q ≠ 174 → D3 q = D q := fun q a b e g => by
    rw [← hD3, mupF e]
    funext j
    unfold cpy
    rw [if_neg g, e2 q a b]
  have k0 : D3 0 = D2 0 := by
    rw [← hD3, mupF (by decide)]
    funext j
    unfold cpy
    rw [if_neg (by decide)]
  have k171 : ∀ j, j ≠ 8 → D3 171 j = D 171 j := fun j h => by
    rw [← hD3, mupJ h]
    unfold cpy
    rw [if_neg (by decide), e171]
  have k8 : D3 171 8 = nI 1 := by rw [← hD3]; exact mupE
  have k174 : ∀ j, j < 126 → D3 174 j = D 172 j := fun j h => by
    rw [← hD3, mupC (by decide)]
    unfold cpy
    rw [if_pos rfl, if_pos h, e172]
  have kR : RelB D3 15 n (D 172) := RelB.fr e1 (fun q a b => by
    rw [← hD3, mupF (by omega)]
    funext j
    unfold cpy
    rw [if_neg (by omega)])
  have e172' : D3 172 = D 172 := k 172 (by decide) (by omega) (by decide) (by decide)
  have gR : Rel D3 n (D 172) := jR.fr (fun q a b => k q (by omega) (by omega) (by omega) (by omega))
  refine ⟨B, n, c, nx, rs, tx, ln, by omega, ⟨by rw [e172']; exact jI, by rw [e172']; exact gR⟩, ?_, ?_, ?_, ?_, ?_⟩
  · exact jH.fr (k171 1 (by decide)) (by rw [k 155 (by decide) (by omega) (by decide) (by decide)]) (by rw [k 155 (by decide) (by omega) (by decide) (by decide)]) (k 176 (by decide) (by omega) (by decide) (by decide)) (fun q a b _ => k q (by omega) (by omega) (by omega) (by omega))
  · exact jS.fr (fun j a b => k171 j (by omega)) (k 157 (by decide) (by omega) (by decide) (by decide)) (k 158 (by decide) (by omega) (by decide) (by decide)) (k 159 (by decide) (by omega) (by decide) (by decide))
  · exact Or.inr ⟨k8, by rw [k0]; exact e4, n, jI.ext k174, kR.ext jI.2.1 k174⟩
  · exact jT.fr (k171 19 (by decide)) (k 179 (by decide) (by omega) (by decide) (by decide)) (k 169 (by decide) (by omega) (by decide) (by decide)) (k 181 (by decide) (by omega) (by decide) (by decide))
  · exact jL.fr (k171 22 (by decide)) (k 180 (by decide) (by omega) (by decide) (by decide)) (k 170 (by decide) (by omega) (by decide) (by decide)) (k 182 (by decide) (by omega) (by decide) (by decide))
theorem stp_restore {d W : Nat} (hW : W ≤ 18000) : StpJ (d + 9) 84 188 [] W := by
  intro D hJ
  obtain ⟨B, n, c, nx, rs, tx, ln, H⟩ := id hJ
  obtain ⟨j0, ⟨jI, jR⟩, jH, jS, jV, jT, jL⟩ := id H
  have hB := H.1
  have hC := jI.hc (show B ≤ 20000 by omega)
  have hV := hC.hv
  have hb9 := rowb_b jH.2.1
  rcases id jV with ⟨v1, v2⟩ | ⟨v1, v2, m, g1, g2⟩
  · exact stp_ex hJ (show d + 7 ≤ d + 9 by omega) (show d + 6 ≤ d + 9 by omega) (K_restore_no v2) (P_restore_no v1)
  · refine Ct_up (show d + 7 ≤ d + 9 by omega) (K_restore v2 g2 g1.2.1 g1.op (fun D2 e1 e2 e3 e4 => ⟨_, rfl, ?_⟩))
    have e171 := e2 171 (by omega) (by decide)
    have e174 := e2 174 (by omega) (by decide)
    refine Ct_up (show d + 6 ≤ d + 9 by omega) (P_restore (by rw [e171]; exact v1) ⟨by rw [e174, g1.1], ?_⟩)
    generalize hD3 : mup (cpy D2 172 174 126) 171 1 (nI 0) = D3
    have k' : ∀ q, q ≠ 171 → q ≠ 172 → D3 q = D2 q := fun q e g => by
      rw [← hD3, mupF e]
      funext j
      unfold cpy
      rw [if_neg g]
    have k : ∀ q, (q < 1 ∨ 14 < q) → q ≠ 155 → q ≠ 171 → q ≠ 172 → D3 q = D q := fun q a b e g => (k' q e g).trans (e2 q a b)
    have k171 : ∀ j, j ≠ 1 → D3 171 j = D 171 j := fun j h => by
      rw [← hD3, mupJ h]
      unfold cpy
      rw [if_neg (by decide), e171]
    have k1 : D3 171 1 = nI 0 := by rw [← hD3]; exact mupE
    have k172 : ∀ j, j < 126 → D3 172 j = D 174 j := fun j h => by
      rw [← hD3, mupC (by decide)]
      unfold cpy
      rw [if_pos rfl, if_pos h, e174]
    have kR : Rel D3 m (D 174) := RelB.fr e1 (fun q a b => k' q (by omega) (by omega))
    have k155 := k' 155 (by decide) (by decide)
    refine ⟨B, m, 0, nx, rs, tx, ln, by omega, ⟨g1.ext k172, kR.ext g1.2.1 (fun j _ hj => k172 j hj)⟩, ⟨by omega, jH.2.1, k1, by rw [k155, e3 1 (by decide)]; exact jH.2.2.2.1, by rw [k155]; exact e4, fun i hi => absurd hi (Nat.not_lt_zero i)⟩, ?_, ?_, ?_, ?_⟩
    · exact jS.fr (fun j a b => k171 j (by omega)) (k 157 (by omega) (by decide) (by decide) (by decide)) (k 158 (by omega) (by decide) (by decide) (by decide)) (k 159 (by omega) (by decide) (by decide) (by decide))
    · exact jV.fr (Nat.le_refl _) (k171 8 (by decide)) (by rw [k 0 (by omega) (by decide) (by decide) (by decide)]) (k 174 (by omega) (by decide) (by decide) (by decide)) (fun q a b => k q (by omega) (by omega) (by omega) (by omega))
    · exact jT.fr (k171 19 (by decide)) (k 179 (by omega) (by decide) (by decide) (by decide)) (k 169 (by omega) (by decide) (by decide) (by decide)) (k 181 (by omega) (by decide) (by decide) (by decide))
    · exact jL.fr (k171 22 (by decide)) (k 180 (by omega) (by decide) (by decide) (by decide)) (k 170 (by omega) (by decide) (by decide) (by decide)) (k 182 (by omega) (by decide) (by decide) (by decide))
theorem stp_append {d W : Nat} {a : Int32} (hW : W ≤ 18000) : StpJ (d + 9) 74 167 [.int a] W := by
  intro D hJ
  obtain ⟨B, n, c, nx, rs, tx, ln, H⟩ := id hJ
  obtain ⟨j0, ⟨jI, jR⟩, jH, jS, jV, jT, jL⟩ := id H
  have hB := H.1
  have hC := jI.hc (show B ≤ 20000 by omega)
  have hV := hC.hv
  have hb9 := rowb_b jH.2.1
  obtain ⟨t1, t2, t3, t4, t5⟩ := id jT
  by_cases hb : badR a (nI 32) (nI 126)
  · exact stp_ex hJ (show d + 9 ≤ d + 9 by omega) (show d + 6 ≤ d + 9 by omega) (K_append_bad hb) (P_append_bad hb)
  · obtain ⟨u, h1, h2, rfl⟩ := nI_bounds (by decide) hb (by decide)
    by_cases hl : tx.length = 60
    · exact stp_ex hJ (show d + 9 ≤ d + 9 by omega) (show d + 6 ≤ d + 9 by omega) (K_append_full t5 h1 h2 hl) (P_append_full h1 h2 (by rw [t2, hl]))
    · refine Ct_up (show d + 9 ≤ d + 9 by omega) (K_append t5 h1 h2 (by omega) (fun D2 e1 e2 => ⟨_, rfl, ?_⟩))
      have e171 := e2 171 (by decide) (by decide)
      refine Ct_up (show d + 6 ≤ d + 9 by omega) (P_append h1 h2 (by rw [e171]; exact t2) (by omega) ⟨rfl, ?_⟩)
      generalize hD3 : mup (mup D2 179 tx.length (nI u)) 171 19 (nI (tx.length + 1)) = D3
      have k' : ∀ q, q ≠ 171 → q ≠ 179 → D3 q = D2 q := fun q e g => by rw [← hD3, mupF e, mupF g]
      have k : ∀ q, q ≠ 169 → q ≠ 181 → q ≠ 171 → q ≠ 179 → D3 q = D q := fun q a b e g => (k' q e g).trans (e2 q a b)
      have k171 : ∀ j, j ≠ 19 → D3 171 j = D 171 j := fun j h => by rw [← hD3, mupJ h, mupC (by decide), e171]
      have e172 := k 172 (by decide) (by decide) (by decide) (by decide)
      have gR : Rel D3 n (D 172) := jR.fr (fun q a b => k q (by omega) (by omega) (by omega) (by omega))
      have hlen : (tx ++ [u]).length = tx.length + 1 := by simp
      refine ⟨B, n, c, nx, rs, tx ++ [u], ln, by rw [hlen]; omega, ⟨by rw [e172]; exact jI, by rw [e172]; exact gR⟩, ?_, ?_, ?_, ⟨by rw [hlen]; omega, ?_, ?_, ?_, ?_⟩, ?_⟩
      · exact jH.fr (k171 1 (by decide)) (by rw [k 155 (by decide) (by decide) (by decide) (by decide)]) (by rw [k 155 (by decide) (by decide) (by decide) (by decide)]) (k 176 (by decide) (by decide) (by decide) (by decide)) (fun q a b _ => k q (by omega) (by omega) (by omega) (by omega))
      · exact jS.fr (fun j a b => k171 j (by omega)) (k 157 (by decide) (by decide) (by decide) (by decide)) (k 158 (by decide) (by decide) (by decide) (by decide)) (k 159 (by decide) (by decide) (by decide) (by decide))
      · exact jV.fr (Nat.le_refl _) (k171 8 (by decide)) (by rw [k 0 (by decide) (by decide) (by decide) (by decide)]) (k 174 (by decide) (by decide) (by decide) (by decide)) (fun q a b => k q (by omega) (by omega) (by omega) (by omega))
      · rw [hlen, ← hD3]; exact mupE
      · intro i hi
        rw [hlen] at hi
        rw [← hD3, mupC (by decide), getD_app]
        by_cases z : i = tx.length
        · rw [if_pos z, z]; exact mupE
        · rw [if_neg z, mupJ z, e2 179 (by decide) (by decide)]; exact t3 i (by omega)
      · intro i hi
        rw [hlen] at hi
        rw [getD_app]
        by_cases z : i = tx.length
        · rw [if_pos z]; exact ⟨h1, h2⟩
        · rw [if_neg z]; exact t4 i (by omega)
      · exact e1.fr (k' 169 (by decide) (by decide)) (k' 181 (by decide) (by decide))
      · exact jL.fr (k171 22 (by decide)) (k 180 (by decide) (by decide) (by decide) (by decide)) (k 170 (by decide) (by decide) (by decide) (by decide)) (k 182 (by decide) (by decide) (by decide) (by decide))
theorem tlS_len {s o w k t u b z : Nat} : (tlS s o w k t u b z).length ≤ 41 := by
  have h1 := @dgl_len s
  have h2 := @dgl_len o
  have h3 := @dgl_len w
  have h4 := @dgl_len k
  have h5 := @dgl_len (t - 1)
  have h6 := @dgl_len u
  have h7 := @dgl_len z
  have hB : (tlB s o w k).length ≤ 23 := by
    unfold tlB
    simp only [List.length_append, List.length_cons, List.length_nil]
    omega
  have hC : (tlC t u (tlB s o w k)).length ≤ 35 := by
    unfold tlC
    split
    · omega
    · simp only [List.length_append, List.length_cons, List.length_nil]
      omega
  unfold tlS tlD
  split
  · omega
  · simp only [List.length_append, List.length_cons, List.length_nil]
    omega
theorem JJ.ln {D D2 D3 : Mm} {X B n c nx : Nat} {rs : List (Int32 × Int32)} {tx ln l2 : List Nat} (H : JJ D X B n c nx rs tx ln) (e1 : SbR D2 170 l2) (e2 : FrB 170 D D2) (e3 : LSt D3 l2) (e4 : FrL D2 D3) (h : l2.length ≤ 140) : J D3 (X + 30) := by
  obtain ⟨j0, ⟨jI, jR⟩, jH, jS, jV, jT, jL⟩ := H
  have hb9 := rowb_b jH.2.1
  have k : ∀ q, q ≠ 170 → q ≠ 182 → q ≠ 171 → q ≠ 180 → D3 q = D q := fun q a b e g => (e4.2 q e g).trans (e2 q a b)
  have k171 : ∀ j, j ≠ 22 → D3 171 j = D 171 j := fun j h => (e4.1 j h).trans (by rw [e2 171 (by decide) (by decide)])
  have e172 := k 172 (by decide) (by decide) (by decide) (by decide)
  have gR : Rel D3 n (D 172) := jR.fr (fun q a b => k q (by omega) (by omega) (by omega) (by omega))
  refine ⟨B, n, c, nx, rs, tx, l2, by omega, ⟨by rw [e172]; exact jI, by rw [e172]; exact gR⟩, ?_, ?_, ?_, ?_, ⟨h, e3, e1.fr (e4.2 170 (by decide) (by decide)) (e4.2 182 (by decide) (by decide))⟩⟩
  · exact jH.fr (k171 1 (by decide)) (by rw [k 155 (by decide) (by decide) (by decide) (by decide)]) (by rw [k 155 (by decide) (by decide) (by decide) (by decide)]) (k 176 (by decide) (by decide) (by decide) (by decide)) (fun q a b _ => k q (by omega) (by omega) (by omega) (by omega))
  · exact jS.fr (fun j a b => k171 j (by omega)) (k 157 (by decide) (by decide) (by decide) (by decide)) (k 158 (by decide) (by decide) (by decide) (by decide)) (k 159 (by decide) (by decide) (by decide) (by decide))
  · exact jV.fr (Nat.le_refl _) (k171 8 (by decide)) (by rw [k 0 (by decide) (by decide) (by decide) (by decide)]) (k 174 (by decide) (by decide) (by decide) (by decide)) (fun q a b => k q (by omega) (by omega) (by omega) (by omega))
  · exact jT.fr (k171 19 (by decide)) (k 179 (by decide) (by decide) (by decide) (by decide)) (k 169 (by decide) (by decide) (by decide) (by decide)) (k 181 (by decide) (by decide) (by decide) (by decide))
theorem stp_tell {d W : Nat} {a : Int32} (hW : W ≤ 18000) : StpJ (d + 9) 76 178 [.int a] W := by
  intro D hJ
  obtain ⟨B, n, c, nx, rs, tx, ln, H⟩ := id hJ
  obtain ⟨j0, ⟨jI, jR⟩, jH, jS, jV, jT, jL⟩ := id H
  have hB := H.1
  have hC := jI.hc (show B ≤ 20000 by omega)
  have hV := hC.hv
  have hb9 := rowb_b jH.2.1
  rcases caseS (n := n) (by have := hV.h12; omega) a with hb | ⟨s, hs, rfl⟩
  · exact stp_ex hJ (show d + 9 ≤ d + 9 by omega) (show d + 6 ≤ d + 9 by omega) (K_tell_bad jR hV.h12 hb) (P_tell_bad hV.hn hV.h12 hb)
  · obtain ⟨o, w, k, t, u, z, b, v0, v1, v2, v3, v4, v5, v6, l0, l1, l2, l3, l4, l5, l6, l7, l8⟩ := jI.2.2.1 s hs
    refine Ct_up (show d + 9 ≤ d + 9 by omega) (K_tell jR hV.h12 hs v0 v1 v2 v3 v4 v5 v6 (by omega) (by omega) (by omega) (by omega) (by omega) (by omega) (by omega) jL.2.2 (fun D2 e1 e2 => ⟨_, rfl, ?_⟩))
    have e172 := e2 172 (by decide) (by decide)
    refine Ct_up (show d + 6 ≤ d + 9 by omega) (P_tell (s := s) (n := n) (o := o) (w := w) (k := k) (t := t) (u := u) (b := b) (z := z) (by rw [e172]; exact hV.hn) hV.h12 hs (by rw [e172]; exact v0) (by rw [e172]; exact v1) (by rw [e172]; exact v2) (by rw [e172]; exact v3) (by rw [e172]; exact v4) (by rw [e172]; exact v5) (by rw [e172]; exact v6) (by omega) (by omega) (by omega) (by omega) (by omega) (by omega) (by omega) (fun D3 e3 e4 => ⟨rfl, ?_⟩))
    exact H.ln e1 e2 e3 e4 (Nat.le_trans tlS_len (by decide))
theorem stp_tellH {d W : Nat} (hW : W ≤ 18000) : StpJ (d + 9) 77 179 [] W := by
  intro D hJ
  obtain ⟨B, n, c, nx, rs, tx, ln, H⟩ := id hJ
  obtain ⟨j0, ⟨jI, jR⟩, jH, jS, jV, jT, jL⟩ := id H
  have hB := H.1
  have hC := jI.hc (show B ≤ 20000 by omega)
  have hV := hC.hv
  have hb9 := rowb_b jH.2.1
  have hO : ∀ h, h < 6 → D 172 (6 + 4 * h + 0) = nI (cl (D 172 (6 + 4 * h + 0))) ∧ cl (D 172 (6 + 4 * h + 0)) < 2 := fun h hh => by
    obtain ⟨o, e, s, p, h0, h1, h2, h3, b1, b2, b3, b4⟩ := jI.2.2.2.1 h hh
    rw [h0, cl_nI (by omega)]
    exact ⟨rfl, by omega⟩
  have hS : ∀ h, h < 6 → D 172 (6 + 4 * h + 2) = nI (stc (D 172) h) ∧ stc (D 172) h < 100000 := fun h hh => by
    have g := st_le jI hh
    obtain ⟨o, e, s, p, h0, h1, h2, h3, b1, b2, b3, b4⟩ := jI.2.2.2.1 h hh
    refine ⟨?_, by omega⟩
    unfold stc
    rw [h2, cl_nI (by omega)]
  have hP : ∀ h, h < 6 → D 172 (6 + 4 * h + 3) = nI (poc (D 172) h) ∧ poc (D 172) h < 100000 := fun h hh => by
    have g := st_le jI hh
    obtain ⟨o, e, s, p, h0, h1, h2, h3, b1, b2, b3, b4⟩ := jI.2.2.2.1 h hh
    refine ⟨?_, by omega⟩
    unfold poc
    rw [h3, cl_nI (by omega)]
  refine Ct_up (show d + 9 ≤ d + 9 by omega) (K_tellH jR hV.h12 hC.ho (O := fun h => cl (D 172 (6 + 4 * h + 0))) (S := stc (D 172)) (P := poc (D 172)) hO hS hP jL.2.2 (fun D2 e1 e2 => ⟨_, rfl, ?_⟩))
  have e172 := e2 172 (by decide) (by decide)
  refine Ct_up (show d + 6 ≤ d + 9 by omega) (P_tellH (O := fun h => cl (D 172 (6 + 4 * h + 0))) (S := stc (D 172)) (P := poc (D 172)) (by rw [e172]; exact hO) (by rw [e172]; exact hS) (by rw [e172]; exact hP) (fun D3 e3 e4 => ⟨rfl, ?_⟩))
  exact H.ln e1 e2 e3 e4 (Nat.le_trans (thL_len 6) (by decide))
theorem stp_run {d W : Nat} (hW : W ≤ 18000) : StpJ (d + 11) 75 177 [] W := by
  intro D hJ
  obtain ⟨B, n, c, nx, rs, tx, ln, H⟩ := id hJ
  obtain ⟨j0, ⟨jI, jR⟩, jH, jS, jV, jT, jL⟩ := id H
  have hB := H.1
  have hC := jI.hc (show B ≤ 20000 by omega)
  have hV := hC.hv
  have hb9 := rowb_b jH.2.1
  obtain ⟨t1, t2, t3, t4, t5⟩ := id jT
  have hlen := pRun_len2 (U := fun i => tx.getD i 0) (e := tx.length) 61 0 (Nat.zero_le _)
  generalize hos : pRun (fun i => tx.getD i 0) tx.length 61 0 = pr at hlen
  have hA : hAllC pr.2.2 (D 172) := hAllC_of pr.2.2 n B (D 172) jI (by omega)
  have PR := fun (D2 : Mm) (Q : Option Value → Mm → Prop) (g1 : D2 171 = D 171) (g2 : D2 172 = D 172) (g3 : D2 179 = D 179) => P_run (d := d) (D := D2) (Q := Q) (U := fun i => tx.getD i 0) (e := tx.length) (c := c) (by rw [g1]; exact t2) t1 (by rw [g3]; exact t3) t4 (by rw [g1]; exact jH.2.2.1) jH.1 (by rw [hos, g2]; exact hAllC_all _ _ hA)
  rw [hos] at PR
  have KR := K_run (d := d) (Q := fun r D2 => ∃ a, r = some (.int a) ∧ Ct (d + 11) 177 (.ref 171 :: []) D2 (fun r2 D3 => r2 = some (.int a) ∧ J D3 (W + 30))) jR hV.hn hV.h12 hC.ho jH.2.2.2.1 jH.2.1 jH.2.2.2.2.1 jH.1 t5 t1 (by rw [hos]; exact hA)
  rw [hos] at KR
  have nilT : ∀ D3 : Mm, D3 171 19 = nI 0 → SbR D3 169 [] → TxtJ D3 [] := fun D3 a b => ⟨Nat.zero_le _, a, fun i hi => absurd hi (Nat.not_lt_zero i), fun i hi => absurd hi (Nat.not_lt_zero i), b⟩
  refine Ct_up (show d + 10 ≤ d + 11 by omega) (KR ?_ ?_ ?_)
  · intro hw D2 e1 e2
    refine ⟨_, rfl, ?_⟩
    refine PR D2 _ (e2 171 (by omega) (by decide) (by decide)) (e2 172 (by omega) (by decide) (by decide)) (e2 179 (by omega) (by decide) (by decide)) ?_ (fun z => absurd z hw) (fun z => absurd z hw)
    intro _ D3 m1 m2 m3
    refine ⟨rfl, ?_⟩
    have k : ∀ q, (q < 160 ∨ 164 < q) → q ≠ 169 → q ≠ 181 → q ≠ 171 → q ≠ 173 → D3 q = D q := fun q a b e g h => (m3 q g h).trans (e2 q a b e)
    have k171 : ∀ j, j ≠ 0 → j ≠ 19 → j ≠ 20 → j ≠ 21 → j ≠ 23 → j ≠ 24 → D3 171 j = D 171 j := fun j a b e g h i => (m1 j a b e g h i).trans (by rw [e2 171 (by omega) (by decide) (by decide)])
    have e172 := k 172 (by omega) (by decide) (by decide) (by decide) (by decide)
    have gR : Rel D3 n (D 172) := jR.fr (fun q a b => k q (by omega) (by omega) (by omega) (by omega) (by omega))
    refine ⟨B, n, c, nx, rs, [], ln, by show B + 0 ≤ W + 30; omega, ⟨by rw [e172]; exact jI, by rw [e172]; exact gR⟩, ?_, ?_, ?_, nilT D3 m2 (e1.fr (m3 169 (by decide) (by decide)) (m3 181 (by decide) (by decide))), ?_⟩
    · exact jH.fr (k171 1 (by decide) (by decide) (by decide) (by decide) (by decide) (by decide)) (by rw [k 155 (by omega) (by decide) (by decide) (by decide) (by decide)]) (by rw [k 155 (by omega) (by decide) (by decide) (by decide) (by decide)]) (k 176 (by omega) (by decide) (by decide) (by decide) (by decide)) (fun q a b _ => k q (by omega) (by omega) (by omega) (by omega) (by omega))
    · exact jS.fr (fun j a b => k171 j (by omega) (by omega) (by omega) (by omega) (by omega) (by omega)) (k 157 (by omega) (by decide) (by decide) (by decide) (by decide)) (k 158 (by omega) (by decide) (by decide) (by decide) (by decide)) (k 159 (by omega) (by decide) (by decide) (by decide) (by decide))
    · exact jV.fr (Nat.le_refl _) (k171 8 (by decide) (by decide) (by decide) (by decide) (by decide) (by decide)) (by rw [k 0 (by omega) (by decide) (by decide) (by decide) (by decide)]) (k 174 (by omega) (by decide) (by decide) (by decide) (by decide)) (fun q a b => k q (by omega) (by omega) (by omega) (by omega) (by omega))
    · exact jL.fr (k171 22 (by decide) (by decide) (by decide) (by decide) (by decide) (by decide)) (k 180 (by omega) (by decide) (by decide) (by decide) (by decide)) (k 170 (by omega) (by decide) (by decide) (by decide) (by decide)) (k 182 (by omega) (by decide) (by decide) (by decide) (by decide))
  · intro hw j x rs2 hO D2 e1 e2 e3 e4 e5 e6
    refine ⟨_, rfl, ?_⟩
    have f172 := e6 172 (by omega) (by omega) (by omega) (by decide) (by decide)
    have f171 := e6 171 (by omega) (by omega) (by omega) (by decide) (by decide)
    refine PR D2 _ f171 f172 (e6 179 (by omega) (by omega) (by omega) (by decide) (by decide)) (fun z => absurd hw z) ?_ (fun _ i V2 z => ?_)
    · intro _ i x3 rs3 z D3 m1 m2 m3 m4 m5 m6
      rw [f172, hO] at z
      cases z
      refine ⟨rfl, ?_⟩
      have nz := nzR_ok (runO_ok _ _ _ _ _ _ hO)
      have k : ∀ q, (q < 1 ∨ 14 < q) → (q < rowb nx ∨ rowb nx + 13 < q) → (q < 157 ∨ 168 < q) → q ≠ 169 → q ≠ 181 → q ≠ 171 → q ≠ 172 → q ≠ 173 → q ≠ 177 → q ≠ 178 → D3 q = D q := fun q a b a1 a2 a3 a4 a5 a6 a7 a8 => (m6 q a4 a5 a6 a7 a8).trans (e6 q a b a1 a2 a3)
      have k171 : ∀ j, j = 1 ∨ j = 8 ∨ j = 22 → D3 171 j = D 171 j := fun j h => by
        rcases h with h | h | h
        · subst h; rw [m3, f171]
        · subst h; rw [m2 8 (by decide) (by decide) (by decide) (by decide) (by decide) (by decide) (by decide), f171]
        · subst h; rw [m2 22 (by decide) (by decide) (by decide) (by decide) (by decide) (by decide) (by decide), f171]
      have kv : ∀ j, j < 126 → D3 172 j = D 172 j := fun j hj => (m5 j hj).trans (by rw [f172])
      have gR : Rel D3 n (D 172) := e2.fr (fun q a b => m6 q (by omega) (by omega) (by omega) (by omega) (by omega))
      have kq : ∀ q, (q < 1 ∨ 14 < q) → (q < rowb nx ∨ rowb nx + 13 < q) → (q < 157 ∨ (168 < q ∧ q < 169) ∨ q = 170 ∨ (173 < q ∧ q < 177) ∨ (178 < q ∧ q ≠ 181)) → D3 q = D q := fun q a b e => k q a b (by omega) (by omega) (by omega) (by omega) (by omega) (by omega) (by omega) (by omega)
      refine ⟨B, n, c, nx, (nI 16, nI j) :: rs2, [], ln, by show B + 0 ≤ W + 30; omega, ⟨jI.ext kv, gR.ext jI.2.1 (fun j _ hj => kv j hj)⟩, ?_, ⟨?_, m1, ?_, ?_⟩, ?_, nilT D3 m4 (e3.fr (m6 169 (by decide) (by decide) (by decide) (by decide) (by decide)) (m6 181 (by decide) (by decide) (by decide) (by decide) (by decide))), ?_⟩
      · exact jH.fr (k171 1 (by omega)) (by rw [kq 155 (by omega) (by omega) (by omega)]) (by rw [kq 155 (by omega) (by omega) (by omega)]) (kq 176 (by omega) (by omega) (by omega)) (fun q a b e => kq q (by omega) e (by omega))
      · have := nz.2
        show rs2.length + 1 ≤ 3
        omega
      · exact e1.cg (m6 157 (by decide) (by decide) (by decide) (by decide) (by decide)) (m6 158 (by decide) (by decide) (by decide) (by decide) (by decide)) (m6 159 (by decide) (by decide) (by decide) (by decide) (by decide))
      · intro p hp
        rcases List.mem_cons.mp hp with y | y
        · rw [y]; exact (by decide : nI 16 ≠ 0)
        · exact nz.1 p y
      · exact jV.fr (Nat.le_refl _) (k171 8 (by omega)) (by rw [kq 0 (by omega) (by omega) (by omega)]) (kq 174 (by omega) (by omega) (by omega)) (fun q a b => kq q (by omega) (by omega) (by omega))
      · exact jL.fr (k171 22 (by omega)) (kq 180 (by omega) (by omega) (by omega)) (kq 170 (by omega) (by omega) (by omega)) (kq 182 (by omega) (by omega) (by omega))
    · rw [f172, hO] at z; cases z
  · intro hw j V2 hO D2 e1 e2 e3 e4 e5 e6
    refine ⟨_, rfl, ?_⟩
    have f172 := e6 172 (by decide) (by omega) (by omega) (by omega) (by decide) (by decide)
    have f171 := e6 171 (by decide) (by omega) (by omega) (by omega) (by decide) (by decide)
    have f176 := e6 176 (by decide) (by omega) (by omega) (by omega) (by decide) (by decide)
    refine PR D2 _ f171 f172 (e6 179 (by decide) (by omega) (by omega) (by omega) (by decide) (by decide)) (fun z => absurd hw z) (fun _ i x rs3 y => ?_) ?_
    · rw [f172, hO] at y; cases y
    · intro _ i V3 z D3 m1 m2 m3 m4 m5 m6
      rw [f172, hO] at z
      cases z
      refine ⟨rfl, ?_⟩
      have hI := runO_IV _ _ _ _ _ jI (by omega) _ _ hO
      rw [f176, f172] at m2
      have kq : ∀ q, q ≠ 155 → (q < 1 ∨ 14 < q) → (q < rowb nx ∨ rowb nx + 13 < q) → (q < 160 ∨ q = 170 ∨ (173 < q ∧ q < 176) ∨ (178 < q ∧ q ≠ 181)) → D3 q = D q := fun q a0 a b e => (m6 q (by omega) (by omega) (by omega) (by omega) (by omega) (by omega)).trans (e6 q a0 a b (by omega) (by omega) (by omega))
      have k171 : ∀ j, (1 < j ∧ j < 9) ∨ j = 22 → D3 171 j = D 171 j := fun j h => (m5 j (by omega) (by omega) (by omega) (by omega) (by omega) (by omega) (by omega) (by omega)).trans (by rw [f171])
      have k155 : D3 155 = D2 155 := m6 155 (by decide) (by decide) (by decide) (by decide) (by decide) (by decide)
      have gR : Rel D3 (cl (V2 0)) V2 := e1.fr (fun q a b => m6 q (by omega) (by omega) (by omega) (by omega) (by omega) (by omega))
      have gB : RelB D3 (rowb nx) n (D 172) := e2.fr (fun q a b => m6 q (by omega) (by omega) (by omega) (by omega) (by omega) (by omega))
      refine ⟨B + 30 * pr.2.2.length, cl (V2 0), min (c + 1) 8, (nx + 1) % 9, rs, [], ln, by show B + 30 * pr.2.2.length + 0 ≤ W + 30; omega, ⟨by rw [m1]; exact hI, by rw [m1]; exact gR⟩, ?_, ?_, ?_, nilT D3 m4 (e5.fr (m6 169 (by decide) (by decide) (by decide) (by decide) (by decide) (by decide)) (m6 181 (by decide) (by decide) (by decide) (by decide) (by decide) (by decide))), ?_⟩
      · exact (jH.ok jI gB m2 m3 (by rw [k155]; exact e3) (by rw [k155]; exact e4) (fun q a b e => kq q (by omega) (by omega) e (by omega))).mono (by omega)
      · exact jS.fr (fun j a b => k171 j (by omega)) (kq 157 (by decide) (by omega) (by omega) (by omega)) (kq 158 (by decide) (by omega) (by omega) (by omega)) (kq 159 (by decide) (by omega) (by omega) (by omega))
      · exact jV.fr (by omega) (k171 8 (by omega)) (by rw [kq 0 (by decide) (by omega) (by omega) (by omega)]) (kq 174 (by decide) (by omega) (by omega) (by omega)) (fun q a b => kq q (by omega) (by omega) (by omega) (by omega))
      · exact jL.fr (k171 22 (by omega)) (kq 180 (by decide) (by omega) (by omega) (by omega)) (kq 170 (by decide) (by omega) (by omega) (by omega)) (kq 182 (by decide) (by omega) (by omega) (by omega))
