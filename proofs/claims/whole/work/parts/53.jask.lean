/-! both objects side by side, questions -/
theorem JJ.fr {D D2 : Mm} {X B n c nx : Nat} {rs : List (Int32 × Int32)} {tx ln : List Nat} (H : JJ D X B n c nx rs tx ln) (f : ∀ q, q ≠ 166 → q ≠ 167 → q ≠ 168 → q ≠ 171 → q ≠ 172 → q ≠ 173 → q ≠ 175 → q ≠ 177 → q ≠ 178 → D2 q = D q) (f2 : ∀ j, j < 126 → D2 172 j = D 172 j) (f1 : ∀ j, j ≠ 0 → j ≠ 16 → j ≠ 20 → j ≠ 21 → j ≠ 23 → j ≠ 24 → D2 171 j = D 171 j) : JJ D2 X B n c nx rs tx ln := by
  obtain ⟨j0, ⟨jI, jR⟩, jH, jS, jV, jT, jL⟩ := H
  have hb := rowb_b jH.2.1
  have g : ∀ q, q < 166 ∨ 178 < q ∨ q = 169 ∨ q = 170 ∨ q = 174 ∨ q = 176 → D2 q = D q := fun q h => f q (by omega) (by omega) (by omega) (by omega) (by omega) (by omega) (by omega) (by omega) (by omega)
  have k : ∀ j, (0 < j ∧ j < 16) ∨ j = 19 ∨ j = 22 → D2 171 j = D 171 j := fun j h => f1 j (by omega) (by omega) (by omega) (by omega) (by omega) (by omega)
  have g1 : Rel D2 n (D 172) := jR.fr (fun q a b => g q (by omega))
  refine ⟨j0, ⟨jI.ext f2, g1.ext jI.2.1 (fun j _ hj => f2 j hj)⟩, ?_, ?_, ?_, ?_, ?_⟩
  · exact jH.fr (k 1 (by omega)) (by rw [g 155 (by omega)]) (by rw [g 155 (by omega)]) (g 176 (by omega)) (fun q a b _ => g q (by omega))
  · exact jS.fr (fun j a b => k j (by omega)) (g 157 (by omega)) (g 158 (by omega)) (g 159 (by omega))
  · exact jV.fr (Nat.le_refl _) (k 8 (by omega)) (by rw [g 0 (by omega)]) (g 174 (by omega)) (fun q a b => g q (by omega))
  · exact jT.fr (k 19 (by omega)) (g 179 (by omega)) (g 169 (by omega)) (g 181 (by omega))
  · exact jL.fr (k 22 (by omega)) (g 180 (by omega)) (g 170 (by omega)) (g 182 (by omega))
theorem J.fr {D D2 : Mm} {X : Nat} (H : J D X) (f : ∀ q, q ≠ 166 → q ≠ 167 → q ≠ 168 → q ≠ 171 → q ≠ 172 → q ≠ 173 → q ≠ 175 → q ≠ 177 → q ≠ 178 → D2 q = D q) (f2 : ∀ j, j < 126 → D2 172 j = D 172 j) (f1 : ∀ j, j ≠ 0 → j ≠ 16 → j ≠ 20 → j ≠ 21 → j ≠ 23 → j ≠ 24 → D2 171 j = D 171 j) : J D2 (X + 30) := by
  obtain ⟨B, n, c, nx, rs, tx, ln, h⟩ := H
  exact J.mono ⟨B, n, c, nx, rs, tx, ln, h.fr f f2 f1⟩ (by omega)

theorem stp_stubOf {d W : Nat} {a w : Int32} (hW : W ≤ 18000) : StpJ (d + 9) 58 135 [.int a, .int w] W := by
  intro D hJ
  obtain ⟨B, n, c, nx, rs, tx, ln, H⟩ := id hJ
  have jI := H.2.1.1
  have jR := H.2.1.2
  have hB := H.1
  have hC := jI.hc (show B ≤ 20000 by omega)
  have hV := hC.hv
  rcases caseS (n := n) (by have := hV.h12; omega) a with hb | ⟨s, hs, rfl⟩
  · exact stp_ex hJ (show d + 6 ≤ d + 9 by omega) (show d + 6 ≤ d + 9 by omega) (K_stubOf_bad jR hV.h12 hb) (P_stubOf_bad hV.hn hV.h12 hb)
  · by_cases hw : badR w (nI 0) (nI 7)
    · exact stp_ex hJ (show d + 6 ≤ d + 9 by omega) (show d + 6 ≤ d + 9 by omega) (K_stubOf_badw jR hV.h12 hs hw) (P_stubOf_badw hV.hn hV.h12 hs hw)
    · obtain ⟨i, _, hi, rfl⟩ := nI_bounds (by decide) hw (by decide)
      have hm := fun h : i < 8 => P_stubOf (d := d) (D := D) rfl hV.hn hV.h12 hs h
      rcases (by omega : i = 0 ∨ i = 1 ∨ i = 2 ∨ i = 3 ∨ i = 4 ∨ i = 5 ∨ i = 6 ∨ i = 7) with e | e | e | e | e | e | e | e
      · subst e; exact stp_ex hJ (show d + 6 ≤ d + 9 by omega) (show d + 6 ≤ d + 9 by omega) (K_stubOf_0 jR hV.h12 hs) (hm (by decide))
      · subst e; exact stp_ex hJ (show d + 6 ≤ d + 9 by omega) (show d + 6 ≤ d + 9 by omega) (K_stubOf_1 jR hV.h12 hs) (hm (by decide))
      · subst e; exact stp_ex hJ (show d + 6 ≤ d + 9 by omega) (show d + 6 ≤ d + 9 by omega) (K_stubOf_2 jR hV.h12 hs) (hm (by decide))
      · subst e; exact stp_ex hJ (show d + 6 ≤ d + 9 by omega) (show d + 6 ≤ d + 9 by omega) (K_stubOf_3 jR hV.h12 hs) (hm (by decide))
      · subst e; exact stp_ex hJ (show d + 6 ≤ d + 9 by omega) (show d + 6 ≤ d + 9 by omega) (K_stubOf_4 jR hV.h12 hs) (hm (by decide))
      · subst e; exact stp_ex hJ (show d + 6 ≤ d + 9 by omega) (show d + 6 ≤ d + 9 by omega) (K_stubOf_5 jR hV.h12 hs) (hm (by decide))
      · subst e; exact stp_ex hJ (show d + 6 ≤ d + 9 by omega) (show d + 6 ≤ d + 9 by omega) (K_stubOf_6 jR hV.h12 hs) (hm (by decide))
      · subst e; exact stp_ex hJ (show d + 6 ≤ d + 9 by omega) (show d + 6 ≤ d + 9 by omega) (K_stubOf_7 jR hV.h12 hs) (hm (by decide))

theorem stp_houseOf {d W : Nat} {a w : Int32} (hW : W ≤ 18000) : StpJ (d + 9) 67 158 [.int a, .int w] W := by
  intro D hJ
  obtain ⟨B, n, c, nx, rs, tx, ln, H⟩ := id hJ
  have jI := H.2.1.1
  have jR := H.2.1.2
  have hB := H.1
  have hC := jI.hc (show B ≤ 20000 by omega)
  have hV := hC.hv
  rcases caseH a with hb | ⟨j, hj, rfl⟩
  · exact stp_ex hJ (show d + 6 ≤ d + 9 by omega) (show d + 6 ≤ d + 9 by omega) (K_houseOf_bad hb) (P_houseOf_bad hb)
  · by_cases hw : badR w (nI 0) (nI 7)
    · exact stp_ex hJ (show d + 6 ≤ d + 9 by omega) (show d + 6 ≤ d + 9 by omega) (K_houseOf_badw hj hw) (P_houseOf_badw hj hw)
    · obtain ⟨i, _, hi, rfl⟩ := nI_bounds (by decide) hw (by decide)
      rcases (by omega : i = 0 ∨ i = 1 ∨ i = 2 ∨ i = 3 ∨ i = 4 ∨ i = 5 ∨ i = 6 ∨ i = 7) with e | e | e | e | e | e | e | e
      · subst e; exact stp_ex hJ (show d + 6 ≤ d + 9 by omega) (show d + 6 ≤ d + 9 by omega) (K_houseOf_0 jR hV.h12 hC.ho hj) (P_houseOf_0 rfl hj)
      · subst e; exact stp_ex hJ (show d + 6 ≤ d + 9 by omega) (show d + 6 ≤ d + 9 by omega) (K_houseOf_1 jR hV.h12 hC.ho hj) (P_houseOf_1 rfl hj)
      · subst e; exact stp_ex hJ (show d + 6 ≤ d + 9 by omega) (show d + 6 ≤ d + 9 by omega) (K_houseOf_2 jR hV.h12 hC.ho hj) (P_houseOf_2 rfl hj)
      · subst e; exact stp_ex hJ (show d + 6 ≤ d + 9 by omega) (show d + 6 ≤ d + 9 by omega) (K_houseOf_3 jR hV.h12 hC.ho hj) (P_houseOf_3 rfl hj)
      · subst e; exact stp_ex hJ (show d + 6 ≤ d + 9 by omega) (show d + 6 ≤ d + 9 by omega) (K_houseOf_4 jR hV.h12 hC.ho hj) (P_houseOf_4 rfl hV.hn hV.h12 hj)
      · subst e; exact stp_ex hJ (show d + 6 ≤ d + 9 by omega) (show d + 6 ≤ d + 9 by omega) (K_houseOf_5 jR hV.h12 hC.ho hj) (P_houseOf_5 rfl hV.hn hV.h12 hj)
      · subst e; exact stp_ex hJ (show d + 6 ≤ d + 9 by omega) (show d + 6 ≤ d + 9 by omega) (K_houseOf_6 jR hV.h12 hC.ho hj) (P_houseOf_6 rfl hV.hn hV.h12 hj)
      · subst e; exact stp_ex hJ (show d + 6 ≤ d + 9 by omega) (show d + 6 ≤ d + 9 by omega) (K_houseOf_7 jR hV.h12 hC.ho hj) (P_houseOf_7 rfl hV.hn hV.h12 hj)

theorem stp_weight {d W : Nat} {a : Int32} (hW : W ≤ 18000) : StpJ (d + 9) 70 161 [.int a] W := by
  intro D hJ
  obtain ⟨B, n, c, nx, rs, tx, ln, H⟩ := id hJ
  have jI := H.2.1.1
  have jR := H.2.1.2
  have hB := H.1
  have hC := jI.hc (show B ≤ 20000 by omega)
  have hV := hC.hv
  rcases caseH a with hb | ⟨j, hj, rfl⟩
  · exact stp_ex hJ (show d + 6 ≤ d + 9 by omega) (show d + 6 ≤ d + 9 by omega) (K_weight_bad hb) (P_weight_bad hb)
  · exact stp_ex hJ (show d + 6 ≤ d + 9 by omega) (show d + 6 ≤ d + 9 by omega) (K_weight jR hV.h12 hj) (P_weight rfl hV.hn hV.h12 hj)
theorem stp_weightA {d W : Nat} {a : Int32} (hW : W ≤ 18000) : StpJ (d + 9) 71 162 [.int a] W := by
  intro D hJ
  obtain ⟨B, n, c, nx, rs, tx, ln, H⟩ := id hJ
  have jI := H.2.1.1
  have jR := H.2.1.2
  have hB := H.1
  have hC := jI.hc (show B ≤ 20000 by omega)
  have hV := hC.hv
  rcases caseH a with hb | ⟨j, hj, rfl⟩
  · exact stp_ex hJ (show d + 7 ≤ d + 9 by omega) (show d + 7 ≤ d + 9 by omega) (K_weightA_bad hb) (P_weightAgain_bad hb)
  · have g := K_weightA (d := d) jR hV.h12 hj
    rw [jI.wb j hj] at g
    exact stp_ex hJ (show d + 7 ≤ d + 9 by omega) (show d + 7 ≤ d + 9 by omega) (g) (P_weightAgain rfl hV.hn hV.h12 hj)
theorem stp_inherits {d W : Nat} {a : Int32} (hW : W ≤ 18000) : StpJ (d + 9) 68 159 [.int a] W := by
  intro D hJ
  obtain ⟨B, n, c, nx, rs, tx, ln, H⟩ := id hJ
  have jI := H.2.1.1
  have jR := H.2.1.2
  have hB := H.1
  have hC := jI.hc (show B ≤ 20000 by omega)
  have hV := hC.hv
  rcases caseH a with hb | ⟨j, hj, rfl⟩
  · exact stp_ex hJ (show d + 6 ≤ d + 9 by omega) (show d + 6 ≤ d + 9 by omega) (K_inherits_bad hb) (P_inherits_bad hb)
  · by_cases hO : vOpen (D 172) j
    · have o1 := opens_one jI hj hO
      cases e : vSucc (D 172) j with
      | none =>
        have m1 := o1.2.mpr e
        exact stp_ex hJ (show d + 6 ≤ d + 9 by omega) (show d + 6 ≤ d + 9 by omega) (K_inherits_no jR hV.h12 hC.ho hV.hr hj hO e) (P_inherits_no rfl hj (Or.inr (by rw [m1]; exact (nI_leI (by decide) (by decide)).mpr (Nat.le_refl 1))))
      | some r =>
        have m1 : nI 1 < mOpens (D 172) := by
          have q : mOpens (D 172) ≠ nI 1 := fun z => by rw [o1.2.mp z] at e; cases e
          rw [opens_nat jI] at q ⊢
          have q2 : sN6 6 (opc (D 172)) ≠ 1 := fun z => q (by rw [z])
          exact nI_lt (by omega) (by omega)
        exact stp_ex hJ (show d + 6 ≤ d + 9 by omega) (show d + 6 ≤ d + 9 by omega) (K_inherits jR hV.h12 hC.ho hV.hr hj hO e) (P_inherits rfl hj hV.hr hO m1 e)
    · exact stp_ex hJ (show d + 6 ≤ d + 9 by omega) (show d + 6 ≤ d + 9 by omega) (K_inherits_sh jR hV.h12 hC.ho hj hO) (P_inherits_no rfl hj (Or.inl hO))
theorem stp_melt {d W : Nat} {a : Int32} (hW : W ≤ 18000) : StpJ (d + 9) 69 160 [.int a] W := by
  intro D hJ
  obtain ⟨B, n, c, nx, rs, tx, ln, H⟩ := id hJ
  have jI := H.2.1.1
  have jR := H.2.1.2
  have hB := H.1
  have hC := jI.hc (show B ≤ 20000 by omega)
  have hV := hC.hv
  rcases caseH a with hb | ⟨j, hj, rfl⟩
  · exact stp_ex hJ (show d + 6 ≤ d + 9 by omega) (show d + 6 ≤ d + 9 by omega) (K_melt_bad hb) (P_wouldMelt_bad hb)
  · by_cases hO : vOpen (D 172) j
    · have o1 := opens_one jI hj hO
      cases e : vSucc (D 172) j with
      | none => exact stp_ex hJ (show d + 6 ≤ d + 9 by omega) (show d + 6 ≤ d + 9 by omega) (K_melt_no jR hV.h12 hC.ho hV.hr hj hO e) (P_wouldMelt_no rfl hj (Or.inr (o1.2.mpr e)))
      | some r =>
        have hr := vSucc_lt hV.hr hj e
        have q : mOpens (D 172) ≠ nI 1 := fun z => by rw [o1.2.mp z] at e; cases e
        refine Ct_exq (Ct_up (show d + 6 ≤ d + 9 by omega) (K_melt jR hV.h12 hC.ho hV.hr hj hO e)) ⟨_, rfl, ?_⟩
        refine Ct_up (show d + 6 ≤ d + 9 by omega) (P_wouldMelt rfl hV.hn hV.h12 hj hV.hr hO q e (fun D2 e1 e2 e3 => ⟨by rw [melt_eq hV.h12 hj hr.1 hr.2.1], ?_⟩))
        exact hJ.fr (fun q _ _ _ b c _ f _ _ => e3 q b c f) e1 (fun j _ b _ _ _ _ => e2 j b)
    · exact stp_ex hJ (show d + 6 ≤ d + 9 by omega) (show d + 6 ≤ d + 9 by omega) (K_melt_sh jR hV.h12 hC.ho hj hO) (P_wouldMelt_no rfl hj (Or.inl hO))
theorem stp_ranked {d W : Nat} {p : Int32} (hW : W ≤ 18000) : StpJ (d + 9) 72 163 [.int p] W := by
  intro D hJ
  obtain ⟨B, n, c, nx, rs, tx, ln, H⟩ := id hJ
  have jI := H.2.1.1
  have jR := H.2.1.2
  have hB := H.1
  have hC := jI.hc (show B ≤ 20000 by omega)
  have hV := hC.hv
  exact stp_ex hJ (show d + 6 ≤ d + 9 by omega) (show d + 6 ≤ d + 9 by omega) (K_ranked jR hV.h12 hC.ho (jI.clN (show B ≤ 20000 by omega)) jI.stN) (P_ranked hV.hn hV.h12 ⟨rfl, rfl⟩)
theorem stp_brightest {d W : Nat} {p : Int32} (hW : W ≤ 18000) : StpJ (d + 9) 73 164 [.int p] W := by
  intro D hJ
  obtain ⟨B, n, c, nx, rs, tx, ln, H⟩ := id hJ
  have jI := H.2.1.1
  have jR := H.2.1.2
  have hB := H.1
  have hC := jI.hc (show B ≤ 20000 by omega)
  have hV := hC.hv
  exact stp_ex hJ (show d + 6 ≤ d + 9 by omega) (show d + 6 ≤ d + 9 by omega) (K_brightest jR hV.h12 jI.ltN) (P_brightest hV.hn hV.h12 ⟨rfl, rfl⟩)
theorem stp_part {d W : Nat} {a : Int32} (hW : W ≤ 18000) : StpJ (d + 9) 61 144 [.int a] W := by
  intro D hJ
  obtain ⟨B, n, c, nx, rs, tx, ln, H⟩ := id hJ
  have jI := H.2.1.1
  have jR := H.2.1.2
  have hB := H.1
  have hC := jI.hc (show B ≤ 20000 by omega)
  have hV := hC.hv
  rcases caseH a with hb | ⟨j, hj, rfl⟩
  · exact stp_ex hJ (show d + 7 ≤ d + 9 by omega) (show d + 6 ≤ d + 9 by omega) (K_part_bad hb) (P_part_bad hb)
  · refine Ct_up (show d + 7 ≤ d + 9 by omega) (K_part jR hV.h12 hC.ho hC.sh hj (fun D2 e => ⟨_, rfl, ?_⟩))
    have e2 : D2 172 = D 172 := e 172 (by decide) (by decide) (by decide)
    refine Ct_up (show d + 6 ≤ d + 9 by omega) (P_part e2 hV.hn hV.h12 hj hV.hF (fun D3 e3 => ⟨rfl, ?_⟩))
    exact hJ.fr (fun q a b c _ _ _ _ f g => (e3 q f g).trans (e q a b c)) (fun j _ => by rw [e3 172 (by decide) (by decide), e2]) (fun j _ _ _ _ _ _ => by rw [e3 171 (by decide) (by decide), e 171 (by decide) (by decide) (by decide)])
theorem stp_partA {d W : Nat} {a : Int32} (hW : W ≤ 18000) : StpJ (d + 9) 62 145 [.int a] W := by
  intro D hJ
  obtain ⟨B, n, c, nx, rs, tx, ln, H⟩ := id hJ
  have jI := H.2.1.1
  have jR := H.2.1.2
  have hB := H.1
  have hC := jI.hc (show B ≤ 20000 by omega)
  have hV := hC.hv
  rcases caseH a with hb | ⟨j, hj, rfl⟩
  · exact stp_ex hJ (show d + 7 ≤ d + 9 by omega) (show d + 7 ≤ d + 9 by omega) (K_partA_bad hb) (P_partAgain_bad hb)
  · refine Ct_up (show d + 7 ≤ d + 9 by omega) (K_partA jR hV.h12 hC.ho hC.sh hj (fun D2 e => ⟨_, rfl, ?_⟩))
    have e2 : D2 172 = D 172 := e 172 (by decide) (by decide) (by decide)
    refine Ct_up (show d + 7 ≤ d + 9 by omega) (P_partAgain e2 hV.hn hV.h12 hj hV.hF (fun D3 e3 => ⟨rfl, ?_⟩))
    exact hJ.fr (fun q a b c _ _ _ _ f g => (e3 q f g).trans (e q a b c)) (fun j _ => by rw [e3 172 (by decide) (by decide), e2]) (fun j _ _ _ _ _ _ => by rw [e3 171 (by decide) (by decide), e 171 (by decide) (by decide) (by decide)])
theorem stp_isBal {d W : Nat} (hW : W ≤ 18000) : StpJ (d + 9) 81 185 [] W := by
  intro D hJ
  obtain ⟨B, n, c, nx, rs, tx, ln, H⟩ := id hJ
  have jI := H.2.1.1
  have jR := H.2.1.2
  have hB := H.1
  have hC := jI.hc (show B ≤ 20000 by omega)
  have hV := hC.hv
  refine Ct_up (show d + 7 ≤ d + 9 by omega) (K_isBal jR hV.h12 hC.ho hC.sh jI.bal jI.wb (fun D2 e => ⟨_, rfl, ?_⟩))
  have e2 : D2 172 = D 172 := e 172 (by decide) (by decide) (by decide)
  have g := P_isBal (d := d) (D := D2) (by rw [e2]; exact hV.hn) hV.h12
  rw [ifp_t (by rw [e2]; exact jI.bal)] at g
  refine Ct_exq (Ct_up (show d + 6 ≤ d + 9 by omega) g) ⟨rfl, ?_⟩
  exact hJ.fr (fun q a b c _ _ _ _ _ _ => e q a b c) (fun j _ => by rw [e2]) (fun j _ _ _ _ _ _ => by rw [e 171 (by decide) (by decide) (by decide)])
theorem rs_at {F : Nat → Int32} {rs : List (Int32 × Int32)} {z : Int32} (h : RsM F rs) (h3 : rs.length ≤ 3) (hz : nzR rs) : resR rs 0 z = ifp (F 2 = 0) (-1015) (ifp (z = 0) (F 2) (F 3)) ∧ resR rs 1 z = ifp (F 4 = 0) (-1015) (ifp (z = 0) (F 4) (F 5)) ∧ resR rs 2 z = ifp (F 6 = 0) (-1015) (ifp (z = 0) (F 6) (F 7)) := by
  rcases rs with _ | ⟨⟨a, b⟩, _ | ⟨⟨u, v⟩, _ | ⟨⟨y, x⟩, _ | ⟨_, t⟩⟩⟩⟩
  · obtain ⟨a1, a2, a3⟩ := h
    rw [a1, a2, a3]
    exact ⟨(ifp_t rfl).symm, (ifp_t rfl).symm, (ifp_t rfl).symm⟩
  · obtain ⟨a1, a2, a3, a4⟩ := h
    have n1 : a ≠ 0 := hz (a, b) (List.mem_cons_self ..)
    rw [a1, a2, a3, a4, ifp_f n1]
    exact ⟨rfl, (ifp_t rfl).symm, (ifp_t rfl).symm⟩
  · obtain ⟨a1, a2, a3, a4, a5⟩ := h
    have n1 : a ≠ 0 := hz (a, b) (List.mem_cons_self ..)
    have n2 : u ≠ 0 := hz (u, v) (List.mem_cons_of_mem _ (List.mem_cons_self ..))
    rw [a1, a2, a3, a4, a5, ifp_f n1, ifp_f n2]
    exact ⟨rfl, rfl, (ifp_t rfl).symm⟩
  · obtain ⟨a1, a2, a3, a4, a5, a6⟩ := h
    have n1 : a ≠ 0 := hz (a, b) (List.mem_cons_self ..)
    have n2 : u ≠ 0 := hz (u, v) (List.mem_cons_of_mem _ (List.mem_cons_self ..))
    have n3 : y ≠ 0 := hz (y, x) (List.mem_cons_of_mem _ (List.mem_cons_of_mem _ (List.mem_cons_self ..)))
    rw [a1, a2, a3, a4, a5, a6, ifp_f n1, ifp_f n2, ifp_f n3]
    exact ⟨rfl, rfl, rfl⟩
  · simp only [List.length_cons] at h3; omega
theorem stp_reason {d W : Nat} {a z : Int32} (hW : W ≤ 18000) : StpJ (d + 9) 79 181 [.int a, .int z] W := by
  intro D hJ
  obtain ⟨B, n, c, nx, rs, tx, ln, H⟩ := id hJ
  have jI := H.2.1.1
  have jR := H.2.1.2
  have hB := H.1
  have hC := jI.hc (show B ≤ 20000 by omega)
  have hV := hC.hv
  obtain ⟨r1, r2, r3, r4⟩ := H.2.2.2.1
  have rr := rs_at (z := z) r2 r1 r4
  by_cases hb : badR a (nI 0) (nI 2)
  · exact stp_ex hJ (show d + 6 ≤ d + 9 by omega) (show d + 6 ≤ d + 9 by omega) (K_reason_bad hb) (P_reason_bad hb)
  · obtain ⟨i, _, hi, rfl⟩ := nI_bounds (by decide) hb (by decide)
    have g := K_reason (d := d) (z := z) r3 r1 hi
    rcases (by omega : i = 0 ∨ i = 1 ∨ i = 2) with e | e | e
    · subst e; rw [rr.1] at g; exact stp_ex hJ (show d + 6 ≤ d + 9 by omega) (show d + 6 ≤ d + 9 by omega) (g) (P_reason0)
    · subst e; rw [rr.2.1] at g; exact stp_ex hJ (show d + 6 ≤ d + 9 by omega) (show d + 6 ≤ d + 9 by omega) (g) (P_reason1)
    · subst e; rw [rr.2.2] at g; exact stp_ex hJ (show d + 6 ≤ d + 9 by omega) (show d + 6 ≤ d + 9 by omega) (g) (P_reason2)
theorem stp_acc {d W : Nat} {w : Int32} (hW : W ≤ 18000) : StpJ (d + 9) 80 184 [.int w] W := by
  intro D hJ
  obtain ⟨B, n, c, nx, rs, tx, ln, H⟩ := id hJ
  have jI := H.2.1.1
  have jR := H.2.1.2
  have hB := H.1
  have hC := jI.hc (show B ≤ 20000 by omega)
  have hV := hC.hv
  by_cases hb : badR w (nI 0) (nI 13)
  · exact stp_ex hJ (show d + 7 ≤ d + 9 by omega) (show d + 6 ≤ d + 9 by omega) (K_acc_bad hb) (P_acc_bad hb)
  · obtain ⟨i, _, hi, rfl⟩ := nI_bounds (by decide) hb (by decide)
    rcases (by omega : i = 0 ∨ i = 1 ∨ i = 2 ∨ i = 3 ∨ i = 4 ∨ i = 5 ∨ i = 6 ∨ i = 7 ∨ i = 8 ∨ i = 9 ∨ i = 10 ∨ i = 11 ∨ i = 12 ∨ i = 13) with e | e | e | e | e | e | e | e | e | e | e | e | e | e
    · subst e
      have g := P_acc0 (d := d) (D := D) hV.hn hV.h12
      rw [hV.hn] at g
      exact stp_ex hJ (show d + 7 ≤ d + 9 by omega) (show d + 6 ≤ d + 9 by omega) (K_acc0 jR hV.h12 hC.ho hC.by_) (g)
    · subst e; exact stp_ex hJ (show d + 7 ≤ d + 9 by omega) (show d + 6 ≤ d + 9 by omega) (K_acc1 jR hV.h12 hC.ho hC.by_) (P_acc1 (d := d) (D := D) hV.hn hV.h12)
    · subst e; exact stp_ex hJ (show d + 7 ≤ d + 9 by omega) (show d + 6 ≤ d + 9 by omega) (K_acc2 jR hV.h12 hC.ho hC.by_) (P_acc2 (d := d) (D := D) hV.hn hV.h12)
    · subst e; exact stp_ex hJ (show d + 7 ≤ d + 9 by omega) (show d + 6 ≤ d + 9 by omega) (K_acc3 jR hV.h12 hC.ho hC.by_) (P_acc3 (d := d) (D := D) hV.hn hV.h12)
    · subst e; exact stp_ex hJ (show d + 7 ≤ d + 9 by omega) (show d + 6 ≤ d + 9 by omega) (K_acc4 jR hV.h12 hC.ho hC.by_) (P_acc4 (d := d) (D := D) hV.hn hV.h12)
    · subst e; exact stp_ex hJ (show d + 7 ≤ d + 9 by omega) (show d + 6 ≤ d + 9 by omega) (K_acc5 jR hV.h12 hC.ho hC.by_) (P_acc5 (d := d) (D := D) hV.hn hV.h12)
    · subst e; exact stp_ex hJ (show d + 7 ≤ d + 9 by omega) (show d + 6 ≤ d + 9 by omega) (K_acc6 jR hV.h12 hC.ho hC.by_) (P_acc6 (d := d) (D := D) hV.hn hV.h12)
    · subst e; exact stp_ex hJ (show d + 7 ≤ d + 9 by omega) (show d + 6 ≤ d + 9 by omega) (K_acc7 jR hV.h12 hC.ho hC.by_) (P_acc7 (d := d) (D := D) hV.hn hV.h12)
    · subst e; exact stp_ex hJ (show d + 7 ≤ d + 9 by omega) (show d + 6 ≤ d + 9 by omega) (K_acc8 jR hV.h12 hC.ho hC.by_) (P_acc8 (d := d) (D := D) hV.hn hV.h12)
    · subst e; exact stp_ex hJ (show d + 7 ≤ d + 9 by omega) (show d + 6 ≤ d + 9 by omega) (K_acc9 jR hV.h12 hC.ho hC.by_) (P_acc9 (d := d) (D := D) hV.hn hV.h12)
    · subst e; exact stp_ex hJ (show d + 7 ≤ d + 9 by omega) (show d + 6 ≤ d + 9 by omega) (K_acc10 jR hV.h12 hC.ho hC.by_) (P_acc10 (d := d) (D := D) hV.hn hV.h12)
    · subst e; exact stp_ex hJ (show d + 7 ≤ d + 9 by omega) (show d + 6 ≤ d + 9 by omega) (K_acc11 jR hV.h12 hC.ho hC.by_) (P_acc11 (d := d) (D := D) hV.hn hV.h12)
    · subst e
      have g := P_acc12 (d := d) (D := D) hV.hn hV.h12
      rw [H.2.2.2.2.2.1.2.1] at g
      exact stp_ex hJ (show d + 7 ≤ d + 9 by omega) (show d + 6 ≤ d + 9 by omega) (K_acc12 H.2.2.2.2.2.1.2.2.2.2) (g)
    · subst e
      have g := P_acc13 (d := d) (D := D) hV.hn hV.h12
      rw [H.2.2.1.2.2.1] at g
      exact stp_ex hJ (show d + 7 ≤ d + 9 by omega) (show d + 6 ≤ d + 9 by omega) (K_acc13 jR hV.h12 hC.ho hC.by_ H.2.2.1.2.2.2.2.1) (g)

theorem stp_char {d W : Nat} {a : Int32} (hW : W ≤ 18000) : StpJ (d + 9) 78 180 [.int a] W := by
  intro D hJ
  obtain ⟨B, n, c, nx, rs, tx, ln, H⟩ := id hJ
  have jI := H.2.1.1
  have jR := H.2.1.2
  have hB := H.1
  have hC := jI.hc (show B ≤ 20000 by omega)
  have hV := hC.hv
  obtain ⟨l1, ⟨l2, l3⟩, l4⟩ := H.2.2.2.2.2.2
  by_cases hb : badR a (nI 0) (nI ln.length - nI 1)
  · exact stp_ex hJ (show d + 9 ≤ d + 9 by omega) (show d + 6 ≤ d + 9 by omega) (K_char_bad l4 hb) (P_char_bad l2 hb)
  · rcases caseS (n := ln.length) (by omega) a with hs | ⟨i, hi, rfl⟩
    · exact absurd (badS_R (by omega) hs) hb
    · have g := P_char (d := d) l2 l1 hi
      rw [l3 i hi] at g
      exact stp_ex hJ (show d + 9 ≤ d + 9 by omega) (show d + 6 ≤ d + 9 by omega) (K_char l4 l1 hi) (g)
