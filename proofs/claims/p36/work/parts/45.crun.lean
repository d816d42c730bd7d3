/-! the class, run -/
theorem mup_q {D : Mm} {c j q : Nat} {x : Int32} (h : q ≠ c) : mup D c j x q = D q := mupF h
set_option maxHeartbeats 100000 in
theorem K_refO0 {d : Nat} {D : Mm} {Q : Option Value → Mm → Prop} {i x : Int32} (hx : ¬ x = -1014) (hq : ∀ D2, RsC D2 [(nI 16, i)] → (∀ q, q ≠ 157 → q ≠ 158 → q ≠ 159 → D2 q = D q) → Q (some (.int (-1014))) D2) : Ct (d + 3) 103 [.ref 0, .int i, .int x] D Q := by
  refine ent m103 rfl rfl (ls := [.ref 0, .int i, .int x]) rfl ?_
  refine w_ild2 i103_0 ?_
  refine w_sip i103_1 ks_m1014 ?_
  refine w_ceqF i103_4  hx ?_
  refine w_ald0 i103_7 ?_
  refine w_gfR i103_8 (by decide) s_0 rfl ?_
  refine w_vV1 i103_11 c12 (Or.inl rfl) ⟨by decide +kernel, by decide⟩ rfl ⟨rfl, Nat.le_of_ble_eq_true rfl⟩ K_clear ?_
  refine w_ald0 i103_14 ?_
  refine w_gfR i103_15 (by decide) s_0 rfl ?_
  refine w_bip i103_18 kb_16 ?_
  refine w_ild1 i103_20 ?_
  refine w_vV3 i103_21 c14 (Or.inl rfl) ⟨by decide +kernel, by decide⟩ rfl ⟨rfl, Nat.le_of_ble_eq_true rfl⟩ (K_pa0 mupE) ?_
  refine w_sip i103_24 ks_m1014 ?_
  refine w_ri i103_27 r103 ?_
  exact hq _ (K_pr0 rfl mupE) (fun q h1 h2 h3 => (mupF h3).trans ((mupF h2).trans ((mupF h1).trans (mupF h1))))
set_option maxHeartbeats 100000 in
theorem K_refO1 {d : Nat} {D : Mm} {Q : Option Value → Mm → Prop} {i : Int32} {rs : List (Int32 × Int32)} (hl : rs.length = 1) (h : RsC D rs) (hq : ∀ D2, RsC D2 ((nI 16, i) :: rs) → (∀ q, q ≠ 157 → q ≠ 158 → q ≠ 159 → D2 q = D q) → Q (some (.int (-1014))) D2) : Ct (d + 3) 103 [.ref 0, .int i, .int (-1014)] D Q := by
  refine ent m103 rfl rfl (ls := [.ref 0, .int i, .int (-1014)]) rfl ?_
  refine w_ild2 i103_0 ?_
  refine w_sip i103_1 ks_m1014 ?_
  refine w_ceqT i103_4 g103_4  rfl ?_
  refine w_ald0 i103_14 ?_
  refine w_gfR i103_15 (by decide) s_0 rfl ?_
  refine w_bip i103_18 kb_16 ?_
  refine w_ild1 i103_20 ?_
  refine w_vV3 i103_21 c14 (Or.inl rfl) ⟨by decide +kernel, by decide⟩ rfl ⟨rfl, Nat.le_of_ble_eq_true rfl⟩ (K_pa1 ((RsC.ct h (by omega)).trans (congrArg nI hl))) ?_
  refine w_sip i103_24 ks_m1014 ?_
  refine w_ri i103_27 r103 ?_
  exact hq _ (K_pr1 hl h) (fun q h1 h2 h3 => (mupF h3).trans ((mupF h2).trans ((mupF h3).trans ((mupF h2).trans ((mupF h1).trans (rfl))))))
set_option maxHeartbeats 100000 in
theorem K_refO2 {d : Nat} {D : Mm} {Q : Option Value → Mm → Prop} {i : Int32} {rs : List (Int32 × Int32)} (hl : rs.length = 2) (h : RsC D rs) (hq : ∀ D2, RsC D2 ((nI 16, i) :: rs) → (∀ q, q ≠ 157 → q ≠ 158 → q ≠ 159 → D2 q = D q) → Q (some (.int (-1014))) D2) : Ct (d + 3) 103 [.ref 0, .int i, .int (-1014)] D Q := by
  refine ent m103 rfl rfl (ls := [.ref 0, .int i, .int (-1014)]) rfl ?_
  refine w_ild2 i103_0 ?_
  refine w_sip i103_1 ks_m1014 ?_
  refine w_ceqT i103_4 g103_4  rfl ?_
  refine w_ald0 i103_14 ?_
  refine w_gfR i103_15 (by decide) s_0 rfl ?_
  refine w_bip i103_18 kb_16 ?_
  refine w_ild1 i103_20 ?_
  refine w_vV3 i103_21 c14 (Or.inl rfl) ⟨by decide +kernel, by decide⟩ rfl ⟨rfl, Nat.le_of_ble_eq_true rfl⟩ (K_pa2 ((RsC.ct h (by omega)).trans (congrArg nI hl))) ?_
  refine w_sip i103_24 ks_m1014 ?_
  refine w_ri i103_27 r103 ?_
  exact hq _ (K_pr2 hl h) (fun q h1 h2 h3 => (mupF h3).trans ((mupF h2).trans ((mupF h3).trans ((mupF h2).trans ((mupF h3).trans ((mupF h2).trans ((mupF h1).trans (rfl))))))))
theorem K_refO {d : Nat} {D D0 : Mm} {Q : Option Value → Mm → Prop} {i x : Int32} {rs : List (Int32 × Int32)} (hok : okF (.inl (x, rs))) (hr : rs ≠ [] → RsC D rs) (hq : ∀ D2, RsC D2 ((nI 16, i) :: rs) → (∀ q, q ≠ 157 → q ≠ 158 → q ≠ 159 → D2 q = D q) → Q (some (.int (-1014))) D2) : Ct (d + 3) 103 [.ref 0, .int i, .int x] D Q := by
  rcases hok with ⟨e1, e2⟩ | ⟨e1, e2⟩
  · subst e1
    exact K_refO0 (by rcases e2 with e2 | e2 <;> (rw [e2]; decide)) hq
  · subst e1
    rcases e2 with ⟨a, b, e2, _⟩ | ⟨a, b, u, v, e2, _, _⟩
    · exact K_refO1 (by rw [e2]; rfl) (hr (by rw [e2]; exact List.cons_ne_nil _ _)) hq
    · exact K_refO2 (by rw [e2]; rfl) (hr (by rw [e2]; exact List.cons_ne_nil _ _)) hq
theorem K_carryG {d : Nat} {D : Mm} {Q : Option Value → Mm → Prop} {n : Nat} {V : Nat → Int32} (R : Rel D n V) (H : HC n V) {i : Nat} {o : Nat × Nat × Nat × Nat} (hi : i < 60) (hA : ArgOK D i o) (h : OutX (oDo n V o.1 (nI o.2.1) (nI o.2.2.1) (nI o.2.2.2)) D Q) : Ct (d + 8) 97 [.ref 0, .int (nI i)] D Q := by
  rw [← hA.2.2 n V] at h
  have h0 := hA.1
  rcases kn_all hA.2.1 with z | z | z | z | z | z | z | z | z | z
  · rw [z] at h h0; exact K_carry115 R H hi h0 rfl rfl rfl h
  · rw [z] at h h0; exact K_carry98 R H hi h0 rfl rfl rfl h
  · rw [z] at h h0; exact K_carry111 R H hi h0 rfl rfl rfl h
  · rw [z] at h h0; exact K_carry119 R H hi h0 rfl rfl rfl h
  · rw [z] at h h0; exact K_carry112 R H hi h0 rfl rfl rfl h
  · rw [z] at h h0; exact K_carry100 R H hi h0 rfl rfl rfl h
  · rw [z] at h h0; exact K_carry109 R H hi h0 rfl rfl rfl h
  · rw [z] at h h0; exact K_carry104 R H hi h0 rfl rfl rfl h
  · rw [z] at h h0; exact K_carry101 R H hi h0 rfl rfl rfl h
  · rw [z] at h h0; exact K_carry116 R H hi h0 rfl rfl rfl h
def hAllC : List (Nat × Nat × Nat × Nat) → (Nat → Int32) → Prop
  | [], _ => True
  | o :: os, V => HC (cl (V 0)) V ∧ ∀ a V2, oOp V o = .inr (a, V2) → 0 ≤ a ∧ hAllC os V2
theorem hAllC_all : ∀ os V, hAllC os V → hAll os V := by
  intro os
  induction os with
  | nil => intro V _; trivial
  | cons o os ih => intro V h; exact ⟨h.1.hv, fun a V2 e => ih V2 (h.2 a V2 e).2⟩
def FrX (nx : Nat) (D D2 : Mm) : Prop := ∀ q, (q < 1 ∨ 14 < q) → (q < rowb nx ∨ rowb nx + 13 < q) → (q < 160 ∨ 168 < q) → q ≠ 169 → q ≠ 181 → D2 q = D q
theorem FrX.s {nx : Nat} {D D1 D2 : Mm} (h : FrX nx D D1) (g : ∀ q, (q < 1 ∨ 14 < q) → q ≠ 166 → q ≠ 167 → q ≠ 168 → D2 q = D1 q) : FrX nx D D2 := fun q a b c e f => (g q a (by omega) (by omega) (by omega)).trans (h q a b c e f)
theorem K_runL {d : Nat} {D : Mm} {Q : Option Value → Mm → Prop} {n nx c tot : Nat} {V : Nat → Int32} (h12 : n ≤ 12) (ho : opV V) (h9 : nx < 9) (h8 : c ≤ 8) (ht : tot ≤ 60) : ∀ (os : List (Nat × Nat × Nat × Nat)) (i : Nat) (V1 : Nat → Int32) (D1 : Mm) (u : Value), nvB u = true → i + os.length = tot → Rel D1 (cl (V1 0)) V1 → hAllC os V1 → (∀ x, x < os.length → ArgOK D1 (i + x) (os.getD x (0, 0, 0, 0))) → D1 160 4 = nI tot → RelB D1 (rowb nx) n V → D1 155 1 = nI nx → D1 155 2 = nI c → SbR D1 169 [] → FrX nx D D1 →
    (∀ j x rs, runO os i V1 = .inl (j, x, rs) → ∀ D2, RsC D2 ((nI 16, nI j) :: rs) → Rel D2 n V → SbR D2 169 [] → D2 155 1 = nI nx → D2 155 2 = nI c → (∀ q, (q < 1 ∨ 14 < q) → (q < rowb nx ∨ rowb nx + 13 < q) → (q < 157 ∨ 168 < q) → q ≠ 169 → q ≠ 181 → D2 q = D q) → Q (some (.int (-1014))) D2) →
    (∀ j V2, runO os i V1 = .inr (j, V2) → ∀ D2, Rel D2 (cl (V2 0)) V2 → RelB D2 (rowb nx) n V → D2 155 1 = nI ((nx + 1) % 9) → D2 155 2 = nI (min (c + 1) 8) → SbR D2 169 [] → (∀ q, q ≠ 155 → (q < 1 ∨ 14 < q) → (q < rowb nx ∨ rowb nx + 13 < q) → (q < 160 ∨ 168 < q) → q ≠ 169 → q ≠ 181 → D2 q = D q) → Q (some (.int (nI j))) D2) →
    Wp (d + 9) 75 Q 44 [.ref 0, .int (-1), .int (nI i), u] [] D1 := by
  have w1 : rowb nx ≤ 141 := by unfold rowb; omega
  have w2 : 29 ≤ rowb nx := by unfold rowb; omega
  intro os
  induction os with
  | nil =>
    intro i V1 D1 u hu hi R hA gA g4 gB g1 g2 gS gf qf qs
    have hi : i = tot := hi
    subst hi
    refine w_ild2 i75_44 ?_
    refine w_ald0 i75_45 ?_
    refine w_gfR i75_46 (by decide) s_0 rfl ?_
    refine w_gfI i75_49 (by decide) s_160 rfl g4 ?_
    refine w_cgeNT i75_52 g75_52 (by omega) (by omega) (by omega) ?_
    refine w_ald0 i75_89 ?_
    refine w_ald0 i75_90 ?_
    refine w_gfR i75_91 (by decide) s_0 rfl ?_
    refine w_gfI i75_94 (by decide) s_160 rfl g4 ?_
    refine w_vI2 i75_97 c85 (Or.inl rfl) ⟨by decide +kernel, by decide⟩ (nv_cons rfl (nv_cons rfl (nv_cons rfl (nv_cons hu nv_nil)))) ⟨rfl, Nat.le_of_ble_eq_true rfl⟩ (K_set g1 h9 g2 h8 (nI_pos' (by omega))) ?_
    refine w_ri i75_100 r75 ?_
    refine qs i V1 rfl _ (R.fr (fun q a b => (mupF (by omega)).trans (mupF (by omega)))) (gB.fr (fun q a b => (mupF (by omega)).trans (mupF (by omega)))) ((mupJ (by decide)).trans mupE) mupE (gS.fr ((mupF (by decide)).trans (mupF (by decide))) ((mupF (by decide)).trans (mupF (by decide)))) (fun q q5 a b c1 e f => (mupF q5).trans ((mupF q5).trans (gf q a b c1 e f)))
  | cons o os ih =>
    intro i V1 D1 u hu hi R hA gA g4 gB g1 g2 gS gf qf qs
    have hi : i + (os.length + 1) = tot := hi
    refine w_ild2 i75_44 ?_
    refine w_ald0 i75_45 ?_
    refine w_gfR i75_46 (by decide) s_0 rfl ?_
    refine w_gfI i75_49 (by decide) s_160 rfl g4 ?_
    refine w_cgeNF i75_52 (by omega) (by omega) (by omega) ?_
    refine w_ald0 i75_55 ?_
    refine w_ild2 i75_56 ?_
    refine w_vG2 i75_57 c97 (Or.inl rfl) ⟨by decide +kernel, by decide⟩ (nv_cons rfl (nv_cons rfl (nv_cons rfl (nv_cons hu nv_nil)))) ⟨rfl, Nat.le_of_ble_eq_true rfl⟩ ?_
    refine K_carryG (o := o) R hA.1 (by omega) (by have := gA 0 (Nat.zero_lt_succ _); exact this) ?_
    show OutX (oOp V1 o) D1 _
    have hok : okF (oOp V1 o) := okF_Do
    cases hO : oOp V1 o with
    | inl w =>
      obtain ⟨x, rs⟩ := w
      rw [hO] at hok
      intro D2 k1 k2 k3
      refine w_ist3 i75_60 ?_
      refine w_ild3 i75_61 ?_
      refine w_igeF i75_62 (okF_lt hok _ _ rfl) ?_
      refine w_ald0 i75_65 ?_
      refine w_gfR i75_66 (by decide) s_0 rfl ?_
      refine w_ald0 i75_69 ?_
      refine w_gfR i75_70 (by decide) s_0 rfl ?_
      refine w_vG2 i75_73 c1 (Or.inl rfl) ⟨by decide +kernel, by decide⟩ rfl ⟨rfl, Nat.le_of_ble_eq_true rfl⟩ ?_
      refine K_takeBack (nx := nx) (gB.fr (fun q a b => k1 q (by omega) (by omega) (by omega))) h12 ho (by rw [k1 155 (by decide) (by decide) (by decide)]; exact g1) h9 (fun D3 r3 f3 => ?_)
      refine w_ald0 i75_76 ?_
      refine w_ild2 i75_77 ?_
      refine w_ild3 i75_78 ?_
      refine w_vG3 i75_79 c103 (Or.inl rfl) ⟨by decide +kernel, by decide⟩ rfl ⟨rfl, Nat.le_of_ble_eq_true rfl⟩ ?_
      refine K_refO (D0 := D) hok (fun e => ?_) (fun D4 r4 f4 => ?_)
      · have := k3 e
        have e1 := f3 157 (Or.inr (by decide))
        have e2 := f3 158 (Or.inr (by decide))
        have e3 := f3 159 (Or.inr (by decide))
        unfold RsC at this ⊢
        rw [e1, e2, e3]
        exact this
      · refine w_ri i75_82 r75 ?_
        refine qf i x rs (runO_l hO) D4 r4 (r3.fr (fun q a b => f4 q (by omega) (by omega) (by omega))) (gS.fr ?_ ?_) ?_ ?_ (fun q a b c1 e f => ?_)
        · rw [f4 169 (by decide) (by decide) (by decide), f3 169 (Or.inr (by decide)), k1 169 (by decide) (by decide) (by decide)]
        · rw [f4 (169 + 12) (by decide) (by decide) (by decide), f3 (169 + 12) (Or.inr (by decide)), k1 (169 + 12) (by decide) (by decide) (by decide)]
        · rw [f4 155 (by decide) (by decide) (by decide), f3 155 (Or.inr (by decide)), k1 155 (by decide) (by decide) (by decide)]; exact g1
        · rw [f4 155 (by decide) (by decide) (by decide), f3 155 (Or.inr (by decide)), k1 155 (by decide) (by decide) (by decide)]; exact g2
        · rw [f4 q (by omega) (by omega) (by omega), f3 q a, k1 q (by omega) (by omega) (by omega)]
          exact gf q a b (by omega) e f
    | inr w =>
      obtain ⟨a, V2⟩ := w
      have hA2 := hA.2 a V2 hO
      intro D2 k1 k2
      refine w_ist3 i75_60 ?_
      refine w_ild3 i75_61 ?_
      refine w_igeT i75_62 g75_62 hA2.1 ?_
      refine w_inc2 i75_83 (inc1 _) ?_
      refine w_goto i75_86 g75_86 ?_
      refine ih (i + 1) V2 D2 _ rfl (by omega) k1 hA2.2 (fun x hx => ?_) ?_ (gB.fr (fun q z1 z2 => k2 q (by omega) (by omega) (by omega) (by omega))) ?_ ?_ (gS.fr (k2 169 (by omega) (by decide) (by decide) (by decide)) (k2 (169 + 12) (by omega) (by decide) (by decide) (by decide))) (gf.s k2) (fun j x rs e => qf j x rs ((runO_r hO).trans e)) (fun j V3 e => qs j V3 ((runO_r hO).trans e))
      · have := gA (x + 1) (Nat.succ_lt_succ hx)
        rw [show i + (x + 1) = i + 1 + x by omega] at this
        exact ArgOK.fr this (fun q a b => congrFun (k2 q (by omega) (by omega) (by omega) (by omega)) _)
      · rw [k2 160 (by omega) (by decide) (by decide) (by decide)]; exact g4
      · rw [k2 155 (by omega) (by decide) (by decide) (by decide)]; exact g1
      · rw [k2 155 (by omega) (by decide) (by decide) (by decide)]; exact g2
theorem pRun_len {U : Nat → Nat} {e : Nat} : ∀ k p, (pRun U e k p).2.2.length ≤ k := by
  intro k
  induction k with
  | zero => intro p; exact Nat.le_refl _
  | succ k ih =>
    intro p
    by_cases h : (pOrd U e p).2.1 = 0
    · rw [pRun_o h]
      show (pRest U e k (pOrd U e p).1).2.2.length + 1 ≤ k + 1
      unfold pRest
      split
      · exact Nat.succ_le_succ (Nat.zero_le _)
      · split
        · exact Nat.succ_le_succ (ih _)
        · exact Nat.succ_le_succ (Nat.zero_le _)
    · rw [pRun_w h]; exact Nat.zero_le _
theorem pRun_len2 {U : Nat → Nat} {e : Nat} : ∀ k p, p ≤ e → (pRun U e k p).2.2.length ≤ e - p := by
  intro k
  induction k with
  | zero => intro p _; exact Nat.zero_le _
  | succ k ih =>
    intro p hp
    have hl := pOrd_le (U := U) (e := e) hp
    by_cases h : (pOrd U e p).2.1 = 0
    · have h4 := hl.2.2.2 h
      rw [pRun_o h]
      show (pRest U e k (pOrd U e p).1).2.2.length + 1 ≤ e - p
      unfold pRest
      split
      · show 0 + 1 ≤ e - p; omega
      · split
        · have := ih ((pOrd U e p).1 + 1) (by omega)
          omega
        · show 0 + 1 ≤ e - p; omega
    · rw [pRun_w h]; exact Nat.zero_le _
theorem pRun_pos {U : Nat → Nat} {e : Nat} : ∀ k p, p ≤ e → (pRun U e k p).1 ≤ e := by
  intro k
  induction k with
  | zero => intro p h; exact h
  | succ k ih =>
    intro p hp
    have hl := pOrd_le (U := U) (e := e) hp
    by_cases h : (pOrd U e p).2.1 = 0
    · rw [pRun_o h]
      show (pRest U e k (pOrd U e p).1).1 ≤ e
      unfold pRest
      split
      · exact hl.2.1
      · split
        · exact ih _ (by omega)
        · exact hl.2.1
    · rw [pRun_w h]; exact hl.2.1
theorem K_run {d : Nat} {D : Mm} {Q : Option Value → Mm → Prop} {n nx c : Nat} {V : Nat → Int32} {tx : List Nat} (R : Rel D n V) (hV0 : V 0 = nI n) (h12 : n ≤ 12) (ho : opV V) (h1 : D 155 1 = nI nx) (h9 : nx < 9) (h2 : D 155 2 = nI c) (h8 : c ≤ 8) (hS : SbR D 169 tx) (h60 : tx.length ≤ 60) (hA : hAllC (pRun (fun i => tx.getD i 0) tx.length 61 0).2.2 V)
    (qw : ¬ (pRun (fun i => tx.getD i 0) tx.length 61 0).2.1 = 0 → ∀ D2, SbR D2 169 [] → (∀ q, (q < 160 ∨ 164 < q) → q ≠ 169 → q ≠ 181 → D2 q = D q) → Q (some (.int (-2000 - nI (pRun (fun i => tx.getD i 0) tx.length 61 0).1))) D2)
    (qf : (pRun (fun i => tx.getD i 0) tx.length 61 0).2.1 = 0 → ∀ j x rs, runO (pRun (fun i => tx.getD i 0) tx.length 61 0).2.2 0 V = .inl (j, x, rs) → ∀ D2, RsC D2 ((nI 16, nI j) :: rs) → Rel D2 n V → SbR D2 169 [] → D2 155 1 = nI nx → D2 155 2 = nI c → (∀ q, (q < 1 ∨ 14 < q) → (q < rowb nx ∨ rowb nx + 13 < q) → (q < 157 ∨ 168 < q) → q ≠ 169 → q ≠ 181 → D2 q = D q) → Q (some (.int (-1014))) D2)
    (qs : (pRun (fun i => tx.getD i 0) tx.length 61 0).2.1 = 0 → ∀ j V2, runO (pRun (fun i => tx.getD i 0) tx.length 61 0).2.2 0 V = .inr (j, V2) → ∀ D2, Rel D2 (cl (V2 0)) V2 → RelB D2 (rowb nx) n V → D2 155 1 = nI ((nx + 1) % 9) → D2 155 2 = nI (min (c + 1) 8) → SbR D2 169 [] → (∀ q, q ≠ 155 → (q < 1 ∨ 14 < q) → (q < rowb nx ∨ rowb nx + 13 < q) → (q < 160 ∨ 168 < q) → q ≠ 169 → q ≠ 181 → D2 q = D q) → Q (some (.int (nI j))) D2) : Ct (d + 10) 75 [.ref 0] D Q := by
  have w1 : rowb nx ≤ 141 := by unfold rowb; omega
  have w2 : 29 ≤ rowb nx := by unfold rowb; omega
  refine ent m75 rfl rfl (ls := [.ref 0, .retAddr 0, .retAddr 0, .retAddr 0]) rfl ?_
  refine w_ald0 i75_0 ?_
  refine w_gfR i75_1 (by decide) s_0 rfl ?_
  refine w_ald0 i75_4 ?_
  refine w_gfR i75_5 (by decide) s_0 rfl ?_
  refine w_vG2 i75_8 c5 (Or.inl rfl) ⟨by decide +kernel, by decide⟩ rfl ⟨rfl, Nat.le_of_ble_eq_true rfl⟩ ?_
  refine K_read hS h60 (fun w D2 f2 g2 => ?_) (fun w D2 f2 g2 g4 gA => ?_)
  · refine w_ist1 i75_11 ?_
    refine w_ald0 i75_12 ?_
    refine w_gfR i75_13 (by decide) s_0 rfl ?_
    refine w_const i75_16 kc_0 ?_
    refine w_vG2 i75_17 c192 (Or.inl rfl) ⟨by decide +kernel, by decide⟩ rfl ⟨rfl, Nat.le_of_ble_eq_true rfl⟩ ?_
    refine K_set_169 g2 (fun D3 g3 f3 => ?_)
    have h61 := h60
    have hp := pRun_pos (U := (fun i => tx.getD i 0)) (e := tx.length) 61 0 (Nat.zero_le _)
    refine w_ild1 i75_20 ?_
    refine w_const i75_21 kc_m1 ?_
    refine w_ceqF i75_22 (fun e => ne1 (by omega) e.symm) ?_
    refine w_sip i75_25 ks_m2000 ?_
    refine w_ild1 i75_28 ?_
    refine w_isub i75_29 rfl ?_
    refine w_ri i75_30 r75 ?_
    exact qw w D3 g3 (fun q a b c1 => (f3 q b c1).trans (f2 q a))
  · refine w_ist1 i75_11 ?_
    refine w_ald0 i75_12 ?_
    refine w_gfR i75_13 (by decide) s_0 rfl ?_
    refine w_const i75_16 kc_0 ?_
    refine w_vG2 i75_17 c192 (Or.inl rfl) ⟨by decide +kernel, by decide⟩ rfl ⟨rfl, Nat.le_of_ble_eq_true rfl⟩ ?_
    refine K_set_169 g2 (fun D3 g3 f3 => ?_)
    have k3 : ∀ q, (q < 160 ∨ 164 < q) → q ≠ 169 → q ≠ 181 → D3 q = D q := fun q a b c1 => (f3 q b c1).trans (f2 q a)
    refine w_ild1 i75_20 ?_
    refine w_const i75_21 kc_m1 ?_
    refine w_ceqT i75_22 g75_22 rfl ?_
    refine w_ald0 i75_31 ?_
    refine w_gfR i75_32 (by decide) s_0 rfl ?_
    refine w_ald0 i75_35 ?_
    refine w_gfR i75_36 (by decide) s_0 rfl ?_
    refine w_vG2 i75_39 c0 (Or.inl rfl) ⟨by decide +kernel, by decide⟩ rfl ⟨rfl, Nat.le_of_ble_eq_true rfl⟩ ?_
    refine K_begin (nx := nx) (R.fr (fun q a b => k3 q (by omega) (by omega) (by omega))) h12 ho (by rw [k3 155 (by omega) (by decide) (by decide)]; exact h1) h9 (fun D4 g5 f5 => ?_)
    have k4 : ∀ q, (q < rowb nx ∨ rowb nx + 13 < q) → (q < 160 ∨ 164 < q) → q ≠ 169 → q ≠ 181 → D4 q = D q := fun q z a b c1 => (f5 q z).trans (k3 q a b c1)
    refine w_const i75_42 kc_0 ?_
    refine w_ist2 i75_43 ?_
    have hlen := pRun_len2 (U := (fun i => tx.getD i 0)) (e := tx.length) 61 0 (Nat.zero_le _)
    refine K_runL (D := D) (n := n) (nx := nx) (c := c) (tot := (pRun (fun i => tx.getD i 0) tx.length 61 0).2.2.length) (V := V) h12 ho h9 h8 (by omega) (pRun (fun i => tx.getD i 0) tx.length 61 0).2.2 0 V D4 _ rfl (Nat.zero_add _) (by rw [hV0, cl_nI (by omega)]; exact R.fr (fun q a b => k4 q (by omega) (by omega) (by omega) (by omega))) hA (fun x hx => ?_) ?_ g5 ?_ ?_ (g3.fr (f5 169 (by omega)) (f5 (169 + 12) (by omega))) (fun q a b c1 e f => k4 q b (by omega) e f) (qf w) (qs w)
    · rw [Nat.zero_add]
      exact (gA x hx).fr (fun q a b => congrFun ((f5 q (by omega)).trans (f3 q (by omega) (by omega))) x)
    · rw [f5 160 (by omega), f3 160 (by decide) (by decide)]; exact g4
    · rw [k4 155 (by omega) (by omega) (by decide) (by decide)]; exact h1
    · rw [k4 155 (by omega) (by omega) (by decide) (by decide)]; exact h2
