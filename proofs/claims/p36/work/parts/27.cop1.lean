/-! the class, what brings and moulds -/
def cRef (D : Mm) (a b : Int32) : Mm := mup (mup (mup (mup D 157 2 (nI 0)) 158 0 a) 159 0 b) 157 2 (nI 1)
def cRef2 (D : Mm) (a b u v : Int32) : Mm := mup (mup (mup (cRef D a b) 158 1 u) 159 1 v) 157 2 (nI 2)
def RsC (D : Mm) (rs : List (Int32 × Int32)) : Prop := match rs with
  | [] => D 157 2 = nI 0
  | [(a, b)] => D 157 2 = nI 1 ∧ D 158 0 = a ∧ D 159 0 = b
  | [(a, b), (u, v)] => D 157 2 = nI 2 ∧ D 158 0 = a ∧ D 159 0 = b ∧ D 158 1 = u ∧ D 159 1 = v
  | (a, b) :: (u, v) :: (y, z) :: _ => D 157 2 = nI 3 ∧ D 158 0 = a ∧ D 159 0 = b ∧ D 158 1 = u ∧ D 159 1 = v ∧ D 158 2 = y ∧ D 159 2 = z
theorem cRef_q {D : Mm} {a b : Int32} {q : Nat} (h1 : q ≠ 157) (h2 : q ≠ 158) (h3 : q ≠ 159) : cRef D a b q = D q := by unfold cRef; rw [mupF h1, mupF h3, mupF h2, mupF h1]
theorem cRef2_q {D : Mm} {a b u v : Int32} {q : Nat} (h1 : q ≠ 157) (h2 : q ≠ 158) (h3 : q ≠ 159) : cRef2 D a b u v q = D q := by unfold cRef2; rw [mupF h1, mupF h3, mupF h2, cRef_q h1 h2 h3]
theorem RsC_1 {D : Mm} {a b : Int32} : RsC (cRef D a b) [(a, b)] := ⟨mupE, (mupC (by decide)).trans ((mupC (by decide)).trans mupE), (mupC (by decide)).trans mupE⟩
theorem RsC_2 {D : Mm} {a b u v : Int32} : RsC (cRef2 D a b u v) [(a, b), (u, v)] := ⟨mupE, (mupC (by decide)).trans ((mupC (by decide)).trans ((mupJ (by decide)).trans RsC_1.2.1)), (mupC (by decide)).trans ((mupJ (by decide)).trans ((mupC (by decide)).trans RsC_1.2.2)), (mupC (by decide)).trans ((mupC (by decide)).trans mupE), (mupC (by decide)).trans mupE⟩
def FrC (D D2 : Mm) : Prop := ∀ q, (q < 1 ∨ 14 < q) → D2 q = D q
theorem FrC.rf {D : Mm} : FrC D D := fun _ _ => rfl
theorem FrC.tr {D D2 D3 : Mm} (h : FrC D D2) (g : FrC D2 D3) : FrC D D3 := fun q a => (g q a).trans (h q a)
theorem FrC.u {D D2 : Mm} {c j : Nat} {x : Int32} (h : FrC D D2) (h1 : 1 ≤ c) (h2 : c ≤ 14) : FrC D (mup D2 c j x) := fun q a => (mupF (by omega)).trans (h q a)
def OutX (o : Out) (D : Mm) (Q : Option Value → Mm → Prop) : Prop := match o with
  | .inl (x, rs) => ∀ D2 : Mm, (∀ q, q ≠ 157 → q ≠ 158 → q ≠ 159 → D2 q = D q) → (rs = [] → D2 = D) → (rs ≠ [] → RsC D2 rs) → Q (some (.int x)) D2
  | .inr (a, V2) => ∀ D2 : Mm, Rel D2 (cl (V2 0)) V2 → (∀ q, (q < 1 ∨ 14 < q) → q ≠ 166 → q ≠ 167 → q ≠ 168 → D2 q = D q) → Q (some (.int a)) D2
theorem OutXT {p : Prop} {a b : Out} {D : Mm} {Q : Option Value → Mm → Prop} (h : OutX (ifp p a b) D Q) (hp : p) : OutX a D Q := by rw [ifp_t hp] at h; exact h
theorem OutXF {p : Prop} {a b : Out} {D : Mm} {Q : Option Value → Mm → Prop} (h : OutX (ifp p a b) D Q) (hp : ¬ p) : OutX b D Q := by rw [ifp_f hp] at h; exact h
theorem OutX_n {x : Int32} {D : Mm} {Q : Option Value → Mm → Prop} (h : OutX (.inl (x, [])) D Q) : Q (some (.int x)) D := h D (fun _ _ _ _ => rfl) (fun _ => rfl) (fun e => absurd rfl e)
theorem OutX_1 {a b : Int32} {D : Mm} {Q : Option Value → Mm → Prop} (h : OutX (.inl (-1014, [(a, b)])) D Q) : Q (some (.int (-1014))) (cRef D a b) := h _ (fun _ a b c => cRef_q a b c) (fun e => by cases e) (fun _ => RsC_1)
theorem OutX_2 {a b u v : Int32} {D : Mm} {Q : Option Value → Mm → Prop} (h : OutX (.inl (-1014, [(a, b), (u, v)])) D Q) : Q (some (.int (-1014))) (cRef2 D a b u v) := h _ (fun _ a b c => cRef2_q a b c) (fun e => by cases e) (fun _ => RsC_2)
theorem OutX_s {a : Int32} {V2 : Nat → Int32} {m : Nat} {D D2 : Mm} {Q : Option Value → Mm → Prop} (h : OutX (.inr (a, V2)) D Q) (R : Rel D2 m V2) (e : V2 0 = nI m) (hm : m ≤ 12) (f : FrC D D2) : Q (some (.int a)) D2 := h D2 (by rw [e, cl_nI (by omega)]; exact R) (fun q hq _ _ _ => f q hq)
theorem OutXr {o : Out} {D : Mm} {Q Q2 : Option Value → Mm → Prop} (h : OutX o D Q) (hq : ∀ a D2, Q (some (.int a)) D2 → Q2 (some (.int a)) D2) : OutX o D Q2 := by
  unfold OutX at h ⊢
  split
  · intro D2 h1 h2 h3
    exact hq _ _ (h D2 h1 h2 h3)
  · intro D2 h1 h2
    exact hq _ _ (h D2 h1 h2)
theorem mT_lo {n j : Nat} {V : Nat → Int32} {x h : Int32} (hj : j < 30) : mTray n (vup V j x) h = mTray n V h := by
  unfold mTray
  refine sum_congr (fun s _ => ?_)
  rw [updJ (by omega), updJ (by omega)]
set_option maxHeartbeats 100000 in
theorem K_clear {d : Nat} {D : Mm} : Ct (d + 1) 12 [.ref 157] D (Ex (none) (mup (D) 157 2 (nI 0))) := by
  refine ent m12 rfl rfl (ls := [.ref 157]) rfl ?_
  refine w_ald0 i12_0 ?_
  refine w_const i12_1 kc_0 ?_
  refine w_pf0 i12_2 (by decide) s_157 rfl ?_
  refine w_rv i12_5 r12 ?_
  exact ⟨rfl, rfl⟩
set_option maxHeartbeats 100000 in
theorem K_putB {d : Nat} {D : Mm} {c : Nat} (hc : D 157 2 = nI c) (h3 : c < 3) {a b : Int32} : Ct (d + 1) 13 [.ref 157, .int a, .int b] D (Ex (none) (mup (mup (mup (D) 158 c (a)) 159 c (b)) 157 2 (nI (c + 1)))) := by
  refine ent m13 rfl rfl (ls := [.ref 157, .int a, .int b]) rfl ?_
  refine w_ald0 i13_0 ?_
  refine w_gfI i13_1 (by decide) s_157 rfl hc ?_
  refine w_const i13_4 kc_3 ?_
  refine w_cgeNF i13_5 (by omega) (by omega) (by omega) ?_
  refine w_ald0 i13_8 ?_
  refine w_gfR i13_9 (by decide) s_157 rfl ?_
  refine w_ald0 i13_12 ?_
  refine w_gfI i13_13 (by decide) s_157 rfl hc ?_
  refine w_ild1 i13_16 ?_
  refine w_ias i13_17 s_158 (by decide) (by omega) ?_
  refine w_ald0 i13_18 ?_
  refine w_gfR i13_19 (by decide) s_157 rfl ?_
  refine w_ald0 i13_22 ?_
  refine w_gfI i13_23 (by decide) s_157 rfl ((mupC (by decide)).trans hc) ?_
  refine w_ild2 i13_26 ?_
  refine w_ias i13_27 s_159 (by decide) (by omega) ?_
  refine w_ald0 i13_28 ?_
  refine w_dup i13_29 rfl ?_
  refine w_gfI i13_30 (by decide) s_157 rfl ((mupC (by decide)).trans ((mupC (by decide)).trans hc)) ?_
  refine w_const i13_33 kc_1 ?_
  refine w_iadd i13_34 (nI_add _ _) ?_
  refine w_pf0 i13_35 (by decide) s_157 rfl ?_
  refine w_rv i13_38 r13 ?_
  exact ⟨rfl, rfl⟩
set_option maxHeartbeats 100000 in
theorem K_refuse {d : Nat} {D : Mm} {a b : Int32} : Ct (d + 2) 102 [.ref 0, .int a, .int b] D (Ex (some (.int (-1014))) (cRef D a b)) := by
  refine ent m102 rfl rfl (ls := [.ref 0, .int a, .int b]) rfl ?_
  refine w_ald0 i102_0 ?_
  refine w_gfR i102_1 (by decide) s_0 rfl ?_
  refine w_vV1 i102_4 c12 (Or.inl rfl) ⟨by decide +kernel, by decide⟩ rfl ⟨rfl, Nat.le_of_ble_eq_true rfl⟩ K_clear ?_
  refine w_ald0 i102_7 ?_
  refine w_gfR i102_8 (by decide) s_0 rfl ?_
  refine w_ild1 i102_11 ?_
  refine w_ild2 i102_12 ?_
  refine w_vV3 i102_13 c13 (Or.inl rfl) ⟨by decide +kernel, by decide⟩ rfl ⟨rfl, Nat.le_of_ble_eq_true rfl⟩ (K_putB mupE (by decide)) ?_
  refine w_sip i102_16 ks_m1014 ?_
  refine w_ri i102_19 r102 ?_
  exact ⟨rfl, rfl⟩
set_option maxHeartbeats 100000 in
theorem K_forgive {d : Nat} {D : Mm} {s : Nat} (hs : s < 12) : Ct (d + 1) 38 [.ref 2, .int (nI s)] D (Ex (none) (mup (mup (D) 6 s (-1)) 7 s (nI 0))) := by
  refine ent m38 rfl rfl (ls := [.ref 2, .int (nI s)]) rfl ?_
  refine w_ald0 i38_0 ?_
  refine w_gfR i38_1 (by decide) s_2 rfl ?_
  refine w_ild1 i38_4 ?_
  refine w_const i38_5 kc_m1 ?_
  refine w_ias i38_6 s_6 (by decide) (by omega) ?_
  refine w_ald0 i38_7 ?_
  refine w_gfR i38_8 (by decide) s_2 rfl ?_
  refine w_ild1 i38_11 ?_
  refine w_const i38_12 kc_0 ?_
  refine w_ias i38_13 s_7 (by decide) (by omega) ?_
  refine w_rv i38_14 r38 ?_
  exact ⟨rfl, rfl⟩
set_option maxHeartbeats 100000 in
theorem K_release {d : Nat} {D : Mm} {s : Nat} (hs : s < 12) : Ct (d + 1) 39 [.ref 2, .int (nI s)] D (Ex (none) (mup (mup (D) 8 s (-1)) 9 s (nI 0))) := by
  refine ent m39 rfl rfl (ls := [.ref 2, .int (nI s)]) rfl ?_
  refine w_ald0 i39_0 ?_
  refine w_gfR i39_1 (by decide) s_2 rfl ?_
  refine w_ild1 i39_4 ?_
  refine w_const i39_5 kc_m1 ?_
  refine w_ias i39_6 s_8 (by decide) (by omega) ?_
  refine w_ald0 i39_7 ?_
  refine w_gfR i39_8 (by decide) s_2 rfl ?_
  refine w_ild1 i39_11 ?_
  refine w_const i39_12 kc_0 ?_
  refine w_ias i39_13 s_9 (by decide) (by omega) ?_
  refine w_rv i39_14 r39 ?_
  exact ⟨rfl, rfl⟩
set_option maxHeartbeats 100000 in
theorem K_put {d : Nat} {D : Mm} {n : Nat} (hn : D 2 8 = nI n) (h12 : n < 12) {h w k : Int32} : Ct (d + 2) 35 [.ref 2, .int h, .int w, .int k] D (Ex (some (.int (nI n))) (mup (mup (mup (mup (mup (mup (mup (mup (mup (D) 3 n (h)) 4 n (w)) 5 n (k)) 6 n (-1)) 7 n (nI 0)) 8 n (-1)) 9 n (nI 0)) 10 n (nI 0)) 2 8 (nI (n + 1)))) := by
  refine ent m35 rfl rfl (ls := [.ref 2, .int h, .int w, .int k, .retAddr 0]) rfl ?_
  refine w_ald0 i35_0 ?_
  refine w_gfI i35_1 (by decide) s_2 rfl hn ?_
  refine w_ist4 i35_4 ?_
  refine w_ald0 i35_6 ?_
  refine w_gfR i35_7 (by decide) s_2 rfl ?_
  refine w_ild4 i35_10 ?_
  refine w_ild1 i35_12 ?_
  refine w_ias i35_13 s_3 (by decide) (by omega) ?_
  refine w_ald0 i35_14 ?_
  refine w_gfR i35_15 (by decide) s_2 rfl ?_
  refine w_ild4 i35_18 ?_
  refine w_ild2 i35_20 ?_
  refine w_ias i35_21 s_4 (by decide) (by omega) ?_
  refine w_ald0 i35_22 ?_
  refine w_gfR i35_23 (by decide) s_2 rfl ?_
  refine w_ild4 i35_26 ?_
  refine w_ild3 i35_28 ?_
  refine w_ias i35_29 s_5 (by decide) (by omega) ?_
  refine w_ald0 i35_30 ?_
  refine w_ild4 i35_31 ?_
  refine w_vV2 i35_33 c38 (Or.inl rfl) ⟨by decide +kernel, by decide⟩ rfl ⟨rfl, Nat.le_of_ble_eq_true rfl⟩ (K_forgive h12) ?_
  refine w_ald0 i35_36 ?_
  refine w_ild4 i35_37 ?_
  refine w_vV2 i35_39 c39 (Or.inl rfl) ⟨by decide +kernel, by decide⟩ rfl ⟨rfl, Nat.le_of_ble_eq_true rfl⟩ (K_release h12) ?_
  refine w_ald0 i35_42 ?_
  refine w_gfR i35_43 (by decide) s_2 rfl ?_
  refine w_ild4 i35_46 ?_
  refine w_const i35_48 kc_0 ?_
  refine w_ias i35_49 s_10 (by decide) (by omega) ?_
  refine w_ald0 i35_50 ?_
  refine w_dup i35_51 rfl ?_
  refine w_gfI i35_52 (by decide) s_2 rfl ((mupC (by decide)).trans ((mupC (by decide)).trans ((mupC (by decide)).trans ((mupC (by decide)).trans ((mupC (by decide)).trans ((mupC (by decide)).trans ((mupC (by decide)).trans ((mupC (by decide)).trans (hn))))))))) ?_
  refine w_const i35_55 kc_1 ?_
  refine w_iadd i35_56 (nI_add _ _) ?_
  refine w_pf0 i35_57 (by decide) s_2 rfl ?_
  refine w_ild4 i35_60 ?_
  refine w_ri i35_62 r35 ?_
  exact ⟨rfl, rfl⟩
theorem clr_lo {V : Nat → Int32} {n j : Nat} (h : j < 30 + 8 * n) : clr V n 8 j = V j := by unfold clr; rw [if_neg (by omega)]
theorem clr_at {V : Nat → Int32} {n j : Nat} (h : 30 + 8 * n ≤ j) (g : j < 38 + 8 * n) : clr V n 8 j = nI 0 := by unfold clr; rw [if_pos (by omega)]
theorem vMk_lo {V : Nat → Int32} {n j : Nat} {h w k : Int32} (g : j < 30 + 8 * n) (g0 : 0 < j) : vMk V n h w k j = V j := by unfold vMk; rw [updJ (by omega), updJ (by omega), updJ (by omega), updJ (by omega), clr_lo g]
theorem vMk_hi {V : Nat → Int32} {n j : Nat} {h w k : Int32} (g : 33 + 8 * n ≤ j) (g0 : j < 38 + 8 * n) : vMk V n h w k j = nI 0 := by unfold vMk; rw [updJ (by omega), updJ (by omega), updJ (by omega), updJ (by omega), clr_at (by omega) g0]
theorem vMk_a {V : Nat → Int32} {n : Nat} {h w k : Int32} : vMk V n h w k (30 + 8 * n + 0) = h := by unfold vMk; rw [updJ (by omega), updJ (by omega), updJ (by omega), updE]
theorem vMk_b {V : Nat → Int32} {n : Nat} {h w k : Int32} : vMk V n h w k (30 + 8 * n + 1) = w := by unfold vMk; rw [updJ (by omega), updJ (by omega), updE]
theorem vMk_c {V : Nat → Int32} {n : Nat} {h w k : Int32} : vMk V n h w k (30 + 8 * n + 2) = k := by unfold vMk; rw [updJ (by omega), updE]
theorem vMk_0 {V : Nat → Int32} {n : Nat} {h w k : Int32} : vMk V n h w k 0 = nI (n + 1) := by unfold vMk; rw [updE]
theorem neg1E : (-1 : Int32) = nI 0 - nI 1 := by decide
theorem rel_put {D : Mm} {n : Nat} {V : Nat → Int32} (R : Rel D n V) {h w k : Int32} : Rel (mup (mup (mup (mup (mup (mup (mup (mup (mup (D) 3 n (h)) 4 n (w)) 5 n (k)) 6 n (-1)) 7 n (nI 0)) 8 n (-1)) 9 n (nI 0)) 10 n (nI 0)) 2 8 (nI (n + 1))) (n + 1) (vMk V n h w k) := by
  refine Rel.i (mupE) ((mupC (by decide)).trans ((mupC (by decide)).trans ((mupC (by decide)).trans ((mupC (by decide)).trans ((mupC (by decide)).trans ((mupC (by decide)).trans ((mupC (by decide)).trans ((mupC (by decide)).trans ((mupC (by decide)).trans ((R.pl).trans ((mP_congr (fun i hi => vMk_lo (by omega) (by omega))).symm))))))))))) ((mupC (by decide)).trans ((mupC (by decide)).trans ((mupC (by decide)).trans ((mupC (by decide)).trans ((mupC (by decide)).trans ((mupC (by decide)).trans ((mupC (by decide)).trans ((mupC (by decide)).trans ((mupC (by decide)).trans ((R.f6).trans ((vMk_lo (by omega) (by omega)).symm))))))))))) ((mupC (by decide)).trans ((mupC (by decide)).trans ((mupC (by decide)).trans ((mupC (by decide)).trans ((mupC (by decide)).trans ((mupC (by decide)).trans ((mupC (by decide)).trans ((mupC (by decide)).trans ((mupC (by decide)).trans ((R.f7).trans ((vMk_lo (by omega) (by omega)).symm))))))))))) ((mupC (by decide)).trans ((mupC (by decide)).trans ((mupC (by decide)).trans ((mupC (by decide)).trans ((mupC (by decide)).trans ((mupC (by decide)).trans ((mupC (by decide)).trans ((mupC (by decide)).trans ((mupC (by decide)).trans ((R.f8).trans ((vMk_lo (by omega) (by omega)).symm))))))))))) ((mupC (by decide)).trans ((mupC (by decide)).trans ((mupC (by decide)).trans ((mupC (by decide)).trans ((mupC (by decide)).trans ((mupC (by decide)).trans ((mupC (by decide)).trans ((mupC (by decide)).trans ((mupC (by decide)).trans ((R.f9).trans ((vMk_lo (by omega) (by omega)).symm))))))))))) ((mupC (by decide)).trans ((mupC (by decide)).trans ((mupC (by decide)).trans ((mupC (by decide)).trans ((mupC (by decide)).trans ((mupC (by decide)).trans ((mupC (by decide)).trans ((mupC (by decide)).trans ((mupC (by decide)).trans ((R.f10).trans ((vMk_lo (by omega) (by omega)).symm))))))))))) (fun s hs => ?_) (fun h hh => ?_)
  · by_cases e : s = n
    · subst e
      exact ⟨((mupC (by decide)).trans ((mupC (by decide)).trans ((mupC (by decide)).trans ((mupC (by decide)).trans ((mupC (by decide)).trans ((mupC (by decide)).trans ((mupC (by decide)).trans ((mupC (by decide)).trans ((mupE).trans (vMk_a.symm)))))))))), ((mupC (by decide)).trans ((mupC (by decide)).trans ((mupC (by decide)).trans ((mupC (by decide)).trans ((mupC (by decide)).trans ((mupC (by decide)).trans ((mupC (by decide)).trans ((mupE).trans (vMk_b.symm))))))))), ((mupC (by decide)).trans ((mupC (by decide)).trans ((mupC (by decide)).trans ((mupC (by decide)).trans ((mupC (by decide)).trans ((mupC (by decide)).trans ((mupE).trans (vMk_c.symm)))))))), ((mupC (by decide)).trans ((mupC (by decide)).trans ((mupC (by decide)).trans ((mupC (by decide)).trans ((mupC (by decide)).trans ((mupE).trans (neg1E.trans (congrArg (· - nI 1) (vMk_hi (by omega) (by omega))).symm))))))), ((mupC (by decide)).trans ((mupC (by decide)).trans ((mupC (by decide)).trans ((mupC (by decide)).trans ((mupE).trans ((vMk_hi (by omega) (by omega)).symm)))))), ((mupC (by decide)).trans ((mupC (by decide)).trans ((mupC (by decide)).trans ((mupE).trans (neg1E.trans (congrArg (· - nI 1) (vMk_hi (by omega) (by omega))).symm))))), ((mupC (by decide)).trans ((mupC (by decide)).trans ((mupE).trans ((vMk_hi (by omega) (by omega)).symm)))), ((mupC (by decide)).trans ((mupE).trans ((vMk_hi (by omega) (by omega)).symm)))⟩
    · have hs : s < n := by omega
      exact ⟨((mupC (by decide)).trans ((mupC (by decide)).trans ((mupC (by decide)).trans ((mupC (by decide)).trans ((mupC (by decide)).trans ((mupC (by decide)).trans ((mupC (by decide)).trans ((mupC (by decide)).trans ((mupJ (by omega)).trans ((R.c3 hs).trans ((vMk_lo (by omega) (by omega)).symm))))))))))), ((mupC (by decide)).trans ((mupC (by decide)).trans ((mupC (by decide)).trans ((mupC (by decide)).trans ((mupC (by decide)).trans ((mupC (by decide)).trans ((mupC (by decide)).trans ((mupJ (by omega)).trans ((mupC (by decide)).trans ((R.c4 hs).trans ((vMk_lo (by omega) (by omega)).symm))))))))))), ((mupC (by decide)).trans ((mupC (by decide)).trans ((mupC (by decide)).trans ((mupC (by decide)).trans ((mupC (by decide)).trans ((mupC (by decide)).trans ((mupJ (by omega)).trans ((mupC (by decide)).trans ((mupC (by decide)).trans ((R.c5 hs).trans ((vMk_lo (by omega) (by omega)).symm))))))))))), ((mupC (by decide)).trans ((mupC (by decide)).trans ((mupC (by decide)).trans ((mupC (by decide)).trans ((mupC (by decide)).trans ((mupJ (by omega)).trans ((mupC (by decide)).trans ((mupC (by decide)).trans ((mupC (by decide)).trans ((R.c6 hs).trans ((congrArg (· - nI 1) (vMk_lo (by omega) (by omega))).symm))))))))))), ((mupC (by decide)).trans ((mupC (by decide)).trans ((mupC (by decide)).trans ((mupC (by decide)).trans ((mupJ (by omega)).trans ((mupC (by decide)).trans ((mupC (by decide)).trans ((mupC (by decide)).trans ((mupC (by decide)).trans ((R.c7 hs).trans ((vMk_lo (by omega) (by omega)).symm))))))))))), ((mupC (by decide)).trans ((mupC (by decide)).trans ((mupC (by decide)).trans ((mupJ (by omega)).trans ((mupC (by decide)).trans ((mupC (by decide)).trans ((mupC (by decide)).trans ((mupC (by decide)).trans ((mupC (by decide)).trans ((R.c8 hs).trans ((congrArg (· - nI 1) (vMk_lo (by omega) (by omega))).symm))))))))))), ((mupC (by decide)).trans ((mupC (by decide)).trans ((mupJ (by omega)).trans ((mupC (by decide)).trans ((mupC (by decide)).trans ((mupC (by decide)).trans ((mupC (by decide)).trans ((mupC (by decide)).trans ((mupC (by decide)).trans ((R.c9 hs).trans ((vMk_lo (by omega) (by omega)).symm))))))))))), ((mupC (by decide)).trans ((mupJ (by omega)).trans ((mupC (by decide)).trans ((mupC (by decide)).trans ((mupC (by decide)).trans ((mupC (by decide)).trans ((mupC (by decide)).trans ((mupC (by decide)).trans ((mupC (by decide)).trans ((R.c10 hs).trans ((vMk_lo (by omega) (by omega)).symm)))))))))))⟩
  · exact ⟨((mupC (by decide)).trans ((mupC (by decide)).trans ((mupC (by decide)).trans ((mupC (by decide)).trans ((mupC (by decide)).trans ((mupC (by decide)).trans ((mupC (by decide)).trans ((mupC (by decide)).trans ((mupC (by decide)).trans ((R.c11 hh).trans ((vMk_lo (by omega) (by omega)).symm))))))))))), ((mupC (by decide)).trans ((mupC (by decide)).trans ((mupC (by decide)).trans ((mupC (by decide)).trans ((mupC (by decide)).trans ((mupC (by decide)).trans ((mupC (by decide)).trans ((mupC (by decide)).trans ((mupC (by decide)).trans ((R.c12 hh).trans ((vMk_lo (by omega) (by omega)).symm))))))))))), ((mupC (by decide)).trans ((mupC (by decide)).trans ((mupC (by decide)).trans ((mupC (by decide)).trans ((mupC (by decide)).trans ((mupC (by decide)).trans ((mupC (by decide)).trans ((mupC (by decide)).trans ((mupC (by decide)).trans ((R.c13 hh).trans ((vMk_lo (by omega) (by omega)).symm))))))))))), ((mupC (by decide)).trans ((mupC (by decide)).trans ((mupC (by decide)).trans ((mupC (by decide)).trans ((mupC (by decide)).trans ((mupC (by decide)).trans ((mupC (by decide)).trans ((mupC (by decide)).trans ((mupC (by decide)).trans ((R.c14 hh).trans ((vMk_lo (by omega) (by omega)).symm)))))))))))⟩
theorem fr_put {D : Mm} {n : Nat} {h w k : Int32} : FrC D (mup (mup (mup (mup (mup (mup (mup (mup (mup (D) 3 n (h)) 4 n (w)) 5 n (k)) 6 n (-1)) 7 n (nI 0)) 8 n (-1)) 9 n (nI 0)) 10 n (nI 0)) 2 8 (nI (n + 1))) := FrC.u (FrC.u (FrC.u (FrC.u (FrC.u (FrC.u (FrC.u (FrC.u (FrC.u (FrC.rf) (by decide) (by decide)) (by decide) (by decide)) (by decide) (by decide)) (by decide) (by decide)) (by decide) (by decide)) (by decide) (by decide)) (by decide) (by decide)) (by decide) (by decide)) (by decide) (by decide)
set_option maxHeartbeats 100000 in
theorem K_room_ok {d : Nat} {D : Mm} {n : Nat} {V : Nat → Int32} (R : Rel D n V) (h12 : n ≤ 12) {j : Nat} {w : Int32} (h1 : mTray n V (nI j) + w + nI 1 ≤ nI 60) (h2 : n ≠ 12) : Ct (d + 3) 88 [.ref 0, .int (nI j), .int w] D (Ex (some (.int (nI 1))) (D)) := by
  refine ent m88 rfl rfl (ls := [.ref 0, .int (nI j), .int w, .retAddr 0]) rfl ?_
  refine w_ald0 i88_0 ?_
  refine w_gfR i88_1 (by decide) s_0 rfl ?_
  refine w_gfR i88_4 (by decide) s_1 rfl ?_
  refine w_ild1 i88_7 ?_
  refine w_vI2 i88_8 c43 (Or.inl rfl) ⟨by decide +kernel, by decide⟩ rfl ⟨rfl, Nat.le_of_ble_eq_true rfl⟩ (K_weightOn R h12) ?_
  refine w_ild2 i88_11 ?_
  refine w_iadd i88_12 rfl ?_
  refine w_const i88_13 kc_1 ?_
  refine w_iadd i88_14 rfl ?_
  refine w_ist3 i88_15 ?_
  refine w_ild3 i88_16 ?_
  refine w_bip i88_17 kb_60 ?_
  refine w_cleT i88_19 g88_19  h1 ?_
  refine w_ald0 i88_31 ?_
  refine w_gfR i88_32 (by decide) s_0 rfl ?_
  refine w_gfR i88_35 (by decide) s_1 rfl ?_
  refine w_gfI i88_38 (by decide) s_2 rfl R.ct ?_
  refine w_bip i88_41 kb_12 ?_
  refine w_cltNT i88_43 g88_43 (by omega) (by omega) (by omega) ?_
  refine w_const i88_64 kc_1 ?_
  refine w_rz i88_65 r88 nar_z1 ?_
  exact ⟨rfl, rfl⟩
set_option maxHeartbeats 100000 in
theorem K_room_full {d : Nat} {D : Mm} {n : Nat} {V : Nat → Int32} (R : Rel D n V) (h12 : n ≤ 12) {j : Nat} {w : Int32} (h1 : mTray n V (nI j) + w + nI 1 ≤ nI 60) (h2 : n = 12) : Ct (d + 3) 88 [.ref 0, .int (nI j), .int w] D (Ex (some (.int (nI 0))) (cRef D (nI 1) (nI n))) := by
  refine ent m88 rfl rfl (ls := [.ref 0, .int (nI j), .int w, .retAddr 0]) rfl ?_
  refine w_ald0 i88_0 ?_
  refine w_gfR i88_1 (by decide) s_0 rfl ?_
  refine w_gfR i88_4 (by decide) s_1 rfl ?_
  refine w_ild1 i88_7 ?_
  refine w_vI2 i88_8 c43 (Or.inl rfl) ⟨by decide +kernel, by decide⟩ rfl ⟨rfl, Nat.le_of_ble_eq_true rfl⟩ (K_weightOn R h12) ?_
  refine w_ild2 i88_11 ?_
  refine w_iadd i88_12 rfl ?_
  refine w_const i88_13 kc_1 ?_
  refine w_iadd i88_14 rfl ?_
  refine w_ist3 i88_15 ?_
  refine w_ild3 i88_16 ?_
  refine w_bip i88_17 kb_60 ?_
  refine w_cleT i88_19 g88_19  h1 ?_
  refine w_ald0 i88_31 ?_
  refine w_gfR i88_32 (by decide) s_0 rfl ?_
  refine w_gfR i88_35 (by decide) s_1 rfl ?_
  refine w_gfI i88_38 (by decide) s_2 rfl R.ct ?_
  refine w_bip i88_41 kb_12 ?_
  refine w_cltNF i88_43 (by omega) (by omega) (by omega) ?_
  refine w_ald0 i88_46 ?_
  refine w_const i88_47 kc_1 ?_
  refine w_ald0 i88_48 ?_
  refine w_gfR i88_49 (by decide) s_0 rfl ?_
  refine w_gfR i88_52 (by decide) s_1 rfl ?_
  refine w_gfI i88_55 (by decide) s_2 rfl R.ct ?_
  refine w_vI3 i88_58 c102 (Or.inl rfl) ⟨by decide +kernel, by decide⟩ rfl ⟨rfl, Nat.le_of_ble_eq_true rfl⟩ K_refuse ?_
  refine w_pop i88_61 rfl ?_
  refine w_const i88_62 kc_0 ?_
  refine w_rz i88_63 r88 nar_z0 ?_
  exact ⟨rfl, rfl⟩
set_option maxHeartbeats 100000 in
theorem K_room_tray {d : Nat} {D : Mm} {n : Nat} {V : Nat → Int32} (R : Rel D n V) (h12 : n ≤ 12) {j : Nat} {w : Int32} (h1 : ¬ mTray n V (nI j) + w + nI 1 ≤ nI 60) : Ct (d + 3) 88 [.ref 0, .int (nI j), .int w] D (Ex (some (.int (nI 0))) (cRef D (nI 3) (mTray n V (nI j) + w + nI 1))) := by
  refine ent m88 rfl rfl (ls := [.ref 0, .int (nI j), .int w, .retAddr 0]) rfl ?_
  refine w_ald0 i88_0 ?_
  refine w_gfR i88_1 (by decide) s_0 rfl ?_
  refine w_gfR i88_4 (by decide) s_1 rfl ?_
  refine w_ild1 i88_7 ?_
  refine w_vI2 i88_8 c43 (Or.inl rfl) ⟨by decide +kernel, by decide⟩ rfl ⟨rfl, Nat.le_of_ble_eq_true rfl⟩ (K_weightOn R h12) ?_
  refine w_ild2 i88_11 ?_
  refine w_iadd i88_12 rfl ?_
  refine w_const i88_13 kc_1 ?_
  refine w_iadd i88_14 rfl ?_
  refine w_ist3 i88_15 ?_
  refine w_ild3 i88_16 ?_
  refine w_bip i88_17 kb_60 ?_
  refine w_cleF i88_19  (Int32.not_le.mp h1) ?_
  refine w_ald0 i88_22 ?_
  refine w_const i88_23 kc_3 ?_
  refine w_ild3 i88_24 ?_
  refine w_vI3 i88_25 c102 (Or.inl rfl) ⟨by decide +kernel, by decide⟩ rfl ⟨rfl, Nat.le_of_ble_eq_true rfl⟩ K_refuse ?_
  refine w_pop i88_28 rfl ?_
  refine w_const i88_29 kc_0 ?_
  refine w_rz i88_30 r88 nar_z0 ?_
  exact ⟨rfl, rfl⟩
set_option maxHeartbeats 100000 in
theorem K_S_bad {d : Nat} {D : Mm} {Q : Option Value → Mm → Prop} {a w k : Int32} (hb : badH a) (h : OutX (.inl (-1011, [])) D Q) : Ct (d + 4) 86 [.ref 0, .int a, .int w, .int k] D Q := by
  refine ent m86 rfl rfl (ls := [.ref 0, .int a, .int w, .int k]) rfl ?_
  refine w_ild1 i86_0 ?_
  refine w_sI1 i86_1 c99 rfl  rfl ⟨rfl, Nat.le_of_ble_eq_true rfl⟩ (K_isHouse_f hb) ?_
  refine w_ineNF i86_4 (by omega) (by omega) ?_
  refine w_sip i86_7 ks_m1011 ?_
  refine w_ri i86_10 r86 ?_
  exact OutX_n h
set_option maxHeartbeats 100000 in
theorem K_M_bad {d : Nat} {D : Mm} {Q : Option Value → Mm → Prop} {a w k : Int32} (hb : badH a) (h : OutX (.inl (-1011, [])) D Q) : Ct (d + 4) 87 [.ref 0, .int a, .int w, .int k] D Q := by
  refine ent m87 rfl rfl (ls := [.ref 0, .int a, .int w, .int k]) rfl ?_
  refine w_ild1 i87_0 ?_
  refine w_sI1 i87_1 c99 rfl  rfl ⟨rfl, Nat.le_of_ble_eq_true rfl⟩ (K_isHouse_f hb) ?_
  refine w_ineNF i87_4 (by omega) (by omega) ?_
  refine w_sip i87_7 ks_m1011 ?_
  refine w_ri i87_10 r87 ?_
  exact OutX_n h
theorem room3 {n : Nat} (x : Int32) : (x ≤ nI 60 ∧ n ≠ 12) ∨ (x ≤ nI 60 ∧ n = 12) ∨ ¬ x ≤ nI 60 := by
  by_cases h : x ≤ nI 60
  · by_cases g : n = 12
    · exact Or.inr (Or.inl ⟨h, g⟩)
    · exact Or.inl ⟨h, g⟩
  · exact Or.inr (Or.inr h)
set_option maxHeartbeats 100000 in
theorem K_S {d : Nat} {D : Mm} {Q : Option Value → Mm → Prop} {n : Nat} {V : Nat → Int32} (R : Rel D n V) (h12 : n ≤ 12) (hn : V 0 = nI n) (ho : opV V) {j : Nat} (hj : j < 6) {w k : Int32} (h : OutX (vComes n V j w k) D Q) : Ct (d + 4) 86 [.ref 0, .int (nI j), .int w, .int k] D Q := by
  refine ent m86 rfl rfl (ls := [.ref 0, .int (nI j), .int w, .int k]) rfl ?_
  refine w_ild1 i86_0 ?_
  refine w_sI1 i86_1 c99 rfl  rfl ⟨rfl, Nat.le_of_ble_eq_true rfl⟩ (K_isHouse_t hj) ?_
  refine w_ineNT i86_4 g86_4 (by omega) (by omega) ?_
  refine w_ild2 i86_11 ?_
  refine w_const i86_12 kc_1 ?_
  refine w_bip i86_13 kb_30 ?_
  by_cases hB1 : badR w (nI 1) (nI 30)
  · skip
    refine w_sI3 i86_15 c98 rfl  rfl ⟨rfl, Nat.le_of_ble_eq_true rfl⟩ (K_isFrom_f hB1) ?_
    refine w_ieqNT i86_18 g86_18 (by omega) (by omega) ?_
    refine w_sip i86_31 ks_m1012 ?_
    refine w_ri i86_34 r86 ?_
    first | exact OutX_n (OutXT h (Or.inl hB1)) | exact OutX_n (OutXT h (Or.inr hB2))
  · skip
    refine w_sI3 i86_15 c98 rfl  rfl ⟨rfl, Nat.le_of_ble_eq_true rfl⟩ (K_isFrom_t hB1) ?_
    refine w_ieqNF i86_18 (by omega) (by omega) ?_
    refine w_ild3 i86_21 ?_
    refine w_const i86_22 kc_1 ?_
    refine w_bip i86_23 kb_9 ?_
    by_cases hB2 : badR k (nI 1) (nI 9)
    · skip
      refine w_sI3 i86_25 c98 rfl  rfl ⟨rfl, Nat.le_of_ble_eq_true rfl⟩ (K_isFrom_f hB2) ?_
      refine w_ineNF i86_28 (by omega) (by omega) ?_
      refine w_sip i86_31 ks_m1012 ?_
      refine w_ri i86_34 r86 ?_
      first | exact OutX_n (OutXT h (Or.inl hB1)) | exact OutX_n (OutXT h (Or.inr hB2))
    · skip
      refine w_sI3 i86_25 c98 rfl  rfl ⟨rfl, Nat.le_of_ble_eq_true rfl⟩ (K_isFrom_t hB2) ?_
      refine w_ineNT i86_28 g86_28 (by omega) (by omega) ?_
      refine w_ald0 i86_35 ?_
      refine w_gfR i86_36 (by decide) s_0 rfl ?_
      refine w_gfR i86_39 (by decide) s_1 rfl ?_
      refine w_ild1 i86_42 ?_
      refine w_zal i86_43 s_11 (by decide) (by omega) (R.c11 (by assumption)) ?_
      refine w_ine i86_44 g86_44  (fun h44 => ?_) (fun h44 => ?_)
      · skip
        refine w_ald0 i86_54 ?_
        refine w_ild1 i86_55 ?_
        refine w_ild2 i86_56 ?_
        rcases room3 (n := n) (mTray n V (nI j) + w + nI 1) with ⟨g1, g2⟩ | ⟨g1, g2⟩ | g1
        · skip
          refine w_vI3 i86_57 c88 (Or.inl rfl) ⟨by decide +kernel, by decide⟩ rfl ⟨rfl, Nat.le_of_ble_eq_true rfl⟩ (K_room_ok R h12 g1 g2) ?_
          refine w_ineNT i86_60 g86_60 (by omega) (by omega) ?_
          refine w_ald0 i86_67 ?_
          refine w_gfR i86_68 (by decide) s_0 rfl ?_
          refine w_dup i86_71 rfl ?_
          refine w_gfI i86_72 (by decide) s_1 rfl R.f6 ?_
          refine w_ild2 i86_75 ?_
          refine w_iadd i86_76 rfl ?_
          refine w_pf0 i86_77 (by decide) s_1 rfl ?_
          refine w_ald0 i86_80 ?_
          refine w_gfR i86_81 (by decide) s_0 rfl ?_
          refine w_gfR i86_84 (by decide) s_1 rfl ?_
          refine w_ild1 i86_87 ?_
          refine w_ild2 i86_88 ?_
          refine w_ild3 i86_89 ?_
          refine w_vI4 i86_90 c35 (Or.inl rfl) ⟨by decide +kernel, by decide⟩ rfl ⟨rfl, Nat.le_of_ble_eq_true rfl⟩ (K_put (rel_brought R).ct (by omega)) ?_
          refine w_ri i86_93 r86 ?_
          have h := OutXT (OutXF h (fun q => q.elim hB1 hB2)) (opV_t ho hj h44)
          unfold vMakes at h
          rw [mT_lo (by decide)] at h
          exact OutX_s (OutXF (OutXT h g1) g2) (rel_put (rel_brought R)) vMk_0 (by omega) (FrC.tr (FrC.u FrC.rf (by decide) (by decide)) fr_put)
        · skip
          refine w_vI3 i86_57 c88 (Or.inl rfl) ⟨by decide +kernel, by decide⟩ rfl ⟨rfl, Nat.le_of_ble_eq_true rfl⟩ (K_room_full R h12 g1 g2) ?_
          refine w_ineNF i86_60 (by omega) (by omega) ?_
          refine w_sip i86_63 ks_m1014 ?_
          refine w_ri i86_66 r86 ?_
          have h := OutXT (OutXF h (fun q => q.elim hB1 hB2)) (opV_t ho hj h44)
          unfold vMakes at h
          rw [mT_lo (by decide)] at h
          first
            | exact OutX_1 (OutXF h g1)
            | (have h := OutX_1 (OutXT (OutXT h g1) g2); rw [g2]; exact h)
        · skip
          refine w_vI3 i86_57 c88 (Or.inl rfl) ⟨by decide +kernel, by decide⟩ rfl ⟨rfl, Nat.le_of_ble_eq_true rfl⟩ (K_room_tray R h12 g1) ?_
          refine w_ineNF i86_60 (by omega) (by omega) ?_
          refine w_sip i86_63 ks_m1014 ?_
          refine w_ri i86_66 r86 ?_
          have h := OutXT (OutXF h (fun q => q.elim hB1 hB2)) (opV_t ho hj h44)
          unfold vMakes at h
          rw [mT_lo (by decide)] at h
          first
            | exact OutX_1 (OutXF h g1)
            | (have h := OutX_1 (OutXT (OutXT h g1) g2); rw [g2]; exact h)
      · skip
        refine w_ald0 i86_47 ?_
        refine w_const i86_48 kc_2 ?_
        refine w_ild1 i86_49 ?_
        refine w_vI3 i86_50 c102 (Or.inl rfl) ⟨by decide +kernel, by decide⟩ rfl ⟨rfl, Nat.le_of_ble_eq_true rfl⟩ K_refuse ?_
        refine w_ri i86_53 r86 ?_
        exact OutX_1 (OutXF (OutXF h (fun q => q.elim hB1 hB2)) (opV_f h44))
set_option maxHeartbeats 100000 in
theorem K_M {d : Nat} {D : Mm} {Q : Option Value → Mm → Prop} {n : Nat} {V : Nat → Int32} (R : Rel D n V) (h12 : n ≤ 12) (hn : V 0 = nI n) (ho : opV V) {j : Nat} (hj : j < 6) {w k : Int32} (h : OutX (vMoulds n V j w k) D Q) : Ct (d + 4) 87 [.ref 0, .int (nI j), .int w, .int k] D Q := by
  refine ent m87 rfl rfl (ls := [.ref 0, .int (nI j), .int w, .int k]) rfl ?_
  refine w_ild1 i87_0 ?_
  refine w_sI1 i87_1 c99 rfl  rfl ⟨rfl, Nat.le_of_ble_eq_true rfl⟩ (K_isHouse_t hj) ?_
  refine w_ineNT i87_4 g87_4 (by omega) (by omega) ?_
  refine w_ild2 i87_11 ?_
  refine w_const i87_12 kc_1 ?_
  refine w_bip i87_13 kb_30 ?_
  by_cases hB1 : badR w (nI 1) (nI 30)
  · skip
    refine w_sI3 i87_15 c98 rfl  rfl ⟨rfl, Nat.le_of_ble_eq_true rfl⟩ (K_isFrom_f hB1) ?_
    refine w_ieqNT i87_18 g87_18 (by omega) (by omega) ?_
    refine w_sip i87_31 ks_m1012 ?_
    refine w_ri i87_34 r87 ?_
    first | exact OutX_n (OutXT h (Or.inl hB1)) | exact OutX_n (OutXT h (Or.inr hB2))
  · skip
    refine w_sI3 i87_15 c98 rfl  rfl ⟨rfl, Nat.le_of_ble_eq_true rfl⟩ (K_isFrom_t hB1) ?_
    refine w_ieqNF i87_18 (by omega) (by omega) ?_
    refine w_ild3 i87_21 ?_
    refine w_const i87_22 kc_1 ?_
    refine w_bip i87_23 kb_9 ?_
    by_cases hB2 : badR k (nI 1) (nI 9)
    · skip
      refine w_sI3 i87_25 c98 rfl  rfl ⟨rfl, Nat.le_of_ble_eq_true rfl⟩ (K_isFrom_f hB2) ?_
      refine w_ineNF i87_28 (by omega) (by omega) ?_
      refine w_sip i87_31 ks_m1012 ?_
      refine w_ri i87_34 r87 ?_
      first | exact OutX_n (OutXT h (Or.inl hB1)) | exact OutX_n (OutXT h (Or.inr hB2))
    · skip
      refine w_sI3 i87_25 c98 rfl  rfl ⟨rfl, Nat.le_of_ble_eq_true rfl⟩ (K_isFrom_t hB2) ?_
      refine w_ineNT i87_28 g87_28 (by omega) (by omega) ?_
      refine w_ald0 i87_35 ?_
      refine w_gfR i87_36 (by decide) s_0 rfl ?_
      refine w_gfR i87_39 (by decide) s_1 rfl ?_
      refine w_ild1 i87_42 ?_
      refine w_zal i87_43 s_11 (by decide) (by omega) (R.c11 (by assumption)) ?_
      refine w_ine i87_44 g87_44  (fun h44 => ?_) (fun h44 => ?_)
      · skip
        refine w_ald0 i87_54 ?_
        refine w_gfR i87_55 (by decide) s_0 rfl ?_
        refine w_gfR i87_58 (by decide) s_1 rfl ?_
        refine w_ild1 i87_61 ?_
        refine w_ial i87_62 s_13 (by decide) (by omega) (R.c13 (by assumption)) ?_
        refine w_ild2 i87_63 ?_
        refine w_cge i87_64 g87_64  (fun h64 => ?_) (fun h64 => ?_)
        · skip
          refine w_ald0 i87_83 ?_
          refine w_ild1 i87_84 ?_
          refine w_ild2 i87_85 ?_
          rcases room3 (n := n) (mTray n V (nI j) + w + nI 1) with ⟨g1, g2⟩ | ⟨g1, g2⟩ | g1
          · skip
            refine w_vI3 i87_86 c88 (Or.inl rfl) ⟨by decide +kernel, by decide⟩ rfl ⟨rfl, Nat.le_of_ble_eq_true rfl⟩ (K_room_ok R h12 g1 g2) ?_
            refine w_ineNT i87_89 g87_89 (by omega) (by omega) ?_
            refine w_ald0 i87_96 ?_
            refine w_gfR i87_97 (by decide) s_0 rfl ?_
            refine w_gfR i87_100 (by decide) s_1 rfl ?_
            refine w_ild1 i87_103 ?_
            refine w_dup2 i87_104 rfl rfl ?_
            refine w_ial i87_105 s_13 (by decide) (by omega) (R.c13 (by assumption)) ?_
            refine w_ild2 i87_106 ?_
            refine w_isub i87_107 rfl ?_
            refine w_ias i87_108 s_13 (by decide) (by omega) ?_
            refine w_ald0 i87_109 ?_
            refine w_gfR i87_110 (by decide) s_0 rfl ?_
            refine w_gfR i87_113 (by decide) s_1 rfl ?_
            refine w_ild1 i87_116 ?_
            refine w_ild2 i87_117 ?_
            refine w_ild3 i87_118 ?_
            refine w_vI4 i87_119 c35 (Or.inl rfl) ⟨by decide +kernel, by decide⟩ rfl ⟨rfl, Nat.le_of_ble_eq_true rfl⟩ (K_put (rel_store R hj).ct (by omega)) ?_
            refine w_ri i87_122 r87 ?_
            have h := OutXT (OutXT (OutXF h (fun q => q.elim hB1 hB2)) (opV_t ho hj h44)) h64
            unfold vMakes at h
            rw [mT_lo (by omega)] at h
            exact OutX_s (OutXF (OutXT h g1) g2) (rel_put (rel_store R hj)) vMk_0 (by omega) (FrC.tr (FrC.u FrC.rf (by decide) (by decide)) fr_put)
          · skip
            refine w_vI3 i87_86 c88 (Or.inl rfl) ⟨by decide +kernel, by decide⟩ rfl ⟨rfl, Nat.le_of_ble_eq_true rfl⟩ (K_room_full R h12 g1 g2) ?_
            refine w_ineNF i87_89 (by omega) (by omega) ?_
            refine w_sip i87_92 ks_m1014 ?_
            refine w_ri i87_95 r87 ?_
            have h := OutXT (OutXT (OutXF h (fun q => q.elim hB1 hB2)) (opV_t ho hj h44)) h64
            unfold vMakes at h
            rw [mT_lo (by omega)] at h
            first
              | exact OutX_1 (OutXF h g1)
              | (have h := OutX_1 (OutXT (OutXT h g1) g2); rw [g2]; exact h)
          · skip
            refine w_vI3 i87_86 c88 (Or.inl rfl) ⟨by decide +kernel, by decide⟩ rfl ⟨rfl, Nat.le_of_ble_eq_true rfl⟩ (K_room_tray R h12 g1) ?_
            refine w_ineNF i87_89 (by omega) (by omega) ?_
            refine w_sip i87_92 ks_m1014 ?_
            refine w_ri i87_95 r87 ?_
            have h := OutXT (OutXT (OutXF h (fun q => q.elim hB1 hB2)) (opV_t ho hj h44)) h64
            unfold vMakes at h
            rw [mT_lo (by omega)] at h
            first
              | exact OutX_1 (OutXF h g1)
              | (have h := OutX_1 (OutXT (OutXT h g1) g2); rw [g2]; exact h)
        · skip
          refine w_ald0 i87_67 ?_
          refine w_bip i87_68 kb_13 ?_
          refine w_ald0 i87_70 ?_
          refine w_gfR i87_71 (by decide) s_0 rfl ?_
          refine w_gfR i87_74 (by decide) s_1 rfl ?_
          refine w_ild1 i87_77 ?_
          refine w_ial i87_78 s_13 (by decide) (by omega) (R.c13 (by assumption)) ?_
          refine w_vI3 i87_79 c102 (Or.inl rfl) ⟨by decide +kernel, by decide⟩ rfl ⟨rfl, Nat.le_of_ble_eq_true rfl⟩ K_refuse ?_
          refine w_ri i87_82 r87 ?_
          exact OutX_1 (OutXF (OutXT (OutXF h (fun q => q.elim hB1 hB2)) (opV_t ho hj h44)) (Int32.not_le.mpr h64))
      · skip
        refine w_ald0 i87_47 ?_
        refine w_const i87_48 kc_2 ?_
        refine w_ild1 i87_49 ?_
        refine w_vI3 i87_50 c102 (Or.inl rfl) ⟨by decide +kernel, by decide⟩ rfl ⟨rfl, Nat.le_of_ble_eq_true rfl⟩ K_refuse ?_
        refine w_ri i87_53 r87 ?_
        exact OutX_1 (OutXF (OutXF h (fun q => q.elim hB1 hB2)) (opV_f h44))
