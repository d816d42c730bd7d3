/-! the class, what burns and passes -/
theorem vup_id {V : Nat → Int32} {j : Nat} {x : Int32} (h : V j = x) : vup V j x = V := by
  funext i
  unfold vup
  by_cases e : i = j
  · rw [if_pos e, e, h]
  · rw [if_neg e]
theorem vup_up {V : Nat → Int32} {j : Nat} {x y : Int32} : vup (vup V j x) j y = vup V j y := by
  funext i
  unfold vup
  by_cases e : i = j
  · rw [if_pos e, if_pos e]
  · rw [if_neg e, if_neg e, if_neg e]
theorem sbm0 {x : Int32} (h : x - nI 1 = -1) : x = 0 := (sbm h).trans nI_0
theorem sbmn0 {x : Int32} (h : ¬ x - nI 1 = -1) : ¬ x = 0 := fun q => sbmn h (q.trans nI_0.symm)
theorem inc1x (x : Int32) : x + Int32.ofInt 1 = x + nI 1 := congrArg (x + ·) (by decide)
set_option maxHeartbeats 100000 in
theorem K_payBack {d : Nat} {D : Mm} {Q : Option Value → Mm → Prop} {n : Nat} {V : Nat → Int32} (R : Rel D n V) (h12 : n ≤ 12) {s : Nat} (hs : s < n) {l p : Int32} (hp : ifp (l ≤ V (30 + 8 * s + 4)) l (V (30 + 8 * s + 4)) = p) (hq1 : V (30 + 8 * s + 4) - p = 0 → ∀ D2, Rel D2 n (vup (vup V (30 + 8 * s + 4) (V (30 + 8 * s + 4) - p)) (30 + 8 * s + 3) (nI 0)) → FrC D D2 → Q (some (.int p)) D2) (hq2 : ¬ V (30 + 8 * s + 4) - p = 0 → ∀ D2, Rel D2 n (vup V (30 + 8 * s + 4) (V (30 + 8 * s + 4) - p)) → FrC D D2 → Q (some (.int p)) D2) : Ct (d + 2) 40 [.ref 2, .int (nI s), .int l] D Q := by
  skip
  refine ent m40 rfl rfl (ls := [.ref 2, .int (nI s), .int l, .retAddr 0]) rfl ?_
  refine w_ild2 i40_0 ?_
  refine w_ald0 i40_1 ?_
  refine w_gfR i40_2 (by decide) s_2 rfl ?_
  refine w_ild1 i40_5 ?_
  refine w_ial i40_6 s_7 (by decide) (by omega) (R.c7 hs) ?_
  refine w_sI2 i40_7 c202 rfl  rfl ⟨rfl, Nat.le_of_ble_eq_true rfl⟩ (hp ▸ K_min) ?_
  refine w_ist3 i40_10 ?_
  refine w_ald0 i40_11 ?_
  refine w_gfR i40_12 (by decide) s_2 rfl ?_
  refine w_ild1 i40_15 ?_
  refine w_dup2 i40_16 rfl rfl ?_
  refine w_ial i40_17 s_7 (by decide) (by omega) (R.c7 hs) ?_
  refine w_ild3 i40_18 ?_
  refine w_isub i40_19 rfl ?_
  refine w_ias i40_20 s_7 (by decide) (by omega) ?_
  refine w_ald0 i40_21 ?_
  refine w_gfR i40_22 (by decide) s_2 rfl ?_
  refine w_ild1 i40_25 ?_
  refine w_ial i40_26 s_7 (by decide) (by omega) mupE ?_
  refine w_ine i40_27 g40_27  (fun h27 => ?_) (fun h27 => ?_)
  · skip
    refine w_ild3 i40_35 ?_
    refine w_ri i40_36 r40 ?_
    first
      | (refine hq1 h27 _ ?_ (FrC.u (FrC.u (FrC.u FrC.rf (by decide) (by decide)) (by decide) (by decide)) (by decide) (by decide))
         have g := rel_debt (x := nI 0) (rel_cr (x := -1) (y := nI 0) (rel_debt (x := V (30 + 8 * s + 4) - p) R h12 hs) h12 hs neg1E) h12 hs
         rw [vup_id (j := 30 + 8 * s + 4) ((updJ (by omega)).trans (updE.trans (h27.trans nI_0.symm)))] at g
         exact g)
      | exact hq2 h27 _ (rel_debt (x := V (30 + 8 * s + 4) - p) R h12 hs) (FrC.u FrC.rf (by decide) (by decide))
  · skip
    refine w_ald0 i40_30 ?_
    refine w_ild1 i40_31 ?_
    refine w_vV2 i40_32 c38 (Or.inl rfl) ⟨by decide +kernel, by decide⟩ rfl ⟨rfl, Nat.le_of_ble_eq_true rfl⟩ (K_forgive (by omega)) ?_
    refine w_ild3 i40_35 ?_
    refine w_ri i40_36 r40 ?_
    first
      | (refine hq1 h27 _ ?_ (FrC.u (FrC.u (FrC.u FrC.rf (by decide) (by decide)) (by decide) (by decide)) (by decide) (by decide))
         have g := rel_debt (x := nI 0) (rel_cr (x := -1) (y := nI 0) (rel_debt (x := V (30 + 8 * s + 4) - p) R h12 hs) h12 hs neg1E) h12 hs
         rw [vup_id (j := 30 + 8 * s + 4) ((updJ (by omega)).trans (updE.trans (h27.trans nI_0.symm)))] at g
         exact g)
      | exact hq2 h27 _ (rel_debt (x := V (30 + 8 * s + 4) - p) R h12 hs) (FrC.u FrC.rf (by decide) (by decide))
def bT (W : Nat → Int32) (s : Nat) (x l p : Int32) : Nat → Int32 := (vup (vup (vup (vup (vup W (30 + 8 * s + 7) (W (30 + 8 * s + 7) + l)) 3 (W 3 + l)) 4 (W 4 + p)) 2 (W 2 + x)) (30 + 8 * s + 1) (W (30 + 8 * s + 1) - x))
theorem burn_tail {d : Nat} {D : Mm} {Q : Option Value → Mm → Prop} {n s : Nat} {W : Nat → Int32} (g : Rel D n W) (h12 : n ≤ 12) (hs : s < n) {x l p : Int32} (hq1 : W (30 + 8 * s + 1) - x = 0 → ∀ D2, Rel D2 (n - 1) (vGoes (bT W s x l p) s) → FrC D D2 → Q (some (.int p)) D2) (hq2 : ¬ W (30 + 8 * s + 1) - x = 0 → ∀ D2, Rel D2 n (bT W s x l p) → FrC D D2 → Q (some (.int p)) D2) : Wp (d + 4) 20 Q 21 [.ref 1, .int (nI s), .int x, .int l, .retAddr 0] [.int p] D := by
  have eW : (vup (vup (vup (vup W (30 + 8 * s + 7) (W (30 + 8 * s + 7) + l)) 3 (W 3 + l)) 4 (W 4 + p)) 2 (W 2 + x)) (30 + 8 * s + 1) = W (30 + 8 * s + 1) := by rw [updJ (by omega), updJ (by omega), updJ (by omega), updJ (by omega)]
  have eV : vup (vup (vup (vup (vup W (30 + 8 * s + 7) (W (30 + 8 * s + 7) + l)) 3 (W 3 + l)) 4 (W 4 + p)) 2 (W 2 + x)) (30 + 8 * s + 1) ((vup (vup (vup (vup W (30 + 8 * s + 7) (W (30 + 8 * s + 7) + l)) 3 (W 3 + l)) 4 (W 4 + p)) 2 (W 2 + x)) (30 + 8 * s + 1) - x) = bT W s x l p := by rw [eW]; rfl
  refine w_ist4 i20_21 ?_
  refine w_ald0 i20_23 ?_
  refine w_gfR i20_24 (by decide) s_1 rfl ?_
  refine w_gfR i20_27 (by decide) s_2 rfl ?_
  refine w_ild1 i20_30 ?_
  refine w_dup2 i20_31 rfl rfl ?_
  refine w_ial i20_32 s_10 (by decide) (by omega) (g.c10 hs) ?_
  refine w_ild3 i20_33 ?_
  refine w_iadd i20_34 rfl ?_
  refine w_ias i20_35 s_10 (by decide) (by omega) ?_
  refine w_ald0 i20_36 ?_
  refine w_dup i20_37 rfl ?_
  refine w_gfI i20_38 (by decide) s_1 rfl ((mupC (by decide)).trans g.f8) ?_
  refine w_ild3 i20_41 ?_
  refine w_iadd i20_42 rfl ?_
  refine w_pf0 i20_43 (by decide) s_1 rfl ?_
  refine w_ald0 i20_46 ?_
  refine w_dup i20_47 rfl ?_
  refine w_gfI i20_48 (by decide) s_1 rfl ((mupJ (by decide)).trans ((mupC (by decide)).trans g.f9)) ?_
  refine w_ild4 i20_51 ?_
  refine w_iadd i20_53 rfl ?_
  refine w_pf0 i20_54 (by decide) s_1 rfl ?_
  refine w_ald0 i20_57 ?_
  refine w_dup i20_58 rfl ?_
  refine w_gfI i20_59 (by decide) s_1 rfl ((mupJ (by decide)).trans ((mupJ (by decide)).trans ((mupC (by decide)).trans g.f7))) ?_
  refine w_ild2 i20_62 ?_
  refine w_iadd i20_63 rfl ?_
  refine w_pf0 i20_64 (by decide) s_1 rfl ?_
  refine w_ald0 i20_67 ?_
  refine w_gfR i20_68 (by decide) s_1 rfl ?_
  refine w_ild1 i20_71 ?_
  refine w_ild2 i20_72 ?_
  refine w_vG3 i20_73 c37 (Or.inl rfl) ⟨by decide +kernel, by decide⟩ rfl ⟨rfl, Nat.le_of_ble_eq_true rfl⟩ ?_
  refine K_takeWax (rel_burnt (x := W 2 + x) (rel_paid (x := W 4 + p) (rel_given (x := W 3 + l) (rel_gave (x := W (30 + 8 * s + 7) + l) g h12 hs)))) h12 hs (fun e D2 g1 f1 => ?_) (fun e D2 g1 f1 => ?_)
  · refine w_ild4 i20_76 ?_
    exact w_ri i20_78 r20 (hq1 (eW ▸ e) _ (eV ▸ g1) (FrC.tr (FrC.u (FrC.u (FrC.u (FrC.u FrC.rf (by decide) (by decide)) (by decide) (by decide)) (by decide) (by decide)) (by decide) (by decide)) f1))
  · refine w_ild4 i20_76 ?_
    exact w_ri i20_78 r20 (hq2 (eW ▸ e) _ (eV ▸ g1) (FrC.tr (FrC.u (FrC.u (FrC.u (FrC.u FrC.rf (by decide) (by decide)) (by decide) (by decide)) (by decide) (by decide)) (by decide) (by decide)) f1))
set_option maxHeartbeats 100000 in
theorem K_burnDown {d : Nat} {D : Mm} {Q : Option Value → Mm → Prop} {n : Nat} {V : Nat → Int32} (R : Rel D n V) (h12 : n ≤ 12) {s : Nat} (hs : s < n) {x p : Int32} (hp : ifp ((x * V (30 + 8 * s + 2)) ≤ V (30 + 8 * s + 4)) (x * V (30 + 8 * s + 2)) (V (30 + 8 * s + 4)) = p) (hq : ∀ W, (V (30 + 8 * s + 4) - p = 0 → W = (vup (vup V (30 + 8 * s + 4) (V (30 + 8 * s + 4) - p)) (30 + 8 * s + 3) (nI 0))) → (¬ V (30 + 8 * s + 4) - p = 0 → W = (vup V (30 + 8 * s + 4) (V (30 + 8 * s + 4) - p))) → (V (30 + 8 * s + 1) - x = 0 → ∀ D2, Rel D2 (n - 1) (vGoes (bT W s x (x * V (30 + 8 * s + 2)) p) s) → FrC D D2 → Q (some (.int p)) D2) ∧ (¬ V (30 + 8 * s + 1) - x = 0 → ∀ D2, Rel D2 n (bT W s x (x * V (30 + 8 * s + 2)) p) → FrC D D2 → Q (some (.int p)) D2)) : Ct (d + 5) 20 [.ref 1, .int (nI s), .int x] D Q := by
  refine ent m20 rfl rfl (ls := [.ref 1, .int (nI s), .int x, .retAddr 0, .retAddr 0]) rfl ?_
  refine w_ild2 i20_0 ?_
  refine w_ald0 i20_1 ?_
  refine w_gfR i20_2 (by decide) s_1 rfl ?_
  refine w_gfR i20_5 (by decide) s_2 rfl ?_
  refine w_ild1 i20_8 ?_
  refine w_ial i20_9 s_5 (by decide) (by omega) (R.c5 (by assumption)) ?_
  refine w_imul i20_10 rfl ?_
  refine w_ist3 i20_11 ?_
  refine w_ald0 i20_12 ?_
  refine w_gfR i20_13 (by decide) s_1 rfl ?_
  refine w_ild1 i20_16 ?_
  refine w_ild3 i20_17 ?_
  refine w_vG3 i20_18 c40 (Or.inl rfl) ⟨by decide +kernel, by decide⟩ rfl ⟨rfl, Nat.le_of_ble_eq_true rfl⟩ ?_
  refine K_payBack R h12 hs hp (fun e D2 g1 f1 => ?_) (fun e D2 g1 f1 => ?_)
  · have hh := hq (vup (vup V (30 + 8 * s + 4) (V (30 + 8 * s + 4) - p)) (30 + 8 * s + 3) (nI 0)) (fun _ => rfl) (fun z => absurd e z)
    exact burn_tail g1 h12 hs (fun e2 D3 g3 f3 => hh.1 (by rw [updJ (by omega), updJ (by omega)] at e2; exact e2) D3 g3 (f1.tr f3)) (fun e2 D3 g3 f3 => hh.2 (by rw [updJ (by omega), updJ (by omega)] at e2; exact e2) D3 g3 (f1.tr f3))
  · have hh := hq (vup V (30 + 8 * s + 4) (V (30 + 8 * s + 4) - p)) (fun z => absurd z e) (fun _ => rfl)
    exact burn_tail g1 h12 hs (fun e2 D3 g3 f3 => hh.1 (by rw [updJ (by omega)] at e2; exact e2) D3 g3 (f1.tr f3)) (fun e2 D3 g3 f3 => hh.2 (by rw [updJ (by omega)] at e2; exact e2) D3 g3 (f1.tr f3))
theorem vB6_flat {V : Nat → Int32} {s : Nat} {x l p : Int32} : vB6 V s x l p = vup (vup (vup (vup (vup (vup (V) (30 + 8 * s + 1) (V (30 + 8 * s + 1) - x)) 2 (V 2 + x)) 3 (V 3 + l)) (30 + 8 * s + 7) (V (30 + 8 * s + 7) + l)) (30 + 8 * s + 4) (V (30 + 8 * s + 4) - p)) 4 (V 4 + p) := by
  unfold vB6
  dsimp only
  rw [show (vup (V) (30 + 8 * s + 1) (V (30 + 8 * s + 1) - x)) 2 = V 2 from updJ (by omega)]
  rw [show (vup (vup (V) (30 + 8 * s + 1) (V (30 + 8 * s + 1) - x)) 2 (V 2 + x)) 3 = V 3 from (updJ (by omega)).trans (updJ (by omega))]
  rw [show (vup (vup (vup (V) (30 + 8 * s + 1) (V (30 + 8 * s + 1) - x)) 2 (V 2 + x)) 3 (V 3 + l)) (30 + 8 * s + 7) = V (30 + 8 * s + 7) from (updJ (by omega)).trans ((updJ (by omega)).trans (updJ (by omega)))]
  rw [show (vup (vup (vup (vup (V) (30 + 8 * s + 1) (V (30 + 8 * s + 1) - x)) 2 (V 2 + x)) 3 (V 3 + l)) (30 + 8 * s + 7) (V (30 + 8 * s + 7) + l)) (30 + 8 * s + 4) = V (30 + 8 * s + 4) from (updJ (by omega)).trans ((updJ (by omega)).trans ((updJ (by omega)).trans (updJ (by omega))))]
  rw [show (vup (vup (vup (vup (vup (V) (30 + 8 * s + 1) (V (30 + 8 * s + 1) - x)) 2 (V 2 + x)) 3 (V 3 + l)) (30 + 8 * s + 7) (V (30 + 8 * s + 7) + l)) (30 + 8 * s + 4) (V (30 + 8 * s + 4) - p)) 4 = V 4 from (updJ (by omega)).trans ((updJ (by omega)).trans ((updJ (by omega)).trans ((updJ (by omega)).trans (updJ (by omega)))))]
theorem burn_eq0 {V : Nat → Int32} {s : Nat} {x l p : Int32} : bT (vup (V) (30 + 8 * s + 4) (V (30 + 8 * s + 4) - p)) s x l p = vB6 V s x l p := by
  rw [vB6_flat]
  unfold bT
  rw [show (vup (V) (30 + 8 * s + 4) (V (30 + 8 * s + 4) - p)) (30 + 8 * s + 7) = V (30 + 8 * s + 7) from updJ (by omega)]
  rw [show (vup (V) (30 + 8 * s + 4) (V (30 + 8 * s + 4) - p)) 3 = V 3 from updJ (by omega)]
  rw [show (vup (V) (30 + 8 * s + 4) (V (30 + 8 * s + 4) - p)) 4 = V 4 from updJ (by omega)]
  rw [show (vup (V) (30 + 8 * s + 4) (V (30 + 8 * s + 4) - p)) 2 = V 2 from updJ (by omega)]
  rw [show (vup (V) (30 + 8 * s + 4) (V (30 + 8 * s + 4) - p)) (30 + 8 * s + 1) = V (30 + 8 * s + 1) from updJ (by omega)]
  funext i
  by_cases e0 : i = (30 + 8 * s + 1)
  · subst e0; exact (updE).trans ((updJ (by omega)).trans ((updJ (by omega)).trans ((updJ (by omega)).trans ((updJ (by omega)).trans ((updJ (by omega)).trans (updE)))))).symm
  by_cases e1 : i = 2
  · subst e1; exact ((updJ (by omega)).trans (updE)).trans ((updJ (by omega)).trans ((updJ (by omega)).trans ((updJ (by omega)).trans ((updJ (by omega)).trans (updE))))).symm
  by_cases e2 : i = 3
  · subst e2; exact ((updJ (by omega)).trans ((updJ (by omega)).trans ((updJ (by omega)).trans (updE)))).trans ((updJ (by omega)).trans ((updJ (by omega)).trans ((updJ (by omega)).trans (updE)))).symm
  by_cases e3 : i = (30 + 8 * s + 7)
  · subst e3; exact ((updJ (by omega)).trans ((updJ (by omega)).trans ((updJ (by omega)).trans ((updJ (by omega)).trans (updE))))).trans ((updJ (by omega)).trans ((updJ (by omega)).trans (updE))).symm
  by_cases e4 : i = (30 + 8 * s + 4)
  · subst e4; exact ((updJ (by omega)).trans ((updJ (by omega)).trans ((updJ (by omega)).trans ((updJ (by omega)).trans ((updJ (by omega)).trans (updE)))))).trans ((updJ (by omega)).trans (updE)).symm
  by_cases e5 : i = 4
  · subst e5; exact ((updJ (by omega)).trans ((updJ (by omega)).trans (updE))).trans (updE).symm
  exact ((updJ (by assumption)).trans ((updJ (by assumption)).trans ((updJ (by assumption)).trans ((updJ (by assumption)).trans ((updJ (by assumption)).trans (updJ (by assumption))))))).trans ((updJ (by assumption)).trans ((updJ (by assumption)).trans ((updJ (by assumption)).trans ((updJ (by assumption)).trans ((updJ (by assumption)).trans (updJ (by assumption))))))).symm
theorem burn_eq1 {V : Nat → Int32} {s : Nat} {x l p : Int32} : bT (vup (vup (V) (30 + 8 * s + 4) (V (30 + 8 * s + 4) - p)) (30 + 8 * s + 3) (nI 0)) s x l p = vup (vB6 V s x l p) (30 + 8 * s + 3) (nI 0) := by
  rw [vB6_flat]
  unfold bT
  rw [show (vup (vup (V) (30 + 8 * s + 4) (V (30 + 8 * s + 4) - p)) (30 + 8 * s + 3) (nI 0)) (30 + 8 * s + 7) = V (30 + 8 * s + 7) from (updJ (by omega)).trans (updJ (by omega))]
  rw [show (vup (vup (V) (30 + 8 * s + 4) (V (30 + 8 * s + 4) - p)) (30 + 8 * s + 3) (nI 0)) 3 = V 3 from (updJ (by omega)).trans (updJ (by omega))]
  rw [show (vup (vup (V) (30 + 8 * s + 4) (V (30 + 8 * s + 4) - p)) (30 + 8 * s + 3) (nI 0)) 4 = V 4 from (updJ (by omega)).trans (updJ (by omega))]
  rw [show (vup (vup (V) (30 + 8 * s + 4) (V (30 + 8 * s + 4) - p)) (30 + 8 * s + 3) (nI 0)) 2 = V 2 from (updJ (by omega)).trans (updJ (by omega))]
  rw [show (vup (vup (V) (30 + 8 * s + 4) (V (30 + 8 * s + 4) - p)) (30 + 8 * s + 3) (nI 0)) (30 + 8 * s + 1) = V (30 + 8 * s + 1) from (updJ (by omega)).trans (updJ (by omega))]
  funext i
  by_cases e0 : i = (30 + 8 * s + 1)
  · subst e0; exact (updE).trans ((updJ (by omega)).trans ((updJ (by omega)).trans ((updJ (by omega)).trans ((updJ (by omega)).trans ((updJ (by omega)).trans ((updJ (by omega)).trans (updE))))))).symm
  by_cases e1 : i = 2
  · subst e1; exact ((updJ (by omega)).trans (updE)).trans ((updJ (by omega)).trans ((updJ (by omega)).trans ((updJ (by omega)).trans ((updJ (by omega)).trans ((updJ (by omega)).trans (updE)))))).symm
  by_cases e2 : i = 3
  · subst e2; exact ((updJ (by omega)).trans ((updJ (by omega)).trans ((updJ (by omega)).trans (updE)))).trans ((updJ (by omega)).trans ((updJ (by omega)).trans ((updJ (by omega)).trans ((updJ (by omega)).trans (updE))))).symm
  by_cases e3 : i = (30 + 8 * s + 7)
  · subst e3; exact ((updJ (by omega)).trans ((updJ (by omega)).trans ((updJ (by omega)).trans ((updJ (by omega)).trans (updE))))).trans ((updJ (by omega)).trans ((updJ (by omega)).trans ((updJ (by omega)).trans (updE)))).symm
  by_cases e4 : i = (30 + 8 * s + 4)
  · subst e4; exact ((updJ (by omega)).trans ((updJ (by omega)).trans ((updJ (by omega)).trans ((updJ (by omega)).trans ((updJ (by omega)).trans ((updJ (by omega)).trans (updE))))))).trans ((updJ (by omega)).trans ((updJ (by omega)).trans (updE))).symm
  by_cases e5 : i = 4
  · subst e5; exact ((updJ (by omega)).trans ((updJ (by omega)).trans (updE))).trans ((updJ (by omega)).trans (updE)).symm
  by_cases e6 : i = (30 + 8 * s + 3)
  · subst e6; exact ((updJ (by omega)).trans ((updJ (by omega)).trans ((updJ (by omega)).trans ((updJ (by omega)).trans ((updJ (by omega)).trans (updE)))))).trans (updE).symm
  exact ((updJ (by assumption)).trans ((updJ (by assumption)).trans ((updJ (by assumption)).trans ((updJ (by assumption)).trans ((updJ (by assumption)).trans ((updJ (by assumption)).trans (updJ (by assumption)))))))).trans ((updJ (by assumption)).trans ((updJ (by assumption)).trans ((updJ (by assumption)).trans ((updJ (by assumption)).trans ((updJ (by assumption)).trans ((updJ (by assumption)).trans (updJ (by assumption)))))))).symm
set_option maxHeartbeats 100000 in
theorem K_B_bad {d : Nat} {D : Mm} {Q : Option Value → Mm → Prop} {n : Nat} {V : Nat → Int32} (R : Rel D n V) (h12 : n ≤ 12) {a : Int32} (hb : badS n a) {x : Int32} (h : OutX (.inl (-1011, [])) D Q) : Ct (d + 6) 89 [.ref 0, .int a, .int x] D Q := by
  refine ent m89 rfl rfl (ls := [.ref 0, .int a, .int x, .retAddr 0]) rfl ?_
  refine w_ald0 i89_0 ?_
  refine w_ild1 i89_1 ?_
  refine w_vI2 i89_2 c100 (Or.inl rfl) ⟨by decide +kernel, by decide⟩ rfl ⟨rfl, Nat.le_of_ble_eq_true rfl⟩ (K_isStub_f R h12 hb) ?_
  refine w_ineNF i89_5 (by omega) (by omega) ?_
  refine w_sip i89_8 ks_m1011 ?_
  refine w_ri i89_11 r89 ?_
  exact OutX_n h
theorem ifp_min {a b : Int32} : ifp (a ≤ b) a b = ifp (b < a) b a := by
  by_cases h : a ≤ b
  · rw [ifp_t h, ifp_f (Int32.not_lt.mpr h)]
  · rw [ifp_f h, ifp_t (Int32.not_le.mp h)]
theorem OutX_burn {V : Nat → Int32} {s : Nat} {x : Int32} {D : Mm} {Q : Option Value → Mm → Prop} (h : OutX (ifp (V (30 + 8 * s + 4) < x * V (30 + 8 * s + 2)) (vBurn1 s (V (30 + 8 * s + 4)) (vB6 V s x (x * V (30 + 8 * s + 2)) (V (30 + 8 * s + 4)))) (vBurn1 s (x * V (30 + 8 * s + 2)) (vB6 V s x (x * V (30 + 8 * s + 2)) (x * V (30 + 8 * s + 2))))) D Q) {p : Int32} (hp : ifp (x * V (30 + 8 * s + 2) ≤ V (30 + 8 * s + 4)) (x * V (30 + 8 * s + 2)) (V (30 + 8 * s + 4)) = p) : OutX (vBurn1 s p (vB6 V s x (x * V (30 + 8 * s + 2)) p)) D Q := by
  by_cases g : V (30 + 8 * s + 4) < x * V (30 + 8 * s + 2)
  · rw [ifp_t g] at h
    rw [ifp_min, ifp_t g] at hp
    subst hp; exact h
  · rw [ifp_f g] at h
    rw [ifp_min, ifp_f g] at hp
    subst hp; exact h
theorem vB6_0 {V : Nat → Int32} {s n : Nat} {x l p : Int32} (h : V 0 = nI n) : vB6 V s x l p 0 = nI n := by rw [vB6_flat]; exact (updJ (by omega)).trans ((updJ (by omega)).trans ((updJ (by omega)).trans ((updJ (by omega)).trans ((updJ (by omega)).trans ((updJ (by omega)).trans h)))))
theorem vB6_w {V : Nat → Int32} {s : Nat} {x l p : Int32} : vB6 V s x l p (30 + 8 * s + 1) = V (30 + 8 * s + 1) - x := by rw [vB6_flat]; exact (updJ (by omega)).trans ((updJ (by omega)).trans ((updJ (by omega)).trans ((updJ (by omega)).trans ((updJ (by omega)).trans updE))))
theorem vB6_o {V : Nat → Int32} {s : Nat} {x l p : Int32} : vB6 V s x l p (30 + 8 * s + 4) = V (30 + 8 * s + 4) - p := by rw [vB6_flat]; exact (updJ (by omega)).trans updE
set_option maxHeartbeats 100000 in
theorem K_B {d : Nat} {D : Mm} {Q : Option Value → Mm → Prop} {n : Nat} {V : Nat → Int32} (R : Rel D n V) (h12 : n ≤ 12) (hn : V 0 = nI n) (hby : byV n V) {s : Nat} (hs : s < n) {x : Int32} (h : OutX (vBurns V s x) D Q) : Ct (d + 6) 89 [.ref 0, .int (nI s), .int x] D Q := by
  refine ent m89 rfl rfl (ls := [.ref 0, .int (nI s), .int x, .retAddr 0]) rfl ?_
  refine w_ald0 i89_0 ?_
  refine w_ild1 i89_1 ?_
  refine w_vI2 i89_2 c100 (Or.inl rfl) ⟨by decide +kernel, by decide⟩ rfl ⟨rfl, Nat.le_of_ble_eq_true rfl⟩ (K_isStub_t R h12 hs) ?_
  refine w_ineNT i89_5 g89_5 (by omega) (by omega) ?_
  refine w_ild2 i89_12 ?_
  refine w_const i89_13 kc_1 ?_
  refine w_bip i89_14 kb_30 ?_
  by_cases hB : badR x (nI 1) (nI 30)
  · skip
    refine w_sI3 i89_16 c98 rfl  rfl ⟨rfl, Nat.le_of_ble_eq_true rfl⟩ (K_isFrom_f hB) ?_
    refine w_ineNF i89_19 (by omega) (by omega) ?_
    refine w_sip i89_22 ks_m1012 ?_
    refine w_ri i89_25 r89 ?_
    exact OutX_n (OutXT h hB)
  · skip
    refine w_sI3 i89_16 c98 rfl  rfl ⟨rfl, Nat.le_of_ble_eq_true rfl⟩ (K_isFrom_t hB) ?_
    refine w_ineNT i89_19 g89_19 (by omega) (by omega) ?_
    refine w_ald0 i89_26 ?_
    refine w_gfR i89_27 (by decide) s_0 rfl ?_
    refine w_gfR i89_30 (by decide) s_1 rfl ?_
    refine w_ast3 i89_33 ?_
    refine w_ald3 i89_34 ?_
    refine w_gfR i89_35 (by decide) s_2 rfl ?_
    refine w_ild1 i89_38 ?_
    refine w_ial i89_39 s_8 (by decide) (by omega) (R.c8 (by assumption)) ?_
    refine w_const i89_40 kc_m1 ?_
    refine w_ceq i89_41 g89_41  (fun h41 => ?_) (fun h41 => ?_)
    · skip
      refine w_ald3 i89_69 ?_
      refine w_gfR i89_70 (by decide) s_2 rfl ?_
      refine w_ild1 i89_73 ?_
      refine w_ial i89_74 s_4 (by decide) (by omega) (R.c4 (by assumption)) ?_
      refine w_ild2 i89_75 ?_
      refine w_cge i89_76 g89_76  (fun h76 => ?_) (fun h76 => ?_)
      · skip
        refine w_ald0 i89_105 ?_
        refine w_gfR i89_106 (by decide) s_0 rfl ?_
        refine w_ild1 i89_109 ?_
        refine w_ild2 i89_110 ?_
        refine w_vG3 i89_111 c20 (Or.inl rfl) ⟨by decide +kernel, by decide⟩ rfl ⟨rfl, Nat.le_of_ble_eq_true rfl⟩ ?_
        have hX := OutX_burn (OutXT (OutXT (OutXF h hB) (sbm_le h41)) h76) rfl
        refine K_burnDown R h12 hs rfl (fun W w1 w2 => ⟨fun e D2 g f => ?_, fun e D2 g f => ?_⟩)
        · refine w_ri i89_114 r89 ?_
          unfold vBurn1 at hX
          rw [vB6_o] at hX
          unfold vBurn2 at hX
          by_cases ez : V (30 + 8 * s + 4) - ifp (x * V (30 + 8 * s + 2) ≤ V (30 + 8 * s + 4)) (x * V (30 + 8 * s + 2)) (V (30 + 8 * s + 4)) = 0
          · rw [w1 ez, burn_eq1] at g
            have hX := OutXT (OutXT hX ez) (by rw [updJ (by omega), vB6_w]; exact e)
            exact OutX_s hX g (vGoes_0n ((updJ (by omega)).trans (vB6_0 hn)) (by omega)) (by omega) f
          · rw [w2 ez, burn_eq0] at g
            have hX := OutXT (OutXF hX ez) (by rw [vB6_w]; exact e)
            exact OutX_s hX g (vGoes_0n (vB6_0 hn) (by omega)) (by omega) f
        · refine w_ri i89_114 r89 ?_
          unfold vBurn1 at hX
          rw [vB6_o] at hX
          unfold vBurn2 at hX
          by_cases ez : V (30 + 8 * s + 4) - ifp (x * V (30 + 8 * s + 2) ≤ V (30 + 8 * s + 4)) (x * V (30 + 8 * s + 2)) (V (30 + 8 * s + 4)) = 0
          · rw [w1 ez, burn_eq1] at g
            have hX := OutXF (OutXT hX ez) (by rw [updJ (by omega), vB6_w]; exact e)
            exact OutX_s hX g ((updJ (by omega)).trans (vB6_0 hn)) h12 f
          · rw [w2 ez, burn_eq0] at g
            have hX := OutXF (OutXF hX ez) (by rw [vB6_w]; exact e)
            exact OutX_s hX g (vB6_0 hn) h12 f
      · skip
        refine w_ald0 i89_79 ?_
        refine w_const i89_80 kc_4 ?_
        refine w_ild1 i89_81 ?_
        refine w_vI3 i89_82 c102 (Or.inl rfl) ⟨by decide +kernel, by decide⟩ rfl ⟨rfl, Nat.le_of_ble_eq_true rfl⟩ K_refuse ?_
        refine w_pop i89_85 rfl ?_
        refine w_ald0 i89_86 ?_
        refine w_gfR i89_87 (by decide) s_0 rfl ?_
        refine w_bip i89_90 kb_6 ?_
        refine w_ald3 i89_92 ?_
        refine w_gfR i89_93 (by decide) s_2 rfl ?_
        refine w_ild1 i89_96 ?_
        refine w_ial i89_97 s_4 (by decide) (by omega) ((congrFun (cRef_q (by decide) (by decide) (by decide)) s).trans (R.c4 hs)) ?_
        refine w_vV3 i89_98 c13 (Or.inl rfl) ⟨by decide +kernel, by decide⟩ rfl ⟨rfl, Nat.le_of_ble_eq_true rfl⟩ (K_putB (c := 1) mupE (by decide)) ?_
        refine w_sip i89_101 ks_m1014 ?_
        refine w_ri i89_104 r89 ?_
        exact OutX_2 (OutXF (OutXT (OutXF h hB) (sbm_le h41)) (Int32.not_le.mpr h76))
    · skip
      refine w_ald0 i89_44 ?_
      refine w_const i89_45 kc_4 ?_
      refine w_ild1 i89_46 ?_
      refine w_vI3 i89_47 c102 (Or.inl rfl) ⟨by decide +kernel, by decide⟩ rfl ⟨rfl, Nat.le_of_ble_eq_true rfl⟩ K_refuse ?_
      refine w_pop i89_50 rfl ?_
      refine w_ald0 i89_51 ?_
      refine w_gfR i89_52 (by decide) s_0 rfl ?_
      refine w_const i89_55 kc_5 ?_
      refine w_ald3 i89_56 ?_
      refine w_gfR i89_57 (by decide) s_2 rfl ?_
      refine w_ild1 i89_60 ?_
      refine w_ial i89_61 s_9 (by decide) (by omega) ((congrFun (cRef_q (by decide) (by decide) (by decide)) s).trans (R.c9 hs)) ?_
      refine w_vV3 i89_62 c13 (Or.inl rfl) ⟨by decide +kernel, by decide⟩ rfl ⟨rfl, Nat.le_of_ble_eq_true rfl⟩ (K_putB (c := 1) mupE (by decide)) ?_
      refine w_sip i89_65 ks_m1014 ?_
      refine w_ri i89_68 r89 ?_
      exact OutX_2 (OutXF (OutXF h hB) (by_le hby hs h41))
def sdN (n : Nat) (V : Nat → Int32) : Prop := ∀ s, s < n → ∃ z, z ≤ 24 ∧ V (30 + 8 * s + 5) = nI z
theorem sd_le {w x : Int32} {z y : Nat} (e1 : w = nI z) (e2 : x = nI y) (hz : z ≤ 24) (hy : y ≤ 24) : w - x ≤ 0 ↔ w ≤ x := by
  rw [Int32.le_iff_toInt_le, Int32.le_iff_toInt_le, Int32.toInt_sub, e1, e2, nI_toInt (by omega), nI_toInt (by omega), show (0 : Int32).toInt = 0 from rfl]
  rw [Int.bmod_eq_of_le (by omega) (by omega)]
  omega
theorem vup3 {V : Nat → Int32} {a b : Nat} {p q r : Int32} (h : a ≠ b) : vup (vup (vup V a p) b q) a r = vup (vup V a r) b q := by
  rw [vup_comm (V := vup V a p) (i := b) (j := a) (fun e => h e.symm), vup_up]
theorem Pa_5 {x y : Int32} {s : Nat} {V : Nat → Int32} : vPa x s (vup V 5 y) = vup (vPa x s V) 5 y := by
  rw [vPa_eq, vPa_eq, updJ (by omega), updJ (by omega)]
  by_cases h : V (30 + 8 * s + 6) = 0
  · rw [ifp_t h, ifp_t h]
  · rw [ifp_f h, ifp_f h]
    by_cases g : V (30 + 8 * s + 5) ≤ x
    · rw [ifp_t g, ifp_t g, vup_comm (V := V) (i := 5) (by omega), vup_comm (i := 5) (by omega)]
    · rw [ifp_f g, ifp_f g, vup_comm (V := V) (i := 5) (by omega), vup_comm (i := 5) (by omega)]
theorem itrPa_5 {x y : Int32} {V : Nat → Int32} : ∀ n, itr (vPa x) n (vup V 5 y) = vup (itr (vPa x) n V) 5 y := by
  intro n
  induction n with
  | zero => rfl
  | succ n ih =>
    show vPa x n (itr (vPa x) n (vup V 5 y)) = vup (vPa x n (itr (vPa x) n V)) 5 y
    rw [ih, Pa_5]
set_option maxHeartbeats 100000 in
theorem K_shorten {d : Nat} {D : Mm} {Q : Option Value → Mm → Prop} {n : Nat} {V : Nat → Int32} (R : Rel D n V) (h12 : n ≤ 12) (hsd : sdN n V) {x : Int32} {y : Nat} (hx : x = nI y) (hy : y ≤ 24) (hq : ∀ D2, Rel D2 n (itr (vPa x) n V) → FrC D D2 → Q (some (.int (vPaC n V x))) D2) : Ct (d + 2) 41 [.ref 2, .int x] D Q := by
  refine ent m41 rfl rfl (ls := [.ref 2, .int x, .retAddr 0, .retAddr 0]) rfl ?_
  refine w_const i41_0 kc_0 ?_
  refine w_ist2 i41_1 ?_
  refine w_const i41_2 kc_0 ?_
  refine w_ist3 i41_3 ?_
  have L4 : ∀ k i D1, i + k = n → Rel D1 n (itr (vPa x) i V) → FrC D D1 → Wp (d + 1) 41 Q 4 [.ref 2, .int x, .int (sumN i (fun s => ifp (V (30 + 8 * s + 6) = 0) (nI 0) (ifp (V (30 + 8 * s + 5) ≤ x) (nI 1) (nI 0)))), .int (nI i)] [] D1 := by
    intro k
    induction k with
    | zero =>
      intro i D1 hk gR gf
      have hi : i = n := by omega
      subst hi
      refine w_ild3 i41_4 ?_
      refine w_ald0 i41_5 ?_
      refine w_gfI i41_6 (by decide) s_2 rfl gR.ct ?_
      refine w_cgeNT i41_9 g41_9 (by omega) (by omega) (by omega) ?_
      refine w_ild2 i41_55 ?_
      refine w_ri i41_56 r41 ?_
      exact hq _ gR gf
    | succ k ih =>
      intro i D1 hk gR gf
      have hi : i < n := by omega
      have e6 : itr (vPa x) i V (30 + 8 * i + 6) = V (30 + 8 * i + 6) := itr_hi own_Pa (Or.inl (by omega))
      have e5 : itr (vPa x) i V (30 + 8 * i + 5) = V (30 + 8 * i + 5) := itr_hi own_Pa (Or.inl (by omega))
      obtain ⟨z, hz, ez⟩ := hsd i hi
      have eI : itr (vPa x) (i + 1) V = vPa x i (itr (vPa x) i V) := rfl
      replace ih := fun D1 => ih (i + 1) D1 (by omega)
      rw [sumS, eI, vPa_eq, e6, e5] at ih
      refine w_ild3 i41_4 ?_
      refine w_ald0 i41_5 ?_
      refine w_gfI i41_6 (by decide) s_2 rfl gR.ct ?_
      refine w_cgeNF i41_9 (by omega) (by omega) (by omega) ?_
      refine w_ald0 i41_12 ?_
      refine w_gfR i41_13 (by decide) s_2 rfl ?_
      refine w_ild3 i41_16 ?_
      refine w_ial i41_17 s_8 (by decide) (by omega) ((gR.c8 hi).trans (congrArg (· - nI 1) e6)) ?_
      refine w_const i41_18 kc_m1 ?_
      refine w_ceq i41_19 g41_19  (fun h19 => ?_) (fun h19 => ?_)
      · skip
        refine w_inc3 i41_49 (inc1 _) ?_
        refine w_goto i41_52 g41_52 ?_
        first
          | (rw [ifp_t (sbm0 h19), ifp_t (sbm0 h19)] at ih
             rw [add0] at ih
             exact ih _ gR gf)
          | (rw [ifp_f (sbmn0 h19), ifp_f (sbmn0 h19), ifp_t ((sd_le ez hx hz hy).mp h38), ifp_t ((sd_le ez hx hz hy).mp h38)] at ih
             refine ih _ ?_ (FrC.u (FrC.u (FrC.u gf (by decide) (by decide)) (by decide) (by decide)) (by decide) (by decide))
             have g := rel_sd (x := nI 0) (rel_sn (x := -1) (y := nI 0) (rel_sd (x := V (30 + 8 * i + 5) - x) gR h12 hi) h12 hi neg1E) h12 hi
             rw [vup3 (by omega)] at g
             exact g)
          | (rw [ifp_f (sbmn0 h19), ifp_f (sbmn0 h19), ifp_f (fun q => absurd ((sd_le ez hx hz hy).mpr q) (Int32.not_le.mpr h38)), ifp_f (fun q => absurd ((sd_le ez hx hz hy).mpr q) (Int32.not_le.mpr h38)), vup_id (j := 30 + 8 * i + 6) ((updJ (by omega)).trans e6)] at ih
             rw [add0] at ih
             exact ih _ (rel_sd gR h12 hi) (FrC.u gf (by decide) (by decide)))
      · skip
        refine w_ald0 i41_22 ?_
        refine w_gfR i41_23 (by decide) s_2 rfl ?_
        refine w_ild3 i41_26 ?_
        refine w_dup2 i41_27 rfl rfl ?_
        refine w_ial i41_28 s_9 (by decide) (by omega) ((gR.c9 hi).trans e5) ?_
        refine w_ild1 i41_29 ?_
        refine w_isub i41_30 rfl ?_
        refine w_ias i41_31 s_9 (by decide) (by omega) ?_
        refine w_ald0 i41_32 ?_
        refine w_gfR i41_33 (by decide) s_2 rfl ?_
        refine w_ild3 i41_36 ?_
        refine w_ial i41_37 s_9 (by decide) (by omega) mupE ?_
        refine w_igt i41_38 g41_38  (fun h38 => ?_) (fun h38 => ?_)
        · skip
          refine w_inc3 i41_49 (inc1 _) ?_
          refine w_goto i41_52 g41_52 ?_
          first
            | (rw [ifp_t (sbm0 h19), ifp_t (sbm0 h19)] at ih
               rw [add0] at ih
               exact ih _ gR gf)
            | (rw [ifp_f (sbmn0 h19), ifp_f (sbmn0 h19), ifp_t ((sd_le ez hx hz hy).mp h38), ifp_t ((sd_le ez hx hz hy).mp h38)] at ih
               refine ih _ ?_ (FrC.u (FrC.u (FrC.u gf (by decide) (by decide)) (by decide) (by decide)) (by decide) (by decide))
               have g := rel_sd (x := nI 0) (rel_sn (x := -1) (y := nI 0) (rel_sd (x := V (30 + 8 * i + 5) - x) gR h12 hi) h12 hi neg1E) h12 hi
               rw [vup3 (by omega)] at g
               exact g)
            | (rw [ifp_f (sbmn0 h19), ifp_f (sbmn0 h19), ifp_f (fun q => absurd ((sd_le ez hx hz hy).mpr q) (Int32.not_le.mpr h38)), ifp_f (fun q => absurd ((sd_le ez hx hz hy).mpr q) (Int32.not_le.mpr h38)), vup_id (j := 30 + 8 * i + 6) ((updJ (by omega)).trans e6)] at ih
               rw [add0] at ih
               exact ih _ (rel_sd gR h12 hi) (FrC.u gf (by decide) (by decide)))
        · skip
          refine w_ald0 i41_41 ?_
          refine w_ild3 i41_42 ?_
          refine w_vV2 i41_43 c39 (Or.inl rfl) ⟨by decide +kernel, by decide⟩ rfl ⟨rfl, Nat.le_of_ble_eq_true rfl⟩ (K_release (by omega)) ?_
          refine w_inc2 i41_46 (inc1x _) ?_
          refine w_inc3 i41_49 (inc1 _) ?_
          refine w_goto i41_52 g41_52 ?_
          first
            | (rw [ifp_t (sbm0 h19), ifp_t (sbm0 h19)] at ih
               rw [add0] at ih
               exact ih _ gR gf)
            | (rw [ifp_f (sbmn0 h19), ifp_f (sbmn0 h19), ifp_t ((sd_le ez hx hz hy).mp h38), ifp_t ((sd_le ez hx hz hy).mp h38)] at ih
               refine ih _ ?_ (FrC.u (FrC.u (FrC.u gf (by decide) (by decide)) (by decide) (by decide)) (by decide) (by decide))
               have g := rel_sd (x := nI 0) (rel_sn (x := -1) (y := nI 0) (rel_sd (x := V (30 + 8 * i + 5) - x) gR h12 hi) h12 hi neg1E) h12 hi
               rw [vup3 (by omega)] at g
               exact g)
            | (rw [ifp_f (sbmn0 h19), ifp_f (sbmn0 h19), ifp_f (fun q => absurd ((sd_le ez hx hz hy).mpr q) (Int32.not_le.mpr h38)), ifp_f (fun q => absurd ((sd_le ez hx hz hy).mpr q) (Int32.not_le.mpr h38)), vup_id (j := 30 + 8 * i + 6) ((updJ (by omega)).trans e6)] at ih
               rw [add0] at ih
               exact ih _ (rel_sd gR h12 hi) (FrC.u gf (by decide) (by decide)))
  exact L4 n 0 D (by omega) R FrC.rf
set_option maxHeartbeats 100000 in
theorem K_T {d : Nat} {D : Mm} {Q : Option Value → Mm → Prop} {n : Nat} {V : Nat → Int32} (R : Rel D n V) (h12 : n ≤ 12) (hn : V 0 = nI n) (hsd : sdN n V) {x : Int32} (h : OutX (vPasses n V x) D Q) : Ct (d + 4) 96 [.ref 0, .int x] D Q := by
  refine ent m96 rfl rfl (ls := [.ref 0, .int x]) rfl ?_
  refine w_ild1 i96_0 ?_
  refine w_const i96_1 kc_1 ?_
  refine w_bip i96_2 kb_24 ?_
  by_cases hB : badR x (nI 1) (nI 24)
  · skip
    refine w_sI3 i96_4 c98 rfl  rfl ⟨rfl, Nat.le_of_ble_eq_true rfl⟩ (K_isFrom_f hB) ?_
    refine w_ineNF i96_7 (by omega) (by omega) ?_
    refine w_sip i96_10 ks_m1012 ?_
    refine w_ri i96_13 r96 ?_
    exact OutX_n (OutXT h hB)
  · skip
    refine w_sI3 i96_4 c98 rfl  rfl ⟨rfl, Nat.le_of_ble_eq_true rfl⟩ (K_isFrom_t hB) ?_
    refine w_ineNT i96_7 g96_7 (by omega) (by omega) ?_
    refine w_ald0 i96_14 ?_
    refine w_gfR i96_15 (by decide) s_0 rfl ?_
    refine w_dup i96_18 rfl ?_
    refine w_gfI i96_19 (by decide) s_1 rfl R.f10 ?_
    refine w_ild1 i96_22 ?_
    refine w_iadd i96_23 rfl ?_
    refine w_pf0 i96_24 (by decide) s_1 rfl ?_
    refine w_ald0 i96_27 ?_
    refine w_gfR i96_28 (by decide) s_0 rfl ?_
    refine w_gfR i96_31 (by decide) s_1 rfl ?_
    refine w_ild1 i96_34 ?_
    refine w_vG2 i96_35 c41 (Or.inl rfl) ⟨by decide +kernel, by decide⟩ rfl ⟨rfl, Nat.le_of_ble_eq_true rfl⟩ ?_
    obtain ⟨y, hy1, hy, hx⟩ := nI_bounds (by decide) hB (by decide)
    have hX := OutXF h hB
    have eC : vPaC n (vup V 5 (V 5 + x)) x = vPaC n V x := sum_congr (fun i hi => by rw [updJ (by omega), updJ (by omega)])
    refine K_shorten (rel_hours (x := V 5 + x) R) h12 (fun i hi => by rw [updJ (by omega)]; exact hsd i hi) hx hy (fun D2 g f => ?_)
    rw [itrPa_5] at g
    rw [eC]
    refine w_ri i96_38 r96 ?_
    rw [show V 5 = itr (vPa x) n V 5 from (itr_hi own_Pa (Or.inr (by decide))).symm] at g
    exact OutX_s hX g ((updJ (by decide)).trans ((itr_hi own_Pa (Or.inr (by decide))).trans hn)) h12 (FrC.tr (FrC.u FrC.rf (by decide) (by decide)) f)
