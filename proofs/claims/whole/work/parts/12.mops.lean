/-! the reference, what changes it -/
theorem wpD {d k : Nat} {Q : Option Value → Mm → Prop} {pc : Nat} {ls st : List Value} {D D2 : Mm} (e : D = D2) (h : Wp d k Q pc ls st D2) : Wp d k Q pc ls st D := e ▸ h
abbrev Out : Type := (Int32 × List (Int32 × Int32)) ⊕ (Int32 × (Nat → Int32))
def fF (F : Nat → Int32) (c : Int32) (rs : List (Int32 × Int32)) : Nat → Int32 := match rs with
  | [] => vup F 0 c
  | [(a, b)] => vup (vup (vup (vup (vup F 2 a) 3 b) 4 (nI 0)) 6 (nI 0)) 0 c
  | (a, b) :: (x, y) :: _ => vup (vup (vup (vup (vup (vup (vup F 2 a) 3 b) 4 (nI 0)) 6 (nI 0)) 0 c) 4 x) 5 y
def OutM (o : Out) (D : Mm) (Q : Option Value → Mm → Prop) : Prop := match o with
  | .inl (c, rs) => ∀ D2 : Mm, D2 171 = fF (D 171) c rs → (∀ q, q ≠ 171 → q ≠ 172 → D2 q = D q) → Q (some (.int c)) D2
  | .inr (a, V2) => ∀ D2 : Mm, D2 172 = V2 → (∀ j, j ≠ 16 → D2 171 j = D 171 j) → (∀ q, q ≠ 171 → q ≠ 172 → q ≠ 177 → q ≠ 178 → D2 q = D q) → Q (some (.int a)) D2
theorem OutS {a : Int32} {V2 : Nat → Int32} {D : Mm} {Q : Option Value → Mm → Prop} (h : OutM (.inr (a, V2)) D Q) (D2 : Mm) (h1 : D2 172 = V2) (h2 : ∀ q, q ≠ 172 → D2 q = D q) : Q (some (.int a)) D2 := h D2 h1 (fun j _ => by rw [h2 171 (by decide)]) (fun q _ h _ _ => h2 q h)
theorem OutT {p : Prop} {a b : Out} {D : Mm} {Q : Option Value → Mm → Prop} (h : OutM (ifp p a b) D Q) (hp : p) : OutM a D Q := by rw [ifp_t hp] at h; exact h
theorem OutF {p : Prop} {a b : Out} {D : Mm} {Q : Option Value → Mm → Prop} (h : OutM (ifp p a b) D Q) (hp : ¬ p) : OutM b D Q := by rw [ifp_f hp] at h; exact h
theorem OutP {o : Out} {D D1 : Mm} {Q : Option Value → Mm → Prop} (hf : ∀ q, q ≠ 172 → D1 q = D q) (h : OutM o D Q) : OutM o D1 Q := by
  unfold OutM at h ⊢
  split
  · intro D2 h1 h2
    refine h D2 ?_ (fun q a b => (h2 q a b).trans (hf q b))
    rw [h1, hf 171 (by decide)]
  · intro D2 h1 h2 h3
    exact h D2 h1 (fun j hj => (h2 j hj).trans (by rw [hf 171 (by decide)])) (fun q a b c e => (h3 q a b c e).trans (hf q b))
def setc (D : Mm) (c : Nat) (V : Nat → Int32) : Mm := fun q => if q = c then V else D q
theorem setc_self {D : Mm} {c : Nat} : setc D c (D c) = D := by
  funext q
  unfold setc
  by_cases h : q = c
  · rw [if_pos h, h]
  · rw [if_neg h]
theorem setcF {D : Mm} {c q : Nat} {V : Nat → Int32} (h : q ≠ c) : setc D c V q = D q := by unfold setc; rw [if_neg h]
theorem setcE {D : Mm} {c : Nat} {V : Nat → Int32} : setc D c V c = V := by unfold setc; rw [if_pos rfl]
theorem mup_setc {D : Mm} {c j : Nat} {V : Nat → Int32} {x : Int32} : mup (setc D c V) c j x = setc D c (vup V j x) := by
  funext q i
  unfold mup setc vup
  by_cases h : q = c
  · rw [if_pos h, if_pos h, if_pos h]
  · rw [if_neg h, if_neg h, if_neg h]
theorem setcR {D : Mm} {c j : Nat} {V : Nat → Int32} : setc D c V c j = V j := congrFun setcE j
theorem setcG {D : Mm} {c q j : Nat} {V : Nat → Int32} (h : q ≠ c) : setc D c V q j = D q j := congrFun (setcF h) j
theorem setc2 {D : Mm} {c : Nat} {V W : Nat → Int32} : setc (setc D c V) c W = setc D c W := by
  funext q
  unfold setc
  by_cases h : q = c
  · rw [if_pos h, if_pos h]
  · rw [if_neg h, if_neg h, if_neg h]
theorem w_iasS {d k pc a b c e m j len : Nat} {Q : Option Value → Mm → Prop} {ls r : List Value} {D : Mm} {V : Nat → Int32} {v : Int32} {refs : List (Option Nat)} (hi : ins k pc = some (.iastore, a, b, c, e)) (hs : sh m = (20, len, refs)) (hL : len < 2147483648) (hj : j < len) (h : Wp d k Q (pc + 1) ls r (setc D m (vup V j v))) : Wp d k Q pc ls (.int v :: .int (nI j) :: .ref m :: r) (setc D m V) := w_ias hi hs hL hj (by rw [mup_setc]; exact h)
theorem add0 (x : Int32) : x + nI 0 = x := Int32.add_zero x
def clr (V : Nat → Int32) (n i : Nat) : Nat → Int32 := fun j => if 30 + 8 * n ≤ j ∧ j < 30 + 8 * n + i then nI 0 else V j
theorem clr0 {V : Nat → Int32} {n : Nat} : clr V n 0 = V := by funext j; unfold clr; rw [if_neg (by omega)]
theorem clrS {V : Nat → Int32} {n i : Nat} : vup (clr V n i) (30 + 8 * n + i) (nI 0) = clr V n (i + 1) := by
  funext j
  unfold vup clr
  by_cases h : j = 30 + 8 * n + i
  · rw [if_pos h, if_pos (by omega)]
  · rw [if_neg h]
    by_cases g : 30 + 8 * n ≤ j ∧ j < 30 + 8 * n + i
    · rw [if_pos g, if_pos (by omega)]
    · rw [if_neg g, if_neg (by omega)]
def shf (V : Nat → Int32) (s i : Nat) : Nat → Int32 := fun j => if 30 + 8 * s ≤ j ∧ j < 30 + 8 * s + i then (if j + 8 < 126 then V (j + 8) else nI 0) else V j
theorem shf0 {V : Nat → Int32} {n : Nat} : shf V n 0 = V := by funext j; unfold shf; rw [if_neg (by omega)]
theorem shfR {V : Nat → Int32} {s i : Nat} : shf V s i (30 + 8 * s + i + 8) = V (30 + 8 * s + i + 8) := by unfold shf; rw [if_neg (by omega)]
theorem shfS {V : Nat → Int32} {s i : Nat} {x : Int32} (hx : x = if 30 + 8 * s + i + 8 < 126 then V (30 + 8 * s + i + 8) else nI 0) : vup (shf V s i) (30 + 8 * s + i) x = shf V s (i + 1) := by
  funext j
  unfold vup shf
  by_cases h : j = 30 + 8 * s + i
  · subst h; rw [if_pos rfl, if_pos (by omega), hx]
  · rw [if_neg h]
    by_cases g : 30 + 8 * s ≤ j ∧ j < 30 + 8 * s + i
    · rw [if_pos g, if_pos (show 30 + 8 * s ≤ j ∧ j < 30 + 8 * s + (i + 1) by omega)]
    · rw [if_neg g, if_neg (by omega)]
def vGoes (V : Nat → Int32) (s : Nat) : Nat → Int32 := vup (shf V s (96 - 8 * s)) 0 (V 0 - nI 1)
def vMk (V : Nat → Int32) (n : Nat) (h w k : Int32) : Nat → Int32 := vup (vup (vup (vup (clr V n 8) (30 + 8 * n + 0) h) (30 + 8 * n + 1) w) (30 + 8 * n + 2) k) 0 (nI (n + 1))
noncomputable def vMakes (n : Nat) (V : Nat → Int32) (h w k : Int32) : Out :=
  ifp (mTray n V h + w + nI 1 ≤ nI 60) (ifp (n = 12) (.inl (-1014, [(nI 1, nI 12)])) (.inr (nI n, vMk V n h w k))) (.inl (-1014, [(nI 3, mTray n V h + w + nI 1)]))
theorem T_goes {d : Nat} {D : Mm} {s : Nat} (hs : s < 12) : Ct (d + 2) 121 [.ref 171, .int (nI s)] D (Ex none (setc D 172 (vGoes (D 172) s))) := by
  refine ent m121 rfl rfl (ls := [.ref 171, .int (nI s), .retAddr 0]) rfl ?_
  refine w_ild1 i121_0 ?_
  refine w_const i121_1 kc_0 ?_
  refine w_sI2 i121_2 c115 rfl  rfl ⟨rfl, Nat.le_of_ble_eq_true rfl⟩ T_in ?_
  refine w_ist2 i121_5 ?_
  refine wpD (D2 := setc D 172 (shf (D 172) s 0)) (by rw [shf0, setc_self]) ?_
  refine down0 (n := 96 - 8 * s) (P := fun i => Wp _ _ _ 6 [.ref 171, .int (nI s), .int (nI (30 + 8 * s + i))] [] (setc D 172 (shf (D 172) s i))) ?_ ?_
  · skip
    refine w_ild2 i121_6 ?_
    refine w_bip i121_7 kb_126 ?_
    refine w_cgeNT i121_9 g121_9 (by omega) (by omega) (by omega) ?_
    refine w_ald0 i121_46 ?_
    refine w_gfR i121_47 (by decide) s_171 rfl ?_
    refine w_const i121_50 kc_0 ?_
    refine w_dup2 i121_51 rfl rfl ?_
    refine w_ial i121_52 s_172 (by decide) (by omega) rfl ?_
    refine w_const i121_53 kc_1 ?_
    refine w_isub i121_54 rfl ?_
    refine w_ias i121_55 s_172 (by decide) (by omega) ?_
    refine w_rv i121_56 r121 ?_
    refine ⟨rfl, ?_⟩
    rw [mup_setc]
    unfold vGoes
    rw [show setc D 172 (shf (D 172) s (96 - 8 * s)) 172 0 = D 172 0 from by rw [setcE]; unfold shf; rw [if_neg (by omega)]]
  · intro i hi ih
    refine w_ild2 i121_6 ?_
    refine w_bip i121_7 kb_126 ?_
    refine w_cgeNF i121_9 (by omega) (by omega) (by omega) ?_
    refine w_ald0 i121_12 ?_
    refine w_gfR i121_13 (by decide) s_171 rfl ?_
    refine w_ild2 i121_16 ?_
    refine w_ild2 i121_17 ?_
    refine w_bip i121_18 kb_8 ?_
    refine w_iadd i121_20 (nI_add _ _) ?_
    refine w_bip i121_21 kb_126 ?_
    refine w_cgeN i121_23 g121_23 (by omega) (by omega) (fun h23 => ?_) (fun h23 => ?_)
    · skip
      refine w_const i121_38 kc_0 ?_
      refine w_ias i121_39 s_172 (by decide) (by omega) ?_
      refine w_inc2 i121_40 (inc1 _) ?_
      refine w_goto i121_43 g121_43 ?_
      rw [mup_setc, shfS (by first | (rw [if_neg (by omega)]; done) | (rw [if_pos (by omega)]; exact shfR))]; exact ih
    · skip
      refine w_ald0 i121_26 ?_
      refine w_gfR i121_27 (by decide) s_171 rfl ?_
      refine w_ild2 i121_30 ?_
      refine w_bip i121_31 kb_8 ?_
      refine w_iadd i121_33 (nI_add _ _) ?_
      refine w_ial i121_34 s_172 (by decide) (by omega) rfl ?_
      refine w_goto i121_35 g121_35 ?_
      refine w_ias i121_39 s_172 (by decide) (by omega) ?_
      refine w_inc2 i121_40 (inc1 _) ?_
      refine w_goto i121_43 g121_43 ?_
      rw [mup_setc, shfS (by first | (rw [if_neg (by omega)]; done) | (rw [if_pos (by omega)]; exact shfR))]; exact ih
theorem T_makes {d : Nat} {D : Mm} {Q : Option Value → Mm → Prop} {V : Nat → Int32} {n : Nat} (hV : D 172 = V) (hn : V 0 = nI n) (h12 : n ≤ 12) {a w k : Int32} (h : OutM (vMakes n V a w k) D Q) : Ct (d + 3) 125 [.ref 171, .int a, .int w, .int k] D Q := by
  subst hV
  refine ent m125 rfl rfl (ls := [.ref 171, .int a, .int w, .int k, .retAddr 0, .retAddr 0, .retAddr 0]) rfl ?_
  refine w_ald0 i125_0 ?_
  refine w_gfR i125_1 (by decide) s_171 rfl ?_
  refine w_const i125_4 kc_0 ?_
  refine w_ial i125_5 s_172 (by decide) (by omega) hn ?_
  refine w_ist4 i125_6 ?_
  refine w_ald0 i125_8 ?_
  refine w_ild1 i125_9 ?_
  refine w_vI2 i125_10 c120 (Or.inl rfl) ⟨by decide +kernel, by decide⟩ rfl ⟨rfl, Nat.le_of_ble_eq_true rfl⟩ (T_tray hn h12) ?_
  refine w_ild2 i125_13 ?_
  refine w_iadd i125_14 rfl ?_
  refine w_const i125_15 kc_1 ?_
  refine w_iadd i125_16 rfl ?_
  refine w_ist5 i125_17 ?_
  refine w_ild5 i125_19 ?_
  refine w_bip i125_21 kb_60 ?_
  refine w_cle i125_23 g125_23  (fun h23 => ?_) (fun h23 => ?_)
  · skip
    refine w_ild4 i125_34 ?_
    refine w_bip i125_36 kb_12 ?_
    refine w_cneN i125_38 g125_38 (by omega) (by omega) (fun h38 => ?_) (fun h38 => ?_)
    · skip
      refine w_const i125_49 kc_0 ?_
      refine w_ist6 i125_50 ?_
      refine wpD (D2 := setc D 172 (clr (D 172) n 0)) (by rw [clr0, setc_self]) ?_
      refine down0 (n := 8) (P := fun i => Wp _ _ _ 52 [.ref 171, .int a, .int w, .int k, .int (nI n), .int (mTray n (D 172) a + w + nI 1), .int (nI i)] [] (setc D 172 (clr (D 172) n i))) ?_ ?_
      · skip
        refine w_ild6 i125_52 ?_
        refine w_bip i125_54 kb_8 ?_
        refine w_cgeNT i125_56 g125_56 (by omega) (by omega) (by omega) ?_
        refine w_ald0 i125_78 ?_
        refine w_gfR i125_79 (by decide) s_171 rfl ?_
        refine w_ild4 i125_82 ?_
        refine w_const i125_84 kc_0 ?_
        refine w_sI2 i125_85 c115 rfl  rfl ⟨rfl, Nat.le_of_ble_eq_true rfl⟩ T_in ?_
        refine w_ild1 i125_88 ?_
        refine w_ias i125_89 s_172 (by decide) (by omega) ?_
        refine w_ald0 i125_90 ?_
        refine w_gfR i125_91 (by decide) s_171 rfl ?_
        refine w_ild4 i125_94 ?_
        refine w_const i125_96 kc_1 ?_
        refine w_sI2 i125_97 c115 rfl  rfl ⟨rfl, Nat.le_of_ble_eq_true rfl⟩ T_in ?_
        refine w_ild2 i125_100 ?_
        refine w_ias i125_101 s_172 (by decide) (by omega) ?_
        refine w_ald0 i125_102 ?_
        refine w_gfR i125_103 (by decide) s_171 rfl ?_
        refine w_ild4 i125_106 ?_
        refine w_const i125_108 kc_2 ?_
        refine w_sI2 i125_109 c115 rfl  rfl ⟨rfl, Nat.le_of_ble_eq_true rfl⟩ T_in ?_
        refine w_ild3 i125_112 ?_
        refine w_ias i125_113 s_172 (by decide) (by omega) ?_
        refine w_ald0 i125_114 ?_
        refine w_gfR i125_115 (by decide) s_171 rfl ?_
        refine w_const i125_118 kc_0 ?_
        refine w_dup2 i125_119 rfl rfl ?_
        refine w_ial i125_120 s_172 (by decide) (by omega) ((mupJ (by omega)).trans ((mupJ (by omega)).trans ((mupJ (by omega)).trans ((show clr (D 172) n 8 0 = D 172 0 from by unfold clr; rw [if_neg (by omega)]).trans hn)))) ?_
        refine w_const i125_121 kc_1 ?_
        refine w_iadd i125_122 (nI_add _ _) ?_
        refine w_ias i125_123 s_172 (by decide) (by omega) ?_
        refine w_ild4 i125_124 ?_
        refine w_ri i125_126 r125 ?_
        have h := OutF (OutT h h23) h38
        exact OutS h _ rfl (by intro q hq; simp only [mupF hq, setcF hq])
      · intro i hi ih
        refine w_ild6 i125_52 ?_
        refine w_bip i125_54 kb_8 ?_
        refine w_cgeNF i125_56 (by omega) (by omega) (by omega) ?_
        refine w_ald0 i125_59 ?_
        refine w_gfR i125_60 (by decide) s_171 rfl ?_
        refine w_ild4 i125_63 ?_
        refine w_ild6 i125_65 ?_
        refine w_sI2 i125_67 c115 rfl  rfl ⟨rfl, Nat.le_of_ble_eq_true rfl⟩ T_in ?_
        refine w_const i125_70 kc_0 ?_
        refine w_ias i125_71 s_172 (by decide) (by omega) ?_
        refine w_inc6 i125_72 (inc1 _) ?_
        refine w_goto i125_75 g125_75 ?_
        rw [mup_setc, clrS]; exact ih
    · skip
      refine w_ald0 i125_41 ?_
      refine w_const i125_42 kc_1 ?_
      refine w_bip i125_43 kb_12 ?_
      refine w_vI3 i125_45 c109 (Or.inl rfl) ⟨by decide +kernel, by decide⟩ rfl ⟨rfl, Nat.le_of_ble_eq_true rfl⟩ T_refuses ?_
      refine w_ri i125_48 r125 ?_
      have h := OutT (OutT h h23) h38
      exact h _ rfl (by intro q hq hq2; simp only [mRef, mupF hq, mupF hq2, setcF hq2])
  · skip
    refine w_ald0 i125_26 ?_
    refine w_const i125_27 kc_3 ?_
    refine w_ild5 i125_28 ?_
    refine w_vI3 i125_30 c109 (Or.inl rfl) ⟨by decide +kernel, by decide⟩ rfl ⟨rfl, Nat.le_of_ble_eq_true rfl⟩ T_refuses ?_
    refine w_ri i125_33 r125 ?_
    have h := OutF h (Int32.not_le.mpr h23)
    exact h _ rfl (by intro q hq hq2; simp only [mRef, mupF hq, mupF hq2, setcF hq2])
theorem OutMm {o : Out} {D : Mm} {Q Q2 : Option Value → Mm → Prop} (hq : ∀ a D2, Q (some (.int a)) D2 → Q2 (some (.int a)) D2) (h : OutM o D Q) : OutM o D Q2 := by
  unfold OutM at h ⊢
  split
  · intro D2 h1 h2
    exact hq _ _ (h D2 h1 h2)
  · intro D2 h1 h2 h3
    exact hq _ _ (h D2 h1 h2 h3)
noncomputable def vComes (n : Nat) (V : Nat → Int32) (j : Nat) (w k : Int32) : Out :=
  ifp (badM w k) (.inl (-1012, [])) (ifp (vOpen V j) (vMakes n (vup V 1 (V 1 + w)) (nI j) w k) (.inl (-1014, [(nI 2, nI j)])))
noncomputable def vMoulds (n : Nat) (V : Nat → Int32) (j : Nat) (w k : Int32) : Out :=
  ifp (badM w k) (.inl (-1012, [])) (ifp (vOpen V j) (ifp (w ≤ V (6 + 4 * j + 2)) (vMakes n (vup V (6 + 4 * j + 2) (V (6 + 4 * j + 2) - w)) (nI j) w k) (.inl (-1014, [(nI 13, V (6 + 4 * j + 2))]))) (.inl (-1014, [(nI 2, nI j)])))
noncomputable def vBurn2 (s : Nat) (p : Int32) (V : Nat → Int32) : Out := ifp (V (30 + 8 * s + 1) = 0) (.inr (p, vGoes V s)) (.inr (p, V))
def vB6 (V : Nat → Int32) (s : Nat) (x l p : Int32) : Nat → Int32 :=
  let V1 := vup V (30 + 8 * s + 1) (V (30 + 8 * s + 1) - x)
  let V2 := vup V1 2 (V1 2 + x)
  let V3 := vup V2 3 (V2 3 + l)
  let V4 := vup V3 (30 + 8 * s + 7) (V3 (30 + 8 * s + 7) + l)
  let V5 := vup V4 (30 + 8 * s + 4) (V4 (30 + 8 * s + 4) - p)
  vup V5 4 (V5 4 + p)
noncomputable def vBurn1 (s : Nat) (p : Int32) (V : Nat → Int32) : Out := ifp (V (30 + 8 * s + 4) = 0) (vBurn2 s p (vup V (30 + 8 * s + 3) (nI 0))) (vBurn2 s p V)
noncomputable def vBurns (V : Nat → Int32) (s : Nat) (x : Int32) : Out :=
  ifp (badR x (nI 1) (nI 30)) (.inl (-1012, [])) (ifp (V (30 + 8 * s + 6) ≤ 0)
    (ifp (x ≤ V (30 + 8 * s + 1)) (ifp (V (30 + 8 * s + 4) < x * V (30 + 8 * s + 2)) (vBurn1 s (V (30 + 8 * s + 4)) (vB6 V s x (x * V (30 + 8 * s + 2)) (V (30 + 8 * s + 4)))) (vBurn1 s (x * V (30 + 8 * s + 2)) (vB6 V s x (x * V (30 + 8 * s + 2)) (x * V (30 + 8 * s + 2)))))
      (.inl (-1014, [(nI 4, nI s), (nI 6, V (30 + 8 * s + 1))])))
    (.inl (-1014, [(nI 4, nI s), (nI 5, V (30 + 8 * s + 5))])))
noncomputable def vOwes (n : Nat) (V : Nat → Int32) (s j : Nat) (x : Int32) : Out :=
  ifp (badR x (nI 1) (nI 90)) (.inl (-1012, [])) (ifp (vOpen V j) (ifp (V (30 + 8 * s + 0) = nI j) (.inl (-1014, [(nI 8, nI j)]))
    (ifp (V (30 + 8 * s + 3) ≤ 0) (.inr (mOwed n (vup (vup V (30 + 8 * s + 3) (nI (j + 1))) (30 + 8 * s + 4) x) (nI j), vup (vup V (30 + 8 * s + 3) (nI (j + 1))) (30 + 8 * s + 4) x))
      (.inl (-1014, [(nI 7, V (30 + 8 * s + 3) - nI 1)])))) (.inl (-1014, [(nI 2, nI j)])))
noncomputable def vSnuffs (n : Nat) (V : Nat → Int32) (j s : Nat) (x : Int32) : Out :=
  ifp (badR x (nI 1) (nI 24)) (.inl (-1012, [])) (ifp (vOpen V j) (ifp (V (30 + 8 * s + 0) = nI j) (.inl (-1014, [(nI 8, nI j)]))
    (ifp (V (30 + 8 * s + 6) ≤ 0) (ifp (mWritsH n V (nI j) = nI 2) (.inl (-1014, [(nI 1, nI 2)])) (.inr (mWrits n (vup (vup V (30 + 8 * s + 6) (nI (j + 1))) (30 + 8 * s + 5) x), vup (vup V (30 + 8 * s + 6) (nI (j + 1))) (30 + 8 * s + 5) x)))
      (.inl (-1014, [(nI 9, V (30 + 8 * s + 5))])))) (.inl (-1014, [(nI 2, nI j)])))
noncomputable def vPools (V : Nat → Int32) (s o : Nat) (x : Int32) : Out :=
  ifp (badR x (nI 1) (nI 30)) (.inl (-1012, [])) (ifp (x ≤ V (30 + 8 * s + 1))
    (ifp (V (30 + 8 * s + 1) = x) (.inr (mPooled (vGoes (vup (vup V (6 + 4 * o + 3) (V (6 + 4 * o + 3) + x)) (30 + 8 * s + 1) (V (30 + 8 * s + 1) - x)) s), vGoes (vup (vup V (6 + 4 * o + 3) (V (6 + 4 * o + 3) + x)) (30 + 8 * s + 1) (V (30 + 8 * s + 1) - x)) s))
      (.inr (mPooled (vup (vup V (6 + 4 * o + 3) (V (6 + 4 * o + 3) + x)) (30 + 8 * s + 1) (V (30 + 8 * s + 1) - x)), vup (vup V (6 + 4 * o + 3) (V (6 + 4 * o + 3) + x)) (30 + 8 * s + 1) (V (30 + 8 * s + 1) - x))))
    (.inl (-1014, [(nI 10, V (30 + 8 * s + 1))])))
noncomputable def vTells (V : Nat → Int32) (j i : Nat) : Out := ifp (V (6 + 4 * j + 1) = nI i) (.inl (-1014, [(nI 14, nI i)])) (.inr (V (6 + 4 * j + 1), vup V (6 + 4 * j + 1) (nI i)))
def mRB (D : Mm) (s b w : Int32) : Mm := mup (mup (mRef D (nI 4) s) 171 4 b) 171 5 w
theorem T_refusesBurning {d : Nat} {D : Mm} {s b w : Int32} : Ct (d + 3) 128 [.ref 171, .int s, .int b, .int w] D (Ex (some (.int (-1014))) (mRB D s b w)) := by
  refine ent m128 rfl rfl (ls := [.ref 171, .int s, .int b, .int w, .retAddr 0]) rfl ?_
  refine w_ald0 i128_0 ?_
  refine w_const i128_1 kc_4 ?_
  refine w_ild1 i128_2 ?_
  refine w_vI3 i128_3 c109 (Or.inl rfl) ⟨by decide +kernel, by decide⟩ rfl ⟨rfl, Nat.le_of_ble_eq_true rfl⟩ T_refuses ?_
  refine w_ist4 i128_6 ?_
  refine w_ald0 i128_8 ?_
  refine w_ild2 i128_9 ?_
  refine w_pf0 i128_10 (by decide) s_171 rfl ?_
  refine w_ald0 i128_13 ?_
  refine w_ild3 i128_14 ?_
  refine w_pf0 i128_15 (by decide) s_171 rfl ?_
  refine w_ild4 i128_18 ?_
  refine w_ri i128_20 r128 ?_
  exact ⟨rfl, rfl⟩
theorem T_comes_bad {d : Nat} {D : Mm} {Q : Option Value → Mm → Prop} {a w k : Int32} (hb : badH a) (h : OutM (.inl (-1011, [])) D Q) : Ct (d + 4) 126 [.ref 171, .int a, .int w, .int k] D Q := by
  refine ent m126 rfl rfl (ls := [.ref 171, .int a, .int w, .int k]) rfl ?_
  refine w_ild1 i126_0 ?_
  refine w_sI1 i126_1 c116 rfl  rfl ⟨rfl, Nat.le_of_ble_eq_true rfl⟩ (T_isHouse_f hb) ?_
  refine w_ineNF i126_4 (by omega) (by omega) ?_
  refine w_ald0 i126_7 ?_
  refine w_sip i126_8 ks_m1011 ?_
  refine w_vI2 i126_11 c108 (Or.inl rfl) ⟨by decide +kernel, by decide⟩ rfl ⟨rfl, Nat.le_of_ble_eq_true rfl⟩ T_fail ?_
  refine w_ri i126_14 r126 ?_
  exact h _ rfl (by intro q hq hq2; simp only [mRB, mRef, mupF hq, mupF hq2, setcF hq2])
theorem T_comes {d : Nat} {D : Mm} {Q : Option Value → Mm → Prop} {V : Nat → Int32} {n : Nat} (hV : D 172 = V) (hn : V 0 = nI n) (h12 : n ≤ 12) {j : Nat} (hj : j < 6) {w k : Int32} (h : OutM (vComes n V j w k) D Q) : Ct (d + 4) 126 [.ref 171, .int (nI j), .int w, .int k] D Q := by
  subst hV
  refine ent m126 rfl rfl (ls := [.ref 171, .int (nI j), .int w, .int k]) rfl ?_
  refine w_ild1 i126_0 ?_
  refine w_sI1 i126_1 c116 rfl  rfl ⟨rfl, Nat.le_of_ble_eq_true rfl⟩ (T_isHouse_t hj) ?_
  refine w_ineNT i126_4 g126_4 (by omega) (by omega) ?_
  refine w_ild2 i126_15 ?_
  refine w_ild3 i126_16 ?_
  by_cases hM : badM w k
  · skip
    refine w_sI2 i126_17 c124 rfl  rfl ⟨rfl, Nat.le_of_ble_eq_true rfl⟩ (T_isMade_f hM) ?_
    refine w_ineNF i126_20 (by omega) (by omega) ?_
    refine w_ald0 i126_23 ?_
    refine w_sip i126_24 ks_m1012 ?_
    refine w_vI2 i126_27 c108 (Or.inl rfl) ⟨by decide +kernel, by decide⟩ rfl ⟨rfl, Nat.le_of_ble_eq_true rfl⟩ T_fail ?_
    refine w_ri i126_30 r126 ?_
    exact (OutT h hM) _ rfl (by intro q hq hq2; simp only [mRB, mRef, mupF hq, mupF hq2, setcF hq2])
  · skip
    refine w_sI2 i126_17 c124 rfl  rfl ⟨rfl, Nat.le_of_ble_eq_true rfl⟩ (T_isMade_t hM) ?_
    refine w_ineNT i126_20 g126_20 (by omega) (by omega) ?_
    refine w_ald0 i126_31 ?_
    refine w_ild1 i126_32 ?_
    by_cases hO : vOpen (D 172) j
    · skip
      refine w_vI2 i126_33 c118 (Or.inl rfl) ⟨by decide +kernel, by decide⟩ rfl ⟨rfl, Nat.le_of_ble_eq_true rfl⟩ (T_isOpen_t hj hO) ?_
      refine w_ineNT i126_36 g126_36 (by omega) (by omega) ?_
      refine w_ald0 i126_46 ?_
      refine w_gfR i126_47 (by decide) s_171 rfl ?_
      refine w_const i126_50 kc_1 ?_
      refine w_dup2 i126_51 rfl rfl ?_
      refine w_ial i126_52 s_172 (by decide) (by omega) rfl ?_
      refine w_ild2 i126_53 ?_
      refine w_iadd i126_54 rfl ?_
      refine w_ias i126_55 s_172 (by decide) (by omega) ?_
      refine w_ald0 i126_56 ?_
      refine w_ild1 i126_57 ?_
      refine w_ild2 i126_58 ?_
      refine w_ild3 i126_59 ?_
      refine w_vG4 i126_60 c125 (Or.inl rfl) ⟨by decide +kernel, by decide⟩ rfl ⟨rfl, Nat.le_of_ble_eq_true rfl⟩ ?_
      exact T_makes mupU ((updJ (by decide)).trans hn) h12 (OutMm (fun a D2 hq => w_ri i126_63 r126 hq) (OutP (fun q hq => by simp only [mupF hq]) (OutT (OutF h hM) hO)))
    · skip
      refine w_vI2 i126_33 c118 (Or.inl rfl) ⟨by decide +kernel, by decide⟩ rfl ⟨rfl, Nat.le_of_ble_eq_true rfl⟩ (T_isOpen_f hj hO) ?_
      refine w_ineNF i126_36 (by omega) (by omega) ?_
      refine w_ald0 i126_39 ?_
      refine w_const i126_40 kc_2 ?_
      refine w_ild1 i126_41 ?_
      refine w_vI3 i126_42 c109 (Or.inl rfl) ⟨by decide +kernel, by decide⟩ rfl ⟨rfl, Nat.le_of_ble_eq_true rfl⟩ T_refuses ?_
      refine w_ri i126_45 r126 ?_
      exact (OutF (OutF h hM) hO) _ rfl (by intro q hq hq2; simp only [mRB, mRef, mupF hq, mupF hq2, setcF hq2])
theorem T_moulds_bad {d : Nat} {D : Mm} {Q : Option Value → Mm → Prop} {a w k : Int32} (hb : badH a) (h : OutM (.inl (-1011, [])) D Q) : Ct (d + 4) 146 [.ref 171, .int a, .int w, .int k] D Q := by
  refine ent m146 rfl rfl (ls := [.ref 171, .int a, .int w, .int k]) rfl ?_
  refine w_ild1 i146_0 ?_
  refine w_sI1 i146_1 c116 rfl  rfl ⟨rfl, Nat.le_of_ble_eq_true rfl⟩ (T_isHouse_f hb) ?_
  refine w_ineNF i146_4 (by omega) (by omega) ?_
  refine w_ald0 i146_7 ?_
  refine w_sip i146_8 ks_m1011 ?_
  refine w_vI2 i146_11 c108 (Or.inl rfl) ⟨by decide +kernel, by decide⟩ rfl ⟨rfl, Nat.le_of_ble_eq_true rfl⟩ T_fail ?_
  refine w_ri i146_14 r146 ?_
  exact h _ rfl (by intro q hq hq2; simp only [mRB, mRef, mupF hq, mupF hq2, setcF hq2])
theorem T_moulds {d : Nat} {D : Mm} {Q : Option Value → Mm → Prop} {V : Nat → Int32} {n : Nat} (hV : D 172 = V) (hn : V 0 = nI n) (h12 : n ≤ 12) {j : Nat} (hj : j < 6) {w k : Int32} (h : OutM (vMoulds n V j w k) D Q) : Ct (d + 4) 146 [.ref 171, .int (nI j), .int w, .int k] D Q := by
  subst hV
  refine ent m146 rfl rfl (ls := [.ref 171, .int (nI j), .int w, .int k]) rfl ?_
  refine w_ild1 i146_0 ?_
  refine w_sI1 i146_1 c116 rfl  rfl ⟨rfl, Nat.le_of_ble_eq_true rfl⟩ (T_isHouse_t hj) ?_
  refine w_ineNT i146_4 g146_4 (by omega) (by omega) ?_
  refine w_ild2 i146_15 ?_
  refine w_ild3 i146_16 ?_
  by_cases hM : badM w k
  · skip
    refine w_sI2 i146_17 c124 rfl  rfl ⟨rfl, Nat.le_of_ble_eq_true rfl⟩ (T_isMade_f hM) ?_
    refine w_ineNF i146_20 (by omega) (by omega) ?_
    refine w_ald0 i146_23 ?_
    refine w_sip i146_24 ks_m1012 ?_
    refine w_vI2 i146_27 c108 (Or.inl rfl) ⟨by decide +kernel, by decide⟩ rfl ⟨rfl, Nat.le_of_ble_eq_true rfl⟩ T_fail ?_
    refine w_ri i146_30 r146 ?_
    exact (OutT h hM) _ rfl (by intro q hq hq2; simp only [mRB, mRef, mupF hq, mupF hq2, setcF hq2])
  · skip
    refine w_sI2 i146_17 c124 rfl  rfl ⟨rfl, Nat.le_of_ble_eq_true rfl⟩ (T_isMade_t hM) ?_
    refine w_ineNT i146_20 g146_20 (by omega) (by omega) ?_
    refine w_ald0 i146_31 ?_
    refine w_ild1 i146_32 ?_
    by_cases hO : vOpen (D 172) j
    · skip
      refine w_vI2 i146_33 c118 (Or.inl rfl) ⟨by decide +kernel, by decide⟩ rfl ⟨rfl, Nat.le_of_ble_eq_true rfl⟩ (T_isOpen_t hj hO) ?_
      refine w_ineNT i146_36 g146_36 (by omega) (by omega) ?_
      refine w_ald0 i146_46 ?_
      refine w_gfR i146_47 (by decide) s_171 rfl ?_
      refine w_ild1 i146_50 ?_
      refine w_const i146_51 kc_2 ?_
      refine w_sI2 i146_52 c114 rfl  rfl ⟨rfl, Nat.le_of_ble_eq_true rfl⟩ T_at ?_
      refine w_ial i146_55 s_172 (by decide) (by omega) rfl ?_
      refine w_ild2 i146_56 ?_
      refine w_cge i146_57 g146_57  (fun h57 => ?_) (fun h57 => ?_)
      · skip
        refine w_ald0 i146_77 ?_
        refine w_gfR i146_78 (by decide) s_171 rfl ?_
        refine w_ild1 i146_81 ?_
        refine w_const i146_82 kc_2 ?_
        refine w_sI2 i146_83 c114 rfl  rfl ⟨rfl, Nat.le_of_ble_eq_true rfl⟩ T_at ?_
        refine w_dup2 i146_86 rfl rfl ?_
        refine w_ial i146_87 s_172 (by decide) (by omega) rfl ?_
        refine w_ild2 i146_88 ?_
        refine w_isub i146_89 rfl ?_
        refine w_ias i146_90 s_172 (by decide) (by omega) ?_
        refine w_ald0 i146_91 ?_
        refine w_ild1 i146_92 ?_
        refine w_ild2 i146_93 ?_
        refine w_ild3 i146_94 ?_
        refine w_vG4 i146_95 c125 (Or.inl rfl) ⟨by decide +kernel, by decide⟩ rfl ⟨rfl, Nat.le_of_ble_eq_true rfl⟩ ?_
        exact T_makes mupU ((updJ (by omega)).trans hn) h12 (OutMm (fun a D2 hq => w_ri i146_98 r146 hq) (OutP (fun q hq => by simp only [mupF hq]) (OutT (OutT (OutF h hM) hO) h57)))
      · skip
        refine w_ald0 i146_60 ?_
        refine w_bip i146_61 kb_13 ?_
        refine w_ald0 i146_63 ?_
        refine w_gfR i146_64 (by decide) s_171 rfl ?_
        refine w_ild1 i146_67 ?_
        refine w_const i146_68 kc_2 ?_
        refine w_sI2 i146_69 c114 rfl  rfl ⟨rfl, Nat.le_of_ble_eq_true rfl⟩ T_at ?_
        refine w_ial i146_72 s_172 (by decide) (by omega) rfl ?_
        refine w_vI3 i146_73 c109 (Or.inl rfl) ⟨by decide +kernel, by decide⟩ rfl ⟨rfl, Nat.le_of_ble_eq_true rfl⟩ T_refuses ?_
        refine w_ri i146_76 r146 ?_
        exact (OutF (OutT (OutF h hM) hO) (Int32.not_le.mpr h57)) _ rfl (by intro q hq hq2; simp only [mRB, mRef, mupF hq, mupF hq2, setcF hq2])
    · skip
      refine w_vI2 i146_33 c118 (Or.inl rfl) ⟨by decide +kernel, by decide⟩ rfl ⟨rfl, Nat.le_of_ble_eq_true rfl⟩ (T_isOpen_f hj hO) ?_
      refine w_ineNF i146_36 (by omega) (by omega) ?_
      refine w_ald0 i146_39 ?_
      refine w_const i146_40 kc_2 ?_
      refine w_ild1 i146_41 ?_
      refine w_vI3 i146_42 c109 (Or.inl rfl) ⟨by decide +kernel, by decide⟩ rfl ⟨rfl, Nat.le_of_ble_eq_true rfl⟩ T_refuses ?_
      refine w_ri i146_45 r146 ?_
      exact (OutF (OutF h hM) hO) _ rfl (by intro q hq hq2; simp only [mRB, mRef, mupF hq, mupF hq2, setcF hq2])
theorem T_burns_bad {d : Nat} {D : Mm} {Q : Option Value → Mm → Prop} {n : Nat} {a x : Int32} (hn : D 172 0 = nI n) (h12 : n ≤ 12) (hb : badS n a) (h : OutM (.inl (-1011, [])) D Q) : Ct (d + 4) 129 [.ref 171, .int a, .int x] D Q := by
  refine ent m129 rfl rfl (ls := [.ref 171, .int a, .int x, .retAddr 0, .retAddr 0]) rfl ?_
  refine w_ald0 i129_0 ?_
  refine w_ild1 i129_1 ?_
  refine w_vI2 i129_2 c117 (Or.inl rfl) ⟨by decide +kernel, by decide⟩ rfl ⟨rfl, Nat.le_of_ble_eq_true rfl⟩ (T_isStub_f hn h12 hb) ?_
  refine w_ineNF i129_5 (by omega) (by omega) ?_
  refine w_ald0 i129_8 ?_
  refine w_sip i129_9 ks_m1011 ?_
  refine w_vI2 i129_12 c108 (Or.inl rfl) ⟨by decide +kernel, by decide⟩ rfl ⟨rfl, Nat.le_of_ble_eq_true rfl⟩ T_fail ?_
  refine w_ri i129_15 r129 ?_
  exact h _ rfl (by intro q hq hq2; simp only [mRB, mRef, mupF hq, mupF hq2, setcF hq2])
theorem T_burns {d : Nat} {D : Mm} {Q : Option Value → Mm → Prop} {V : Nat → Int32} {n : Nat} (hV : D 172 = V) (hn : V 0 = nI n) (h12 : n ≤ 12) {s : Nat} (hs : s < n) {x : Int32} (h : OutM (vBurns V s x) D Q) : Ct (d + 4) 129 [.ref 171, .int (nI s), .int x] D Q := by
  subst hV
  refine ent m129 rfl rfl (ls := [.ref 171, .int (nI s), .int x, .retAddr 0, .retAddr 0]) rfl ?_
  refine w_ald0 i129_0 ?_
  refine w_ild1 i129_1 ?_
  refine w_vI2 i129_2 c117 (Or.inl rfl) ⟨by decide +kernel, by decide⟩ rfl ⟨rfl, Nat.le_of_ble_eq_true rfl⟩ (T_isStub_t hn h12 hs) ?_
  refine w_ineNT i129_5 g129_5 (by omega) (by omega) ?_
  refine w_ild2 i129_16 ?_
  refine w_const i129_17 kc_1 ?_
  refine w_bip i129_18 kb_30 ?_
  by_cases hB : badR x (nI 1) (nI 30)
  · skip
    refine w_sI3 i129_20 c110 rfl  rfl ⟨rfl, Nat.le_of_ble_eq_true rfl⟩ (T_isIn_f hB) ?_
    refine w_ineNF i129_23 (by omega) (by omega) ?_
    refine w_ald0 i129_26 ?_
    refine w_sip i129_27 ks_m1012 ?_
    refine w_vI2 i129_30 c108 (Or.inl rfl) ⟨by decide +kernel, by decide⟩ rfl ⟨rfl, Nat.le_of_ble_eq_true rfl⟩ T_fail ?_
    refine w_ri i129_33 r129 ?_
    exact (OutT h hB) _ rfl (by intro q hq hq2; simp only [mRB, mRef, mupF hq, mupF hq2, setcF hq2])
  · skip
    refine w_sI3 i129_20 c110 rfl  rfl ⟨rfl, Nat.le_of_ble_eq_true rfl⟩ (T_isIn_t hB) ?_
    refine w_ineNT i129_23 g129_23 (by omega) (by omega) ?_
    refine w_ald0 i129_34 ?_
    refine w_gfR i129_35 (by decide) s_171 rfl ?_
    refine w_ild1 i129_38 ?_
    refine w_bip i129_39 kb_6 ?_
    refine w_sI2 i129_41 c115 rfl  rfl ⟨rfl, Nat.le_of_ble_eq_true rfl⟩ T_in ?_
    refine w_ial i129_44 s_172 (by decide) (by omega) rfl ?_
    refine w_ile i129_45 g129_45  (fun h45 => ?_) (fun h45 => ?_)
    · skip
      refine w_ald0 i129_65 ?_
      refine w_gfR i129_66 (by decide) s_171 rfl ?_
      refine w_ild1 i129_69 ?_
      refine w_const i129_70 kc_1 ?_
      refine w_sI2 i129_71 c115 rfl  rfl ⟨rfl, Nat.le_of_ble_eq_true rfl⟩ T_in ?_
      refine w_ial i129_74 s_172 (by decide) (by omega) rfl ?_
      refine w_ild2 i129_75 ?_
      refine w_cge i129_76 g129_76  (fun h76 => ?_) (fun h76 => ?_)
      · skip
        refine w_ild2 i129_97 ?_
        refine w_ald0 i129_98 ?_
        refine w_gfR i129_99 (by decide) s_171 rfl ?_
        refine w_ild1 i129_102 ?_
        refine w_const i129_103 kc_2 ?_
        refine w_sI2 i129_104 c115 rfl  rfl ⟨rfl, Nat.le_of_ble_eq_true rfl⟩ T_in ?_
        refine w_ial i129_107 s_172 (by decide) (by omega) rfl ?_
        refine w_imul i129_108 rfl ?_
        refine w_ist3 i129_109 ?_
        refine w_ald0 i129_110 ?_
        refine w_gfR i129_111 (by decide) s_171 rfl ?_
        refine w_ild1 i129_114 ?_
        refine w_const i129_115 kc_4 ?_
        refine w_sI2 i129_116 c115 rfl  rfl ⟨rfl, Nat.le_of_ble_eq_true rfl⟩ T_in ?_
        refine w_ial i129_119 s_172 (by decide) (by omega) rfl ?_
        refine w_ild3 i129_120 ?_
        refine w_cge i129_121 g129_121  (fun h121 => ?_) (fun h121 => ?_)
        · skip
          refine w_ild3 i129_137 ?_
          refine w_ist4 i129_138 ?_
          refine w_ald0 i129_140 ?_
          refine w_gfR i129_141 (by decide) s_171 rfl ?_
          refine w_ild1 i129_144 ?_
          refine w_const i129_145 kc_1 ?_
          refine w_sI2 i129_146 c115 rfl  rfl ⟨rfl, Nat.le_of_ble_eq_true rfl⟩ T_in ?_
          refine w_dup2 i129_149 rfl rfl ?_
          refine w_ial i129_150 s_172 (by decide) (by omega) rfl ?_
          refine w_ild2 i129_151 ?_
          refine w_isub i129_152 rfl ?_
          refine w_ias i129_153 s_172 (by decide) (by omega) ?_
          refine w_ald0 i129_154 ?_
          refine w_gfR i129_155 (by decide) s_171 rfl ?_
          refine w_const i129_158 kc_2 ?_
          refine w_dup2 i129_159 rfl rfl ?_
          refine w_ial i129_160 s_172 (by decide) (by omega) rfl ?_
          refine w_ild2 i129_161 ?_
          refine w_iadd i129_162 rfl ?_
          refine w_ias i129_163 s_172 (by decide) (by omega) ?_
          refine w_ald0 i129_164 ?_
          refine w_gfR i129_165 (by decide) s_171 rfl ?_
          refine w_const i129_168 kc_3 ?_
          refine w_dup2 i129_169 rfl rfl ?_
          refine w_ial i129_170 s_172 (by decide) (by omega) rfl ?_
          refine w_ild3 i129_171 ?_
          refine w_iadd i129_172 rfl ?_
          refine w_ias i129_173 s_172 (by decide) (by omega) ?_
          refine w_ald0 i129_174 ?_
          refine w_gfR i129_175 (by decide) s_171 rfl ?_
          refine w_ild1 i129_178 ?_
          refine w_bip i129_179 kb_7 ?_
          refine w_sI2 i129_181 c115 rfl  rfl ⟨rfl, Nat.le_of_ble_eq_true rfl⟩ T_in ?_
          refine w_dup2 i129_184 rfl rfl ?_
          refine w_ial i129_185 s_172 (by decide) (by omega) rfl ?_
          refine w_ild3 i129_186 ?_
          refine w_iadd i129_187 rfl ?_
          refine w_ias i129_188 s_172 (by decide) (by omega) ?_
          refine w_ald0 i129_189 ?_
          refine w_gfR i129_190 (by decide) s_171 rfl ?_
          refine w_ild1 i129_193 ?_
          refine w_const i129_194 kc_4 ?_
          refine w_sI2 i129_195 c115 rfl  rfl ⟨rfl, Nat.le_of_ble_eq_true rfl⟩ T_in ?_
          refine w_dup2 i129_198 rfl rfl ?_
          refine w_ial i129_199 s_172 (by decide) (by omega) rfl ?_
          refine w_ild4 i129_200 ?_
          refine w_isub i129_202 rfl ?_
          refine w_ias i129_203 s_172 (by decide) (by omega) ?_
          refine w_ald0 i129_204 ?_
          refine w_gfR i129_205 (by decide) s_171 rfl ?_
          refine w_const i129_208 kc_4 ?_
          refine w_dup2 i129_209 rfl rfl ?_
          refine w_ial i129_210 s_172 (by decide) (by omega) rfl ?_
          refine w_ild4 i129_211 ?_
          refine w_iadd i129_213 rfl ?_
          refine w_ias i129_214 s_172 (by decide) (by omega) ?_
          refine w_ald0 i129_215 ?_
          refine w_gfR i129_216 (by decide) s_171 rfl ?_
          refine w_ild1 i129_219 ?_
          refine w_const i129_220 kc_4 ?_
          refine w_sI2 i129_221 c115 rfl  rfl ⟨rfl, Nat.le_of_ble_eq_true rfl⟩ T_in ?_
          refine w_ial i129_224 s_172 (by decide) (by omega) rfl ?_
          refine w_ine i129_225 g129_225  (fun h225 => ?_) (fun h225 => ?_)
          · skip
            refine w_ald0 i129_239 ?_
            refine w_gfR i129_240 (by decide) s_171 rfl ?_
            refine w_ild1 i129_243 ?_
            refine w_const i129_244 kc_1 ?_
            refine w_sI2 i129_245 c115 rfl  rfl ⟨rfl, Nat.le_of_ble_eq_true rfl⟩ T_in ?_
            refine w_ial i129_248 s_172 (by decide) (by omega) rfl ?_
            refine w_ine i129_249 g129_249  (fun h249 => ?_) (fun h249 => ?_)
            · skip
              refine w_ild4 i129_257 ?_
              refine w_ri i129_259 r129 ?_
              first
                | (exact OutS (OutT (OutT (OutT (OutT (OutT (OutF h hB) h45) h76) h121) h225) h249) _ rfl (by intro q hq; simp only [mupF hq, setcF hq]))
                | (exact OutS (OutF (OutT (OutT (OutT (OutT (OutF h hB) h45) h76) h121) h225) h249) _ rfl (by intro q hq; simp only [mupF hq, setcF hq]))
                | (exact OutS (OutT (OutF (OutT (OutT (OutT (OutF h hB) h45) h76) h121) h225) h249) _ rfl (by intro q hq; simp only [mupF hq, setcF hq]))
                | (exact OutS (OutF (OutF (OutT (OutT (OutT (OutF h hB) h45) h76) h121) h225) h249) _ rfl (by intro q hq; simp only [mupF hq, setcF hq]))
                | (exact OutS (OutT (OutT (OutF (OutT (OutT (OutF h hB) h45) h76) (Int32.not_lt.mpr h121)) h225) h249) _ rfl (by intro q hq; simp only [mupF hq, setcF hq]))
                | (exact OutS (OutF (OutT (OutF (OutT (OutT (OutF h hB) h45) h76) (Int32.not_lt.mpr h121)) h225) h249) _ rfl (by intro q hq; simp only [mupF hq, setcF hq]))
                | (exact OutS (OutT (OutF (OutF (OutT (OutT (OutF h hB) h45) h76) (Int32.not_lt.mpr h121)) h225) h249) _ rfl (by intro q hq; simp only [mupF hq, setcF hq]))
                | (exact OutS (OutF (OutF (OutF (OutT (OutT (OutF h hB) h45) h76) (Int32.not_lt.mpr h121)) h225) h249) _ rfl (by intro q hq; simp only [mupF hq, setcF hq]))
            · skip
              refine w_ald0 i129_252 ?_
              refine w_ild1 i129_253 ?_
              refine w_vV2 i129_254 c121 (Or.inl rfl) ⟨by decide +kernel, by decide⟩ rfl ⟨rfl, Nat.le_of_ble_eq_true rfl⟩ (T_goes (by omega)) ?_
              refine w_ild4 i129_257 ?_
              refine w_ri i129_259 r129 ?_
              first
                | (exact OutS (OutT (OutT (OutT (OutT (OutT (OutF h hB) h45) h76) h121) h225) h249) _ rfl (by intro q hq; simp only [mupF hq, setcF hq]))
                | (exact OutS (OutF (OutT (OutT (OutT (OutT (OutF h hB) h45) h76) h121) h225) h249) _ rfl (by intro q hq; simp only [mupF hq, setcF hq]))
                | (exact OutS (OutT (OutF (OutT (OutT (OutT (OutF h hB) h45) h76) h121) h225) h249) _ rfl (by intro q hq; simp only [mupF hq, setcF hq]))
                | (exact OutS (OutF (OutF (OutT (OutT (OutT (OutF h hB) h45) h76) h121) h225) h249) _ rfl (by intro q hq; simp only [mupF hq, setcF hq]))
                | (exact OutS (OutT (OutT (OutF (OutT (OutT (OutF h hB) h45) h76) (Int32.not_lt.mpr h121)) h225) h249) _ rfl (by intro q hq; simp only [mupF hq, setcF hq]))
                | (exact OutS (OutF (OutT (OutF (OutT (OutT (OutF h hB) h45) h76) (Int32.not_lt.mpr h121)) h225) h249) _ rfl (by intro q hq; simp only [mupF hq, setcF hq]))
                | (exact OutS (OutT (OutF (OutF (OutT (OutT (OutF h hB) h45) h76) (Int32.not_lt.mpr h121)) h225) h249) _ rfl (by intro q hq; simp only [mupF hq, setcF hq]))
                | (exact OutS (OutF (OutF (OutF (OutT (OutT (OutF h hB) h45) h76) (Int32.not_lt.mpr h121)) h225) h249) _ rfl (by intro q hq; simp only [mupF hq, setcF hq]))
          · skip
            refine w_ald0 i129_228 ?_
            refine w_gfR i129_229 (by decide) s_171 rfl ?_
            refine w_ild1 i129_232 ?_
            refine w_const i129_233 kc_3 ?_
            refine w_sI2 i129_234 c115 rfl  rfl ⟨rfl, Nat.le_of_ble_eq_true rfl⟩ T_in ?_
            refine w_const i129_237 kc_0 ?_
            refine w_ias i129_238 s_172 (by decide) (by omega) ?_
            refine w_ald0 i129_239 ?_
            refine w_gfR i129_240 (by decide) s_171 rfl ?_
            refine w_ild1 i129_243 ?_
            refine w_const i129_244 kc_1 ?_
            refine w_sI2 i129_245 c115 rfl  rfl ⟨rfl, Nat.le_of_ble_eq_true rfl⟩ T_in ?_
            refine w_ial i129_248 s_172 (by decide) (by omega) rfl ?_
            refine w_ine i129_249 g129_249  (fun h249 => ?_) (fun h249 => ?_)
            · skip
              refine w_ild4 i129_257 ?_
              refine w_ri i129_259 r129 ?_
              first
                | (exact OutS (OutT (OutT (OutT (OutT (OutT (OutF h hB) h45) h76) h121) h225) h249) _ rfl (by intro q hq; simp only [mupF hq, setcF hq]))
                | (exact OutS (OutF (OutT (OutT (OutT (OutT (OutF h hB) h45) h76) h121) h225) h249) _ rfl (by intro q hq; simp only [mupF hq, setcF hq]))
                | (exact OutS (OutT (OutF (OutT (OutT (OutT (OutF h hB) h45) h76) h121) h225) h249) _ rfl (by intro q hq; simp only [mupF hq, setcF hq]))
                | (exact OutS (OutF (OutF (OutT (OutT (OutT (OutF h hB) h45) h76) h121) h225) h249) _ rfl (by intro q hq; simp only [mupF hq, setcF hq]))
                | (exact OutS (OutT (OutT (OutF (OutT (OutT (OutF h hB) h45) h76) (Int32.not_lt.mpr h121)) h225) h249) _ rfl (by intro q hq; simp only [mupF hq, setcF hq]))
                | (exact OutS (OutF (OutT (OutF (OutT (OutT (OutF h hB) h45) h76) (Int32.not_lt.mpr h121)) h225) h249) _ rfl (by intro q hq; simp only [mupF hq, setcF hq]))
                | (exact OutS (OutT (OutF (OutF (OutT (OutT (OutF h hB) h45) h76) (Int32.not_lt.mpr h121)) h225) h249) _ rfl (by intro q hq; simp only [mupF hq, setcF hq]))
                | (exact OutS (OutF (OutF (OutF (OutT (OutT (OutF h hB) h45) h76) (Int32.not_lt.mpr h121)) h225) h249) _ rfl (by intro q hq; simp only [mupF hq, setcF hq]))
            · skip
              refine w_ald0 i129_252 ?_
              refine w_ild1 i129_253 ?_
              refine w_vV2 i129_254 c121 (Or.inl rfl) ⟨by decide +kernel, by decide⟩ rfl ⟨rfl, Nat.le_of_ble_eq_true rfl⟩ (T_goes (by omega)) ?_
              refine w_ild4 i129_257 ?_
              refine w_ri i129_259 r129 ?_
              first
                | (exact OutS (OutT (OutT (OutT (OutT (OutT (OutF h hB) h45) h76) h121) h225) h249) _ rfl (by intro q hq; simp only [mupF hq, setcF hq]))
                | (exact OutS (OutF (OutT (OutT (OutT (OutT (OutF h hB) h45) h76) h121) h225) h249) _ rfl (by intro q hq; simp only [mupF hq, setcF hq]))
                | (exact OutS (OutT (OutF (OutT (OutT (OutT (OutF h hB) h45) h76) h121) h225) h249) _ rfl (by intro q hq; simp only [mupF hq, setcF hq]))
                | (exact OutS (OutF (OutF (OutT (OutT (OutT (OutF h hB) h45) h76) h121) h225) h249) _ rfl (by intro q hq; simp only [mupF hq, setcF hq]))
                | (exact OutS (OutT (OutT (OutF (OutT (OutT (OutF h hB) h45) h76) (Int32.not_lt.mpr h121)) h225) h249) _ rfl (by intro q hq; simp only [mupF hq, setcF hq]))
                | (exact OutS (OutF (OutT (OutF (OutT (OutT (OutF h hB) h45) h76) (Int32.not_lt.mpr h121)) h225) h249) _ rfl (by intro q hq; simp only [mupF hq, setcF hq]))
                | (exact OutS (OutT (OutF (OutF (OutT (OutT (OutF h hB) h45) h76) (Int32.not_lt.mpr h121)) h225) h249) _ rfl (by intro q hq; simp only [mupF hq, setcF hq]))
                | (exact OutS (OutF (OutF (OutF (OutT (OutT (OutF h hB) h45) h76) (Int32.not_lt.mpr h121)) h225) h249) _ rfl (by intro q hq; simp only [mupF hq, setcF hq]))
        · skip
          refine w_ald0 i129_124 ?_
          refine w_gfR i129_125 (by decide) s_171 rfl ?_
          refine w_ild1 i129_128 ?_
          refine w_const i129_129 kc_4 ?_
          refine w_sI2 i129_130 c115 rfl  rfl ⟨rfl, Nat.le_of_ble_eq_true rfl⟩ T_in ?_
          refine w_ial i129_133 s_172 (by decide) (by omega) rfl ?_
          refine w_goto i129_134 g129_134 ?_
          refine w_ist4 i129_138 ?_
          refine w_ald0 i129_140 ?_
          refine w_gfR i129_141 (by decide) s_171 rfl ?_
          refine w_ild1 i129_144 ?_
          refine w_const i129_145 kc_1 ?_
          refine w_sI2 i129_146 c115 rfl  rfl ⟨rfl, Nat.le_of_ble_eq_true rfl⟩ T_in ?_
          refine w_dup2 i129_149 rfl rfl ?_
          refine w_ial i129_150 s_172 (by decide) (by omega) rfl ?_
          refine w_ild2 i129_151 ?_
          refine w_isub i129_152 rfl ?_
          refine w_ias i129_153 s_172 (by decide) (by omega) ?_
          refine w_ald0 i129_154 ?_
          refine w_gfR i129_155 (by decide) s_171 rfl ?_
          refine w_const i129_158 kc_2 ?_
          refine w_dup2 i129_159 rfl rfl ?_
          refine w_ial i129_160 s_172 (by decide) (by omega) rfl ?_
          refine w_ild2 i129_161 ?_
          refine w_iadd i129_162 rfl ?_
          refine w_ias i129_163 s_172 (by decide) (by omega) ?_
          refine w_ald0 i129_164 ?_
          refine w_gfR i129_165 (by decide) s_171 rfl ?_
          refine w_const i129_168 kc_3 ?_
          refine w_dup2 i129_169 rfl rfl ?_
          refine w_ial i129_170 s_172 (by decide) (by omega) rfl ?_
          refine w_ild3 i129_171 ?_
          refine w_iadd i129_172 rfl ?_
          refine w_ias i129_173 s_172 (by decide) (by omega) ?_
          refine w_ald0 i129_174 ?_
          refine w_gfR i129_175 (by decide) s_171 rfl ?_
          refine w_ild1 i129_178 ?_
          refine w_bip i129_179 kb_7 ?_
          refine w_sI2 i129_181 c115 rfl  rfl ⟨rfl, Nat.le_of_ble_eq_true rfl⟩ T_in ?_
          refine w_dup2 i129_184 rfl rfl ?_
          refine w_ial i129_185 s_172 (by decide) (by omega) rfl ?_
          refine w_ild3 i129_186 ?_
          refine w_iadd i129_187 rfl ?_
          refine w_ias i129_188 s_172 (by decide) (by omega) ?_
          refine w_ald0 i129_189 ?_
          refine w_gfR i129_190 (by decide) s_171 rfl ?_
          refine w_ild1 i129_193 ?_
          refine w_const i129_194 kc_4 ?_
          refine w_sI2 i129_195 c115 rfl  rfl ⟨rfl, Nat.le_of_ble_eq_true rfl⟩ T_in ?_
          refine w_dup2 i129_198 rfl rfl ?_
          refine w_ial i129_199 s_172 (by decide) (by omega) rfl ?_
          refine w_ild4 i129_200 ?_
          refine w_isub i129_202 rfl ?_
          refine w_ias i129_203 s_172 (by decide) (by omega) ?_
          refine w_ald0 i129_204 ?_
          refine w_gfR i129_205 (by decide) s_171 rfl ?_
          refine w_const i129_208 kc_4 ?_
          refine w_dup2 i129_209 rfl rfl ?_
          refine w_ial i129_210 s_172 (by decide) (by omega) rfl ?_
          refine w_ild4 i129_211 ?_
          refine w_iadd i129_213 rfl ?_
          refine w_ias i129_214 s_172 (by decide) (by omega) ?_
          refine w_ald0 i129_215 ?_
          refine w_gfR i129_216 (by decide) s_171 rfl ?_
          refine w_ild1 i129_219 ?_
          refine w_const i129_220 kc_4 ?_
          refine w_sI2 i129_221 c115 rfl  rfl ⟨rfl, Nat.le_of_ble_eq_true rfl⟩ T_in ?_
          refine w_ial i129_224 s_172 (by decide) (by omega) rfl ?_
          refine w_ine i129_225 g129_225  (fun h225 => ?_) (fun h225 => ?_)
          · skip
            refine w_ald0 i129_239 ?_
            refine w_gfR i129_240 (by decide) s_171 rfl ?_
            refine w_ild1 i129_243 ?_
            refine w_const i129_244 kc_1 ?_
            refine w_sI2 i129_245 c115 rfl  rfl ⟨rfl, Nat.le_of_ble_eq_true rfl⟩ T_in ?_
            refine w_ial i129_248 s_172 (by decide) (by omega) rfl ?_
            refine w_ine i129_249 g129_249  (fun h249 => ?_) (fun h249 => ?_)
            · skip
              refine w_ild4 i129_257 ?_
              refine w_ri i129_259 r129 ?_
              first
                | (exact OutS (OutT (OutT (OutT (OutT (OutT (OutF h hB) h45) h76) h121) h225) h249) _ rfl (by intro q hq; simp only [mupF hq, setcF hq]))
                | (exact OutS (OutF (OutT (OutT (OutT (OutT (OutF h hB) h45) h76) h121) h225) h249) _ rfl (by intro q hq; simp only [mupF hq, setcF hq]))
                | (exact OutS (OutT (OutF (OutT (OutT (OutT (OutF h hB) h45) h76) h121) h225) h249) _ rfl (by intro q hq; simp only [mupF hq, setcF hq]))
                | (exact OutS (OutF (OutF (OutT (OutT (OutT (OutF h hB) h45) h76) h121) h225) h249) _ rfl (by intro q hq; simp only [mupF hq, setcF hq]))
                | (exact OutS (OutT (OutT (OutF (OutT (OutT (OutF h hB) h45) h76) (Int32.not_lt.mpr h121)) h225) h249) _ rfl (by intro q hq; simp only [mupF hq, setcF hq]))
                | (exact OutS (OutF (OutT (OutF (OutT (OutT (OutF h hB) h45) h76) (Int32.not_lt.mpr h121)) h225) h249) _ rfl (by intro q hq; simp only [mupF hq, setcF hq]))
                | (exact OutS (OutT (OutF (OutF (OutT (OutT (OutF h hB) h45) h76) (Int32.not_lt.mpr h121)) h225) h249) _ rfl (by intro q hq; simp only [mupF hq, setcF hq]))
                | (exact OutS (OutF (OutF (OutF (OutT (OutT (OutF h hB) h45) h76) (Int32.not_lt.mpr h121)) h225) h249) _ rfl (by intro q hq; simp only [mupF hq, setcF hq]))
            · skip
              refine w_ald0 i129_252 ?_
              refine w_ild1 i129_253 ?_
              refine w_vV2 i129_254 c121 (Or.inl rfl) ⟨by decide +kernel, by decide⟩ rfl ⟨rfl, Nat.le_of_ble_eq_true rfl⟩ (T_goes (by omega)) ?_
              refine w_ild4 i129_257 ?_
              refine w_ri i129_259 r129 ?_
              first
                | (exact OutS (OutT (OutT (OutT (OutT (OutT (OutF h hB) h45) h76) h121) h225) h249) _ rfl (by intro q hq; simp only [mupF hq, setcF hq]))
                | (exact OutS (OutF (OutT (OutT (OutT (OutT (OutF h hB) h45) h76) h121) h225) h249) _ rfl (by intro q hq; simp only [mupF hq, setcF hq]))
                | (exact OutS (OutT (OutF (OutT (OutT (OutT (OutF h hB) h45) h76) h121) h225) h249) _ rfl (by intro q hq; simp only [mupF hq, setcF hq]))
                | (exact OutS (OutF (OutF (OutT (OutT (OutT (OutF h hB) h45) h76) h121) h225) h249) _ rfl (by intro q hq; simp only [mupF hq, setcF hq]))
                | (exact OutS (OutT (OutT (OutF (OutT (OutT (OutF h hB) h45) h76) (Int32.not_lt.mpr h121)) h225) h249) _ rfl (by intro q hq; simp only [mupF hq, setcF hq]))
                | (exact OutS (OutF (OutT (OutF (OutT (OutT (OutF h hB) h45) h76) (Int32.not_lt.mpr h121)) h225) h249) _ rfl (by intro q hq; simp only [mupF hq, setcF hq]))
                | (exact OutS (OutT (OutF (OutF (OutT (OutT (OutF h hB) h45) h76) (Int32.not_lt.mpr h121)) h225) h249) _ rfl (by intro q hq; simp only [mupF hq, setcF hq]))
                | (exact OutS (OutF (OutF (OutF (OutT (OutT (OutF h hB) h45) h76) (Int32.not_lt.mpr h121)) h225) h249) _ rfl (by intro q hq; simp only [mupF hq, setcF hq]))
          · skip
            refine w_ald0 i129_228 ?_
            refine w_gfR i129_229 (by decide) s_171 rfl ?_
            refine w_ild1 i129_232 ?_
            refine w_const i129_233 kc_3 ?_
            refine w_sI2 i129_234 c115 rfl  rfl ⟨rfl, Nat.le_of_ble_eq_true rfl⟩ T_in ?_
            refine w_const i129_237 kc_0 ?_
            refine w_ias i129_238 s_172 (by decide) (by omega) ?_
            refine w_ald0 i129_239 ?_
            refine w_gfR i129_240 (by decide) s_171 rfl ?_
            refine w_ild1 i129_243 ?_
            refine w_const i129_244 kc_1 ?_
            refine w_sI2 i129_245 c115 rfl  rfl ⟨rfl, Nat.le_of_ble_eq_true rfl⟩ T_in ?_
            refine w_ial i129_248 s_172 (by decide) (by omega) rfl ?_
            refine w_ine i129_249 g129_249  (fun h249 => ?_) (fun h249 => ?_)
            · skip
              refine w_ild4 i129_257 ?_
              refine w_ri i129_259 r129 ?_
              first
                | (exact OutS (OutT (OutT (OutT (OutT (OutT (OutF h hB) h45) h76) h121) h225) h249) _ rfl (by intro q hq; simp only [mupF hq, setcF hq]))
                | (exact OutS (OutF (OutT (OutT (OutT (OutT (OutF h hB) h45) h76) h121) h225) h249) _ rfl (by intro q hq; simp only [mupF hq, setcF hq]))
                | (exact OutS (OutT (OutF (OutT (OutT (OutT (OutF h hB) h45) h76) h121) h225) h249) _ rfl (by intro q hq; simp only [mupF hq, setcF hq]))
                | (exact OutS (OutF (OutF (OutT (OutT (OutT (OutF h hB) h45) h76) h121) h225) h249) _ rfl (by intro q hq; simp only [mupF hq, setcF hq]))
                | (exact OutS (OutT (OutT (OutF (OutT (OutT (OutF h hB) h45) h76) (Int32.not_lt.mpr h121)) h225) h249) _ rfl (by intro q hq; simp only [mupF hq, setcF hq]))
                | (exact OutS (OutF (OutT (OutF (OutT (OutT (OutF h hB) h45) h76) (Int32.not_lt.mpr h121)) h225) h249) _ rfl (by intro q hq; simp only [mupF hq, setcF hq]))
                | (exact OutS (OutT (OutF (OutF (OutT (OutT (OutF h hB) h45) h76) (Int32.not_lt.mpr h121)) h225) h249) _ rfl (by intro q hq; simp only [mupF hq, setcF hq]))
                | (exact OutS (OutF (OutF (OutF (OutT (OutT (OutF h hB) h45) h76) (Int32.not_lt.mpr h121)) h225) h249) _ rfl (by intro q hq; simp only [mupF hq, setcF hq]))
            · skip
              refine w_ald0 i129_252 ?_
              refine w_ild1 i129_253 ?_
              refine w_vV2 i129_254 c121 (Or.inl rfl) ⟨by decide +kernel, by decide⟩ rfl ⟨rfl, Nat.le_of_ble_eq_true rfl⟩ (T_goes (by omega)) ?_
              refine w_ild4 i129_257 ?_
              refine w_ri i129_259 r129 ?_
              first
                | (exact OutS (OutT (OutT (OutT (OutT (OutT (OutF h hB) h45) h76) h121) h225) h249) _ rfl (by intro q hq; simp only [mupF hq, setcF hq]))
                | (exact OutS (OutF (OutT (OutT (OutT (OutT (OutF h hB) h45) h76) h121) h225) h249) _ rfl (by intro q hq; simp only [mupF hq, setcF hq]))
                | (exact OutS (OutT (OutF (OutT (OutT (OutT (OutF h hB) h45) h76) h121) h225) h249) _ rfl (by intro q hq; simp only [mupF hq, setcF hq]))
                | (exact OutS (OutF (OutF (OutT (OutT (OutT (OutF h hB) h45) h76) h121) h225) h249) _ rfl (by intro q hq; simp only [mupF hq, setcF hq]))
                | (exact OutS (OutT (OutT (OutF (OutT (OutT (OutF h hB) h45) h76) (Int32.not_lt.mpr h121)) h225) h249) _ rfl (by intro q hq; simp only [mupF hq, setcF hq]))
                | (exact OutS (OutF (OutT (OutF (OutT (OutT (OutF h hB) h45) h76) (Int32.not_lt.mpr h121)) h225) h249) _ rfl (by intro q hq; simp only [mupF hq, setcF hq]))
                | (exact OutS (OutT (OutF (OutF (OutT (OutT (OutF h hB) h45) h76) (Int32.not_lt.mpr h121)) h225) h249) _ rfl (by intro q hq; simp only [mupF hq, setcF hq]))
                | (exact OutS (OutF (OutF (OutF (OutT (OutT (OutF h hB) h45) h76) (Int32.not_lt.mpr h121)) h225) h249) _ rfl (by intro q hq; simp only [mupF hq, setcF hq]))
      · skip
        refine w_ald0 i129_79 ?_
        refine w_ild1 i129_80 ?_
        refine w_bip i129_81 kb_6 ?_
        refine w_ald0 i129_83 ?_
        refine w_gfR i129_84 (by decide) s_171 rfl ?_
        refine w_ild1 i129_87 ?_
        refine w_const i129_88 kc_1 ?_
        refine w_sI2 i129_89 c115 rfl  rfl ⟨rfl, Nat.le_of_ble_eq_true rfl⟩ T_in ?_
        refine w_ial i129_92 s_172 (by decide) (by omega) rfl ?_
        refine w_vI4 i129_93 c128 (Or.inl rfl) ⟨by decide +kernel, by decide⟩ rfl ⟨rfl, Nat.le_of_ble_eq_true rfl⟩ T_refusesBurning ?_
        refine w_ri i129_96 r129 ?_
        exact (OutF (OutT (OutF h hB) h45) (Int32.not_le.mpr h76)) _ rfl (by intro q hq hq2; simp only [mRB, mRef, mupF hq, mupF hq2, setcF hq2])
    · skip
      refine w_ald0 i129_48 ?_
      refine w_ild1 i129_49 ?_
      refine w_const i129_50 kc_5 ?_
      refine w_ald0 i129_51 ?_
      refine w_gfR i129_52 (by decide) s_171 rfl ?_
      refine w_ild1 i129_55 ?_
      refine w_const i129_56 kc_5 ?_
      refine w_sI2 i129_57 c115 rfl  rfl ⟨rfl, Nat.le_of_ble_eq_true rfl⟩ T_in ?_
      refine w_ial i129_60 s_172 (by decide) (by omega) rfl ?_
      refine w_vI4 i129_61 c128 (Or.inl rfl) ⟨by decide +kernel, by decide⟩ rfl ⟨rfl, Nat.le_of_ble_eq_true rfl⟩ T_refusesBurning ?_
      refine w_ri i129_64 r129 ?_
      exact (OutF (OutF h hB) (Int32.not_le.mpr h45)) _ rfl (by intro q hq hq2; simp only [mRB, mRef, mupF hq, mupF hq2, setcF hq2])
theorem T_owes_bad1 {d : Nat} {D : Mm} {Q : Option Value → Mm → Prop} {n : Nat} {a b x : Int32} (hn : D 172 0 = nI n) (h12 : n ≤ 12) (hb : badS n a) (h : OutM (.inl (-1011, [])) D Q) : Ct (d + 4) 131 [.ref 171, .int a, .int b, .int x] D Q := by
  refine ent m131 rfl rfl (ls := [.ref 171, .int a, .int b, .int x]) rfl ?_
  refine w_ald0 i131_0 ?_
  refine w_ild1 i131_1 ?_
  refine w_vI2 i131_2 c117 (Or.inl rfl) ⟨by decide +kernel, by decide⟩ rfl ⟨rfl, Nat.le_of_ble_eq_true rfl⟩ (T_isStub_f hn h12 hb) ?_
  refine w_ieqNT i131_5 g131_5 (by omega) (by omega) ?_
  refine w_ald0 i131_15 ?_
  refine w_sip i131_16 ks_m1011 ?_
  refine w_vI2 i131_19 c108 (Or.inl rfl) ⟨by decide +kernel, by decide⟩ rfl ⟨rfl, Nat.le_of_ble_eq_true rfl⟩ T_fail ?_
  refine w_ri i131_22 r131 ?_
  exact h _ rfl (by intro q hq hq2; simp only [mRB, mRef, mupF hq, mupF hq2, setcF hq2])
theorem T_owes_bad2 {d : Nat} {D : Mm} {Q : Option Value → Mm → Prop} {n s : Nat} {b x : Int32} (hn : D 172 0 = nI n) (h12 : n ≤ 12) (hs : s < n) (hb : badH b) (h : OutM (.inl (-1011, [])) D Q) : Ct (d + 4) 131 [.ref 171, .int (nI s), .int b, .int x] D Q := by
  refine ent m131 rfl rfl (ls := [.ref 171, .int (nI s), .int b, .int x]) rfl ?_
  refine w_ald0 i131_0 ?_
  refine w_ild1 i131_1 ?_
  refine w_vI2 i131_2 c117 (Or.inl rfl) ⟨by decide +kernel, by decide⟩ rfl ⟨rfl, Nat.le_of_ble_eq_true rfl⟩ (T_isStub_t hn h12 hs) ?_
  refine w_ieqNF i131_5 (by omega) (by omega) ?_
  refine w_ild2 i131_8 ?_
  refine w_sI1 i131_9 c116 rfl  rfl ⟨rfl, Nat.le_of_ble_eq_true rfl⟩ (T_isHouse_f hb) ?_
  refine w_ineNF i131_12 (by omega) (by omega) ?_
  refine w_ald0 i131_15 ?_
  refine w_sip i131_16 ks_m1011 ?_
  refine w_vI2 i131_19 c108 (Or.inl rfl) ⟨by decide +kernel, by decide⟩ rfl ⟨rfl, Nat.le_of_ble_eq_true rfl⟩ T_fail ?_
  refine w_ri i131_22 r131 ?_
  exact h _ rfl (by intro q hq hq2; simp only [mRB, mRef, mupF hq, mupF hq2, setcF hq2])
theorem T_owes {d : Nat} {D : Mm} {Q : Option Value → Mm → Prop} {V : Nat → Int32} {n : Nat} (hV : D 172 = V) (hn : V 0 = nI n) (h12 : n ≤ 12) {s : Nat} (hs : s < n) {j : Nat} (hj : j < 6) {x : Int32} (h : OutM (vOwes n V s j x) D Q) : Ct (d + 4) 131 [.ref 171, .int (nI s), .int (nI j), .int x] D Q := by
  subst hV
  refine ent m131 rfl rfl (ls := [.ref 171, .int (nI s), .int (nI j), .int x]) rfl ?_
  refine w_ald0 i131_0 ?_
  refine w_ild1 i131_1 ?_
  refine w_vI2 i131_2 c117 (Or.inl rfl) ⟨by decide +kernel, by decide⟩ rfl ⟨rfl, Nat.le_of_ble_eq_true rfl⟩ (T_isStub_t hn h12 hs) ?_
  refine w_ieqNF i131_5 (by omega) (by omega) ?_
  refine w_ild2 i131_8 ?_
  refine w_sI1 i131_9 c116 rfl  rfl ⟨rfl, Nat.le_of_ble_eq_true rfl⟩ (T_isHouse_t hj) ?_
  refine w_ineNT i131_12 g131_12 (by omega) (by omega) ?_
  refine w_ild3 i131_23 ?_
  refine w_const i131_24 kc_1 ?_
  refine w_bip i131_25 kb_90 ?_
  by_cases hB : badR x (nI 1) (nI 90)
  · skip
    refine w_sI3 i131_27 c110 rfl  rfl ⟨rfl, Nat.le_of_ble_eq_true rfl⟩ (T_isIn_f hB) ?_
    refine w_ineNF i131_30 (by omega) (by omega) ?_
    refine w_ald0 i131_33 ?_
    refine w_sip i131_34 ks_m1012 ?_
    refine w_vI2 i131_37 c108 (Or.inl rfl) ⟨by decide +kernel, by decide⟩ rfl ⟨rfl, Nat.le_of_ble_eq_true rfl⟩ T_fail ?_
    refine w_ri i131_40 r131 ?_
    exact (OutT h hB) _ rfl (by intro q hq hq2; simp only [mRB, mRef, mupF hq, mupF hq2, setcF hq2])
  · skip
    refine w_sI3 i131_27 c110 rfl  rfl ⟨rfl, Nat.le_of_ble_eq_true rfl⟩ (T_isIn_t hB) ?_
    refine w_ineNT i131_30 g131_30 (by omega) (by omega) ?_
    refine w_ald0 i131_41 ?_
    refine w_ild2 i131_42 ?_
    by_cases hO : vOpen (D 172) j
    · skip
      refine w_vI2 i131_43 c118 (Or.inl rfl) ⟨by decide +kernel, by decide⟩ rfl ⟨rfl, Nat.le_of_ble_eq_true rfl⟩ (T_isOpen_t hj hO) ?_
      refine w_ineNT i131_46 g131_46 (by omega) (by omega) ?_
      refine w_ald0 i131_56 ?_
      refine w_gfR i131_57 (by decide) s_171 rfl ?_
      refine w_ild1 i131_60 ?_
      refine w_const i131_61 kc_0 ?_
      refine w_sI2 i131_62 c115 rfl  rfl ⟨rfl, Nat.le_of_ble_eq_true rfl⟩ T_in ?_
      refine w_ial i131_65 s_172 (by decide) (by omega) rfl ?_
      refine w_ild2 i131_66 ?_
      refine w_cne i131_67 g131_67  (fun h67 => ?_) (fun h67 => ?_)
      · skip
        refine w_ald0 i131_78 ?_
        refine w_gfR i131_79 (by decide) s_171 rfl ?_
        refine w_ild1 i131_82 ?_
        refine w_const i131_83 kc_3 ?_
        refine w_sI2 i131_84 c115 rfl  rfl ⟨rfl, Nat.le_of_ble_eq_true rfl⟩ T_in ?_
        refine w_ial i131_87 s_172 (by decide) (by omega) rfl ?_
        refine w_ile i131_88 g131_88  (fun h88 => ?_) (fun h88 => ?_)
        · skip
          refine w_ald0 i131_110 ?_
          refine w_gfR i131_111 (by decide) s_171 rfl ?_
          refine w_ild1 i131_114 ?_
          refine w_const i131_115 kc_3 ?_
          refine w_sI2 i131_116 c115 rfl  rfl ⟨rfl, Nat.le_of_ble_eq_true rfl⟩ T_in ?_
          refine w_ild2 i131_119 ?_
          refine w_const i131_120 kc_1 ?_
          refine w_iadd i131_121 (nI_add _ _) ?_
          refine w_ias i131_122 s_172 (by decide) (by omega) ?_
          refine w_ald0 i131_123 ?_
          refine w_gfR i131_124 (by decide) s_171 rfl ?_
          refine w_ild1 i131_127 ?_
          refine w_const i131_128 kc_4 ?_
          refine w_sI2 i131_129 c115 rfl  rfl ⟨rfl, Nat.le_of_ble_eq_true rfl⟩ T_in ?_
          refine w_ild3 i131_132 ?_
          refine w_ias i131_133 s_172 (by decide) (by omega) ?_
          refine w_ald0 i131_134 ?_
          refine w_ild2 i131_135 ?_
          refine w_vI2 i131_136 c122 (Or.inl rfl) ⟨by decide +kernel, by decide⟩ rfl ⟨rfl, Nat.le_of_ble_eq_true rfl⟩ (T_owed ((mupJ (by omega)).trans ((mupJ (by omega)).trans hn)) h12) ?_
          refine w_ri i131_139 r131 ?_
          exact OutS (OutT (OutF (OutT (OutF h hB) hO) h67) h88) _ rfl (by intro q hq; simp only [mupF hq, setcF hq])
        · skip
          refine w_ald0 i131_91 ?_
          refine w_bip i131_92 kb_7 ?_
          refine w_ald0 i131_94 ?_
          refine w_gfR i131_95 (by decide) s_171 rfl ?_
          refine w_ild1 i131_98 ?_
          refine w_const i131_99 kc_3 ?_
          refine w_sI2 i131_100 c115 rfl  rfl ⟨rfl, Nat.le_of_ble_eq_true rfl⟩ T_in ?_
          refine w_ial i131_103 s_172 (by decide) (by omega) rfl ?_
          refine w_const i131_104 kc_1 ?_
          refine w_isub i131_105 rfl ?_
          refine w_vI3 i131_106 c109 (Or.inl rfl) ⟨by decide +kernel, by decide⟩ rfl ⟨rfl, Nat.le_of_ble_eq_true rfl⟩ T_refuses ?_
          refine w_ri i131_109 r131 ?_
          exact (OutF (OutF (OutT (OutF h hB) hO) h67) (Int32.not_le.mpr h88)) _ rfl (by intro q hq hq2; simp only [mRB, mRef, mupF hq, mupF hq2, setcF hq2])
      · skip
        refine w_ald0 i131_70 ?_
        refine w_bip i131_71 kb_8 ?_
        refine w_ild2 i131_73 ?_
        refine w_vI3 i131_74 c109 (Or.inl rfl) ⟨by decide +kernel, by decide⟩ rfl ⟨rfl, Nat.le_of_ble_eq_true rfl⟩ T_refuses ?_
        refine w_ri i131_77 r131 ?_
        exact (OutT (OutT (OutF h hB) hO) h67) _ rfl (by intro q hq hq2; simp only [mRB, mRef, mupF hq, mupF hq2, setcF hq2])
    · skip
      refine w_vI2 i131_43 c118 (Or.inl rfl) ⟨by decide +kernel, by decide⟩ rfl ⟨rfl, Nat.le_of_ble_eq_true rfl⟩ (T_isOpen_f hj hO) ?_
      refine w_ineNF i131_46 (by omega) (by omega) ?_
      refine w_ald0 i131_49 ?_
      refine w_const i131_50 kc_2 ?_
      refine w_ild2 i131_51 ?_
      refine w_vI3 i131_52 c109 (Or.inl rfl) ⟨by decide +kernel, by decide⟩ rfl ⟨rfl, Nat.le_of_ble_eq_true rfl⟩ T_refuses ?_
      refine w_ri i131_55 r131 ?_
      exact (OutF (OutF h hB) hO) _ rfl (by intro q hq hq2; simp only [mRB, mRef, mupF hq, mupF hq2, setcF hq2])
theorem T_snuffs_bad1 {d : Nat} {D : Mm} {Q : Option Value → Mm → Prop} {a b x : Int32} (hb : badH b) (h : OutM (.inl (-1011, [])) D Q) : Ct (d + 4) 133 [.ref 171, .int b, .int a, .int x] D Q := by
  refine ent m133 rfl rfl (ls := [.ref 171, .int b, .int a, .int x]) rfl ?_
  refine w_ild1 i133_0 ?_
  refine w_sI1 i133_1 c116 rfl  rfl ⟨rfl, Nat.le_of_ble_eq_true rfl⟩ (T_isHouse_f hb) ?_
  refine w_ieqNT i133_4 g133_4 (by omega) (by omega) ?_
  refine w_ald0 i133_15 ?_
  refine w_sip i133_16 ks_m1011 ?_
  refine w_vI2 i133_19 c108 (Or.inl rfl) ⟨by decide +kernel, by decide⟩ rfl ⟨rfl, Nat.le_of_ble_eq_true rfl⟩ T_fail ?_
  refine w_ri i133_22 r133 ?_
  exact h _ rfl (by intro q hq hq2; simp only [mRB, mRef, mupF hq, mupF hq2, setcF hq2])
theorem T_snuffs_bad2 {d : Nat} {D : Mm} {Q : Option Value → Mm → Prop} {n j : Nat} {a x : Int32} (hn : D 172 0 = nI n) (h12 : n ≤ 12) (hj : j < 6) (hb : badS n a) (h : OutM (.inl (-1011, [])) D Q) : Ct (d + 4) 133 [.ref 171, .int (nI j), .int a, .int x] D Q := by
  refine ent m133 rfl rfl (ls := [.ref 171, .int (nI j), .int a, .int x]) rfl ?_
  refine w_ild1 i133_0 ?_
  refine w_sI1 i133_1 c116 rfl  rfl ⟨rfl, Nat.le_of_ble_eq_true rfl⟩ (T_isHouse_t hj) ?_
  refine w_ieqNF i133_4 (by omega) (by omega) ?_
  refine w_ald0 i133_7 ?_
  refine w_ild2 i133_8 ?_
  refine w_vI2 i133_9 c117 (Or.inl rfl) ⟨by decide +kernel, by decide⟩ rfl ⟨rfl, Nat.le_of_ble_eq_true rfl⟩ (T_isStub_f hn h12 hb) ?_
  refine w_ineNF i133_12 (by omega) (by omega) ?_
  refine w_ald0 i133_15 ?_
  refine w_sip i133_16 ks_m1011 ?_
  refine w_vI2 i133_19 c108 (Or.inl rfl) ⟨by decide +kernel, by decide⟩ rfl ⟨rfl, Nat.le_of_ble_eq_true rfl⟩ T_fail ?_
  refine w_ri i133_22 r133 ?_
  exact h _ rfl (by intro q hq hq2; simp only [mRB, mRef, mupF hq, mupF hq2, setcF hq2])
theorem T_snuffs {d : Nat} {D : Mm} {Q : Option Value → Mm → Prop} {V : Nat → Int32} {n : Nat} (hV : D 172 = V) (hn : V 0 = nI n) (h12 : n ≤ 12) {s : Nat} (hs : s < n) {j : Nat} (hj : j < 6) {x : Int32} (h : OutM (vSnuffs n V j s x) D Q) : Ct (d + 4) 133 [.ref 171, .int (nI j), .int (nI s), .int x] D Q := by
  subst hV
  refine ent m133 rfl rfl (ls := [.ref 171, .int (nI j), .int (nI s), .int x]) rfl ?_
  refine w_ild1 i133_0 ?_
  refine w_sI1 i133_1 c116 rfl  rfl ⟨rfl, Nat.le_of_ble_eq_true rfl⟩ (T_isHouse_t hj) ?_
  refine w_ieqNF i133_4 (by omega) (by omega) ?_
  refine w_ald0 i133_7 ?_
  refine w_ild2 i133_8 ?_
  refine w_vI2 i133_9 c117 (Or.inl rfl) ⟨by decide +kernel, by decide⟩ rfl ⟨rfl, Nat.le_of_ble_eq_true rfl⟩ (T_isStub_t hn h12 hs) ?_
  refine w_ineNT i133_12 g133_12 (by omega) (by omega) ?_
  refine w_ild3 i133_23 ?_
  refine w_const i133_24 kc_1 ?_
  refine w_bip i133_25 kb_24 ?_
  by_cases hB : badR x (nI 1) (nI 24)
  · skip
    refine w_sI3 i133_27 c110 rfl  rfl ⟨rfl, Nat.le_of_ble_eq_true rfl⟩ (T_isIn_f hB) ?_
    refine w_ineNF i133_30 (by omega) (by omega) ?_
    refine w_ald0 i133_33 ?_
    refine w_sip i133_34 ks_m1012 ?_
    refine w_vI2 i133_37 c108 (Or.inl rfl) ⟨by decide +kernel, by decide⟩ rfl ⟨rfl, Nat.le_of_ble_eq_true rfl⟩ T_fail ?_
    refine w_ri i133_40 r133 ?_
    exact (OutT h hB) _ rfl (by intro q hq hq2; simp only [mRB, mRef, mupF hq, mupF hq2, setcF hq2])
  · skip
    refine w_sI3 i133_27 c110 rfl  rfl ⟨rfl, Nat.le_of_ble_eq_true rfl⟩ (T_isIn_t hB) ?_
    refine w_ineNT i133_30 g133_30 (by omega) (by omega) ?_
    refine w_ald0 i133_41 ?_
    refine w_ild1 i133_42 ?_
    by_cases hO : vOpen (D 172) j
    · skip
      refine w_vI2 i133_43 c118 (Or.inl rfl) ⟨by decide +kernel, by decide⟩ rfl ⟨rfl, Nat.le_of_ble_eq_true rfl⟩ (T_isOpen_t hj hO) ?_
      refine w_ineNT i133_46 g133_46 (by omega) (by omega) ?_
      refine w_ald0 i133_56 ?_
      refine w_gfR i133_57 (by decide) s_171 rfl ?_
      refine w_ild2 i133_60 ?_
      refine w_const i133_61 kc_0 ?_
      refine w_sI2 i133_62 c115 rfl  rfl ⟨rfl, Nat.le_of_ble_eq_true rfl⟩ T_in ?_
      refine w_ial i133_65 s_172 (by decide) (by omega) rfl ?_
      refine w_ild1 i133_66 ?_
      refine w_cne i133_67 g133_67  (fun h67 => ?_) (fun h67 => ?_)
      · skip
        refine w_ald0 i133_78 ?_
        refine w_gfR i133_79 (by decide) s_171 rfl ?_
        refine w_ild2 i133_82 ?_
        refine w_bip i133_83 kb_6 ?_
        refine w_sI2 i133_85 c115 rfl  rfl ⟨rfl, Nat.le_of_ble_eq_true rfl⟩ T_in ?_
        refine w_ial i133_88 s_172 (by decide) (by omega) rfl ?_
        refine w_ile i133_89 g133_89  (fun h89 => ?_) (fun h89 => ?_)
        · skip
          refine w_ald0 i133_109 ?_
          refine w_ild1 i133_110 ?_
          refine w_vI2 i133_111 c123 (Or.inl rfl) ⟨by decide +kernel, by decide⟩ rfl ⟨rfl, Nat.le_of_ble_eq_true rfl⟩ (T_writsH hn h12 (nI_pos' (by omega))) ?_
          refine w_const i133_114 kc_2 ?_
          refine w_cne i133_115 g133_115  (fun h115 => ?_) (fun h115 => ?_)
          · skip
            refine w_ald0 i133_125 ?_
            refine w_gfR i133_126 (by decide) s_171 rfl ?_
            refine w_ild2 i133_129 ?_
            refine w_bip i133_130 kb_6 ?_
            refine w_sI2 i133_132 c115 rfl  rfl ⟨rfl, Nat.le_of_ble_eq_true rfl⟩ T_in ?_
            refine w_ild1 i133_135 ?_
            refine w_const i133_136 kc_1 ?_
            refine w_iadd i133_137 (nI_add _ _) ?_
            refine w_ias i133_138 s_172 (by decide) (by omega) ?_
            refine w_ald0 i133_139 ?_
            refine w_gfR i133_140 (by decide) s_171 rfl ?_
            refine w_ild2 i133_143 ?_
            refine w_const i133_144 kc_5 ?_
            refine w_sI2 i133_145 c115 rfl  rfl ⟨rfl, Nat.le_of_ble_eq_true rfl⟩ T_in ?_
            refine w_ild3 i133_148 ?_
            refine w_ias i133_149 s_172 (by decide) (by omega) ?_
            refine w_ald0 i133_150 ?_
            refine w_const i133_151 kc_m1 ?_
            refine w_vI2 i133_152 c123 (Or.inl rfl) ⟨by decide +kernel, by decide⟩ rfl ⟨rfl, Nat.le_of_ble_eq_true rfl⟩ (T_writs ((mupJ (by omega)).trans ((mupJ (by omega)).trans hn)) h12) ?_
            refine w_ri i133_155 r133 ?_
            exact OutS (OutF (OutT (OutF (OutT (OutF h hB) hO) h67) h89) h115) _ rfl (by intro q hq; simp only [mupF hq, setcF hq])
          · skip
            refine w_ald0 i133_118 ?_
            refine w_const i133_119 kc_1 ?_
            refine w_const i133_120 kc_2 ?_
            refine w_vI3 i133_121 c109 (Or.inl rfl) ⟨by decide +kernel, by decide⟩ rfl ⟨rfl, Nat.le_of_ble_eq_true rfl⟩ T_refuses ?_
            refine w_ri i133_124 r133 ?_
            exact (OutT (OutT (OutF (OutT (OutF h hB) hO) h67) h89) h115) _ rfl (by intro q hq hq2; simp only [mRB, mRef, mupF hq, mupF hq2, setcF hq2])
        · skip
          refine w_ald0 i133_92 ?_
          refine w_bip i133_93 kb_9 ?_
          refine w_ald0 i133_95 ?_
          refine w_gfR i133_96 (by decide) s_171 rfl ?_
          refine w_ild2 i133_99 ?_
          refine w_const i133_100 kc_5 ?_
          refine w_sI2 i133_101 c115 rfl  rfl ⟨rfl, Nat.le_of_ble_eq_true rfl⟩ T_in ?_
          refine w_ial i133_104 s_172 (by decide) (by omega) rfl ?_
          refine w_vI3 i133_105 c109 (Or.inl rfl) ⟨by decide +kernel, by decide⟩ rfl ⟨rfl, Nat.le_of_ble_eq_true rfl⟩ T_refuses ?_
          refine w_ri i133_108 r133 ?_
          exact (OutF (OutF (OutT (OutF h hB) hO) h67) (Int32.not_le.mpr h89)) _ rfl (by intro q hq hq2; simp only [mRB, mRef, mupF hq, mupF hq2, setcF hq2])
      · skip
        refine w_ald0 i133_70 ?_
        refine w_bip i133_71 kb_8 ?_
        refine w_ild1 i133_73 ?_
        refine w_vI3 i133_74 c109 (Or.inl rfl) ⟨by decide +kernel, by decide⟩ rfl ⟨rfl, Nat.le_of_ble_eq_true rfl⟩ T_refuses ?_
        refine w_ri i133_77 r133 ?_
        exact (OutT (OutT (OutF h hB) hO) h67) _ rfl (by intro q hq hq2; simp only [mRB, mRef, mupF hq, mupF hq2, setcF hq2])
    · skip
      refine w_vI2 i133_43 c118 (Or.inl rfl) ⟨by decide +kernel, by decide⟩ rfl ⟨rfl, Nat.le_of_ble_eq_true rfl⟩ (T_isOpen_f hj hO) ?_
      refine w_ineNF i133_46 (by omega) (by omega) ?_
      refine w_ald0 i133_49 ?_
      refine w_const i133_50 kc_2 ?_
      refine w_ild1 i133_51 ?_
      refine w_vI3 i133_52 c109 (Or.inl rfl) ⟨by decide +kernel, by decide⟩ rfl ⟨rfl, Nat.le_of_ble_eq_true rfl⟩ T_refuses ?_
      refine w_ri i133_55 r133 ?_
      exact (OutF (OutF h hB) hO) _ rfl (by intro q hq hq2; simp only [mRB, mRef, mupF hq, mupF hq2, setcF hq2])
theorem T_pools_bad {d : Nat} {D : Mm} {Q : Option Value → Mm → Prop} {n : Nat} {a x : Int32} (hn : D 172 0 = nI n) (h12 : n ≤ 12) (hb : badS n a) (h : OutM (.inl (-1011, [])) D Q) : Ct (d + 4) 137 [.ref 171, .int a, .int x] D Q := by
  refine ent m137 rfl rfl (ls := [.ref 171, .int a, .int x, .retAddr 0]) rfl ?_
  refine w_ald0 i137_0 ?_
  refine w_ild1 i137_1 ?_
  refine w_vI2 i137_2 c117 (Or.inl rfl) ⟨by decide +kernel, by decide⟩ rfl ⟨rfl, Nat.le_of_ble_eq_true rfl⟩ (T_isStub_f hn h12 hb) ?_
  refine w_ineNF i137_5 (by omega) (by omega) ?_
  refine w_ald0 i137_8 ?_
  refine w_sip i137_9 ks_m1011 ?_
  refine w_vI2 i137_12 c108 (Or.inl rfl) ⟨by decide +kernel, by decide⟩ rfl ⟨rfl, Nat.le_of_ble_eq_true rfl⟩ T_fail ?_
  refine w_ri i137_15 r137 ?_
  exact h _ rfl (by intro q hq hq2; simp only [mRB, mRef, mupF hq, mupF hq2, setcF hq2])
theorem T_pools {d : Nat} {D : Mm} {Q : Option Value → Mm → Prop} {V : Nat → Int32} {n : Nat} (hV : D 172 = V) (hn : V 0 = nI n) (h12 : n ≤ 12) {s : Nat} (hs : s < n) {o : Nat} (ho : V (30 + 8 * s + 0) = nI o) (ho6 : o < 6) {x : Int32} (h : OutM (vPools V s o x) D Q) : Ct (d + 4) 137 [.ref 171, .int (nI s), .int x] D Q := by
  subst hV
  refine ent m137 rfl rfl (ls := [.ref 171, .int (nI s), .int x, .retAddr 0]) rfl ?_
  refine w_ald0 i137_0 ?_
  refine w_ild1 i137_1 ?_
  refine w_vI2 i137_2 c117 (Or.inl rfl) ⟨by decide +kernel, by decide⟩ rfl ⟨rfl, Nat.le_of_ble_eq_true rfl⟩ (T_isStub_t hn h12 hs) ?_
  refine w_ineNT i137_5 g137_5 (by omega) (by omega) ?_
  refine w_ild2 i137_16 ?_
  refine w_const i137_17 kc_1 ?_
  refine w_bip i137_18 kb_30 ?_
  by_cases hB : badR x (nI 1) (nI 30)
  · skip
    refine w_sI3 i137_20 c110 rfl  rfl ⟨rfl, Nat.le_of_ble_eq_true rfl⟩ (T_isIn_f hB) ?_
    refine w_ineNF i137_23 (by omega) (by omega) ?_
    refine w_ald0 i137_26 ?_
    refine w_sip i137_27 ks_m1012 ?_
    refine w_vI2 i137_30 c108 (Or.inl rfl) ⟨by decide +kernel, by decide⟩ rfl ⟨rfl, Nat.le_of_ble_eq_true rfl⟩ T_fail ?_
    refine w_ri i137_33 r137 ?_
    exact (OutT h hB) _ rfl (by intro q hq hq2; simp only [mRB, mRef, mupF hq, mupF hq2, setcF hq2])
  · skip
    refine w_sI3 i137_20 c110 rfl  rfl ⟨rfl, Nat.le_of_ble_eq_true rfl⟩ (T_isIn_t hB) ?_
    refine w_ineNT i137_23 g137_23 (by omega) (by omega) ?_
    refine w_ald0 i137_34 ?_
    refine w_gfR i137_35 (by decide) s_171 rfl ?_
    refine w_ild1 i137_38 ?_
    refine w_const i137_39 kc_1 ?_
    refine w_sI2 i137_40 c115 rfl  rfl ⟨rfl, Nat.le_of_ble_eq_true rfl⟩ T_in ?_
    refine w_ial i137_43 s_172 (by decide) (by omega) rfl ?_
    refine w_ist3 i137_44 ?_
    refine w_ild3 i137_45 ?_
    refine w_ild2 i137_46 ?_
    refine w_cge i137_47 g137_47  (fun h47 => ?_) (fun h47 => ?_)
    · skip
      refine w_ald0 i137_58 ?_
      refine w_gfR i137_59 (by decide) s_171 rfl ?_
      refine w_ald0 i137_62 ?_
      refine w_gfR i137_63 (by decide) s_171 rfl ?_
      refine w_ild1 i137_66 ?_
      refine w_const i137_67 kc_0 ?_
      refine w_sI2 i137_68 c115 rfl  rfl ⟨rfl, Nat.le_of_ble_eq_true rfl⟩ T_in ?_
      refine w_ial i137_71 s_172 (by decide) (by omega) ho ?_
      refine w_const i137_72 kc_3 ?_
      refine w_sI2 i137_73 c114 rfl  rfl ⟨rfl, Nat.le_of_ble_eq_true rfl⟩ T_at ?_
      refine w_dup2 i137_76 rfl rfl ?_
      refine w_ial i137_77 s_172 (by decide) (by omega) rfl ?_
      refine w_ild2 i137_78 ?_
      refine w_iadd i137_79 rfl ?_
      refine w_ias i137_80 s_172 (by decide) (by omega) ?_
      refine w_ald0 i137_81 ?_
      refine w_gfR i137_82 (by decide) s_171 rfl ?_
      refine w_ild1 i137_85 ?_
      refine w_const i137_86 kc_1 ?_
      refine w_sI2 i137_87 c115 rfl  rfl ⟨rfl, Nat.le_of_ble_eq_true rfl⟩ T_in ?_
      refine w_dup2 i137_90 rfl rfl ?_
      refine w_ial i137_91 s_172 (by decide) (by omega) (mupJ (by omega)) ?_
      refine w_ild2 i137_92 ?_
      refine w_isub i137_93 rfl ?_
      refine w_ias i137_94 s_172 (by decide) (by omega) ?_
      refine w_ild3 i137_95 ?_
      refine w_ild2 i137_96 ?_
      refine w_cne i137_97 g137_97  (fun h97 => ?_) (fun h97 => ?_)
      · skip
        refine w_ald0 i137_105 ?_
        refine w_vI1 i137_106 c136 (Or.inl rfl) ⟨by decide +kernel, by decide⟩ rfl ⟨rfl, Nat.le_of_ble_eq_true rfl⟩ T_pooled ?_
        refine w_ri i137_109 r137 ?_
        first
          | (exact OutS (OutT (OutT (OutF h hB) h47) h97) _ rfl (by intro q hq; simp only [mupF hq, setcF hq]))
          | (exact OutS (OutF (OutT (OutF h hB) h47) h97) _ rfl (by intro q hq; simp only [mupF hq, setcF hq]))
      · skip
        refine w_ald0 i137_100 ?_
        refine w_ild1 i137_101 ?_
        refine w_vV2 i137_102 c121 (Or.inl rfl) ⟨by decide +kernel, by decide⟩ rfl ⟨rfl, Nat.le_of_ble_eq_true rfl⟩ (T_goes (by omega)) ?_
        refine w_ald0 i137_105 ?_
        refine w_vI1 i137_106 c136 (Or.inl rfl) ⟨by decide +kernel, by decide⟩ rfl ⟨rfl, Nat.le_of_ble_eq_true rfl⟩ T_pooled ?_
        refine w_ri i137_109 r137 ?_
        first
          | (exact OutS (OutT (OutT (OutF h hB) h47) h97) _ rfl (by intro q hq; simp only [mupF hq, setcF hq]))
          | (exact OutS (OutF (OutT (OutF h hB) h47) h97) _ rfl (by intro q hq; simp only [mupF hq, setcF hq]))
    · skip
      refine w_ald0 i137_50 ?_
      refine w_bip i137_51 kb_10 ?_
      refine w_ild3 i137_53 ?_
      refine w_vI3 i137_54 c109 (Or.inl rfl) ⟨by decide +kernel, by decide⟩ rfl ⟨rfl, Nat.le_of_ble_eq_true rfl⟩ T_refuses ?_
      refine w_ri i137_57 r137 ?_
      exact (OutF (OutF h hB) (Int32.not_le.mpr h47)) _ rfl (by intro q hq hq2; simp only [mRB, mRef, mupF hq, mupF hq2, setcF hq2])
theorem T_tellsHeir_bad1 {d : Nat} {D : Mm} {Q : Option Value → Mm → Prop} {a b : Int32} (hb : badH b) (h : OutM (.inl (-1011, [])) D Q) : Ct (d + 4) 148 [.ref 171, .int b, .int a] D Q := by
  refine ent m148 rfl rfl (ls := [.ref 171, .int b, .int a, .retAddr 0]) rfl ?_
  refine w_ild1 i148_0 ?_
  refine w_sI1 i148_1 c116 rfl  rfl ⟨rfl, Nat.le_of_ble_eq_true rfl⟩ (T_isHouse_f hb) ?_
  refine w_ieqNT i148_4 g148_4 (by omega) (by omega) ?_
  refine w_ald0 i148_14 ?_
  refine w_sip i148_15 ks_m1011 ?_
  refine w_vI2 i148_18 c108 (Or.inl rfl) ⟨by decide +kernel, by decide⟩ rfl ⟨rfl, Nat.le_of_ble_eq_true rfl⟩ T_fail ?_
  refine w_ri i148_21 r148 ?_
  exact h _ rfl (by intro q hq hq2; simp only [mRB, mRef, mupF hq, mupF hq2, setcF hq2])
theorem T_tellsHeir_bad2 {d : Nat} {D : Mm} {Q : Option Value → Mm → Prop} {j : Nat} {a : Int32} (hj : j < 6) (hb : badH a) (h : OutM (.inl (-1011, [])) D Q) : Ct (d + 4) 148 [.ref 171, .int (nI j), .int a] D Q := by
  refine ent m148 rfl rfl (ls := [.ref 171, .int (nI j), .int a, .retAddr 0]) rfl ?_
  refine w_ild1 i148_0 ?_
  refine w_sI1 i148_1 c116 rfl  rfl ⟨rfl, Nat.le_of_ble_eq_true rfl⟩ (T_isHouse_t hj) ?_
  refine w_ieqNF i148_4 (by omega) (by omega) ?_
  refine w_ild2 i148_7 ?_
  refine w_sI1 i148_8 c116 rfl  rfl ⟨rfl, Nat.le_of_ble_eq_true rfl⟩ (T_isHouse_f hb) ?_
  refine w_ineNF i148_11 (by omega) (by omega) ?_
  refine w_ald0 i148_14 ?_
  refine w_sip i148_15 ks_m1011 ?_
  refine w_vI2 i148_18 c108 (Or.inl rfl) ⟨by decide +kernel, by decide⟩ rfl ⟨rfl, Nat.le_of_ble_eq_true rfl⟩ T_fail ?_
  refine w_ri i148_21 r148 ?_
  exact h _ rfl (by intro q hq hq2; simp only [mRB, mRef, mupF hq, mupF hq2, setcF hq2])
theorem T_tellsHeir {d : Nat} {D : Mm} {Q : Option Value → Mm → Prop} {V : Nat → Int32} (hV : D 172 = V) {j : Nat} (hj : j < 6) {i : Nat} (hi : i < 6) (h : OutM (vTells V j i) D Q) : Ct (d + 4) 148 [.ref 171, .int (nI j), .int (nI i)] D Q := by
  subst hV
  refine ent m148 rfl rfl (ls := [.ref 171, .int (nI j), .int (nI i), .retAddr 0]) rfl ?_
  refine w_ild1 i148_0 ?_
  refine w_sI1 i148_1 c116 rfl  rfl ⟨rfl, Nat.le_of_ble_eq_true rfl⟩ (T_isHouse_t hj) ?_
  refine w_ieqNF i148_4 (by omega) (by omega) ?_
  refine w_ild2 i148_7 ?_
  refine w_sI1 i148_8 c116 rfl  rfl ⟨rfl, Nat.le_of_ble_eq_true rfl⟩ (T_isHouse_t hi) ?_
  refine w_ineNT i148_11 g148_11 (by omega) (by omega) ?_
  refine w_ald0 i148_22 ?_
  refine w_gfR i148_23 (by decide) s_171 rfl ?_
  refine w_ild1 i148_26 ?_
  refine w_const i148_27 kc_1 ?_
  refine w_sI2 i148_28 c114 rfl  rfl ⟨rfl, Nat.le_of_ble_eq_true rfl⟩ T_at ?_
  refine w_ial i148_31 s_172 (by decide) (by omega) rfl ?_
  refine w_ist3 i148_32 ?_
  refine w_ild3 i148_33 ?_
  refine w_ild2 i148_34 ?_
  refine w_cne i148_35 g148_35  (fun h35 => ?_) (fun h35 => ?_)
  · skip
    refine w_ald0 i148_46 ?_
    refine w_gfR i148_47 (by decide) s_171 rfl ?_
    refine w_ild1 i148_50 ?_
    refine w_const i148_51 kc_1 ?_
    refine w_sI2 i148_52 c114 rfl  rfl ⟨rfl, Nat.le_of_ble_eq_true rfl⟩ T_at ?_
    refine w_ild2 i148_55 ?_
    refine w_ias i148_56 s_172 (by decide) (by omega) ?_
    refine w_ild3 i148_57 ?_
    refine w_ri i148_58 r148 ?_
    exact OutS (OutF h h35) _ rfl (by intro q hq; simp only [mupF hq, setcF hq])
  · skip
    refine w_ald0 i148_38 ?_
    refine w_bip i148_39 kb_14 ?_
    refine w_ild2 i148_41 ?_
    refine w_vI3 i148_42 c109 (Or.inl rfl) ⟨by decide +kernel, by decide⟩ rfl ⟨rfl, Nat.le_of_ble_eq_true rfl⟩ T_refuses ?_
    refine w_ri i148_45 r148 ?_
    exact (OutT h h35) _ rfl (by intro q hq hq2; simp only [mRB, mRef, mupF hq, mupF hq2, setcF hq2])
