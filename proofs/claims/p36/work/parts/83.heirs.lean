/-! the law's heirs -/
theorem tm_le {V : Nat → Int32} {h w : Int32} : ∀ n, (tmS V h w n).2 ≤ n
  | 0 => Nat.le_refl 0
  | n + 1 => by
    have ih := tm_le (V := V) (h := h) (w := w) n
    by_cases e : V (30 + 8 * n + 0) = h
    · by_cases f : (tmS V h w n).1 + (V (30 + 8 * n + 1) + nI 1) ≤ nI 60
      · rw [tmS_mv e f]; exact Nat.le_succ_of_le ih
      · rw [tmS_ml e f]; exact Nat.succ_le_succ ih
    · rw [tmS_sk e]; exact Nat.le_succ_of_le ih
/-- a row of six bits -/
def pc6 (m : Nat) : Nat := sN6 6 (fun j => if m.testBit j then 1 else 0)
theorem pc6_le {m : Nat} : pc6 m ≤ 6 := by
  have := sN6_c (f := fun j => if m.testBit j then 1 else 0) (c := 1) 6 (fun i _ => by split <;> omega)
  unfold pc6; omega
theorem bt1 : ∀ m, m < 64 → ∀ a, a < 6 → (nI m >>> (nI a &&& 31)) &&& nI 1 = nI (if m.testBit a then 1 else 0) := by decide +kernel
theorem bt2 : ∀ a, a < 6 → nI 1 <<< (nI a &&& 31) = nI (2 ^ a) := by decide +kernel
theorem bt3 : ∀ m, m < 64 → ∀ a, a < 6 → nI m ||| nI (2 ^ a) = nI (m ||| 2 ^ a) ∧ (m ||| 2 ^ a) < 64 ∧ (m.testBit a = false → pc6 (m ||| 2 ^ a) = pc6 m + 1) := by decide +kernel
theorem bt4 : ∀ m, m < 64 → ∀ a, a < 6 → ∀ j, j < 6 → (m ||| 2 ^ a).testBit j = (m.testBit j || decide (j = a)) := by decide +kernel
theorem bt5 : ∀ a, a < 6 → 2 ^ a < 64 ∧ pc6 (2 ^ a) = 1 ∧ ∀ j, j < 6 → (2 ^ a).testBit j = decide (j = a) := by decide +kernel
/-- a round of heirs that are all met comes to nobody -/
theorem chase_none {V : Nat → Int32} {h m : Nat} (hm : ∀ j, j < 6 → m.testBit j = true → (j = h ∨ ¬ vOpen V j) ∧ hrV V j < 6 ∧ m.testBit (hrV V j) = true) : ∀ k a, a < 6 → m.testBit a = true → chase V h k a = none
  | 0, _, _, _ => rfl
  | k + 1, a, ha, hb => by
    obtain ⟨h1, h2, h3⟩ := hm a ha hb
    have ih := chase_none hm k (hrV V a) h2 h3
    unfold chase
    by_cases z : a = h
    · rw [ifp_t z]; exact ih
    · rw [ifp_f z, ifp_f (h1.resolve_left z)]; exact ih
def lowV : Nat → Int32
  | 0 => -1
  | l + 1 => nI l
theorem lowV_s {l : Nat} : lowV (l + 1) + Int32.ofInt (-1) = lowV l := by
  cases l with
  | zero => decide
  | succ l => exact dec1 l
noncomputable def dueF (V : Nat → Int32) (h l : Nat) : Int32 := match firstO V h l (6 - l) with
  | some q => nI q
  | none => -1
theorem dueF_s {V : Nat → Int32} {h l : Nat} (hl : l < 6) : dueF V h (6 - l) = ifp (l = h) (dueF V h (5 - l)) (ifp (vOpen V l) (nI l) (dueF V h (5 - l))) := by
  unfold dueF
  rw [show 6 - l = (5 - l) + 1 by omega, show 6 - (5 - l + 1) = l by omega, show 6 - (5 - l) = l + 1 by omega]
  rw [firstO]
  by_cases z : l = h
  · rw [ifp_t z, ifp_t z]
  · rw [ifp_f z, ifp_f z]
    by_cases y : vOpen V l
    · rw [ifp_t y, ifp_t y]
    · rw [ifp_f y, ifp_f y]
set_option maxHeartbeats 1000000 in
theorem he_none {d : Nat} {D : Mm} {Q : Option Value → Mm → Prop} {op h : Nat} {u4 u5 u6 : Value} (hu4 : nvV D u4) (hu5 : nvV D u5) (hu6 : nvV D u6) (hinh : Ct (d + 6) 68 [.ref 0, .int (nI h)] D (Ex (some (.int (-1015))) D)) (hmel : Ct (d + 6) 69 [.ref 0, .int (nI h)] D (Ex (some (.int (-1015))) D)) (hnext : Wp (d + 6) 116 Q 2 [.ref 0, .int (nI op), .int (nI (h + 1)), .int (-1015), u4, u5, u6] [] D) : Wp (d + 6) 116 Q 147 [.ref 0, .int (nI op), .int (nI h), .int (-1015), u4, u5, u6] [] D := by
  refine w_ald0 i116_147 ?_
  refine w_ild2 i116_148 ?_
  refine w_VD2 i116_149 c68 (Or.inl rfl) (Or.inl ⟨by decide +kernel, by decide⟩) (by repeat (first | exact nvL_nil | refine nvL_cons (by first | exact True.intro | exact nvSt (by decide) | exact hu3 | exact hu4 | exact hu5 | exact hu6 | exact nvK (by omega) (by omega)) ?_)) ⟨(by repeat (first | exact nvL_nil | refine nvL_cons (by first | exact True.intro | exact nvSt (by decide) | exact hu3 | exact hu4 | exact hu5 | exact hu6 | exact nvK (by omega) (by omega)) ?_)), rfl, Nat.le_of_ble_eq_true rfl⟩ (Ex_go hinh ?_)
  refine w_ild3 i116_152 ?_
  refine w_cneF i116_153  rfl ?_
  refine w_ald0 i116_156 ?_
  refine w_ild2 i116_157 ?_
  refine w_VD2 i116_158 c69 (Or.inl rfl) (Or.inl ⟨by decide +kernel, by decide⟩) (by repeat (first | exact nvL_nil | refine nvL_cons (by first | exact True.intro | exact nvSt (by decide) | exact hu3 | exact hu4 | exact hu5 | exact hu6 | exact nvK (by omega) (by omega)) ?_)) ⟨(by repeat (first | exact nvL_nil | refine nvL_cons (by first | exact True.intro | exact nvSt (by decide) | exact hu3 | exact hu4 | exact hu5 | exact hu6 | exact nvK (by omega) (by omega)) ?_)), rfl, Nat.le_of_ble_eq_true rfl⟩ (Ex_go hmel ?_)
  refine w_sip i116_161 ks_m1015 ?_
  refine w_cneF i116_164  rfl ?_
  refine w_const i116_167 kc_1 ?_
  refine w_goto i116_168 g116_168 ?_
  refine w_ild3 i116_172 ?_
  refine w_sip i116_173 ks_m1015 ?_
  refine w_cneF i116_176  rfl ?_
  refine w_const i116_179 kc_1 ?_
  refine w_goto i116_180 g116_180 ?_
  refine w_ceqNT i116_184 g116_184 (by omega) (by omega) (by omega) ?_
  refine w_inc2 i116_189 (inc1 _) ?_
  refine w_goto i116_192 g116_192 ?_
  exact hnext
theorem ne15 {x : Nat} (h : x < 100) : ¬ nI x = -1015 := fun e => by
  have e2 := congrArg Int32.toInt e
  rw [nI_toInt (by omega)] at e2
  have e3 : ((x : Nat) : Int) = -1015 := e2
  omega
set_option maxHeartbeats 1000000 in
theorem he_some {d : Nat} {D : Mm} {Q : Option Value → Mm → Prop} {op h r x : Nat} {u4 u5 u6 : Value} (hr : r < 100) (hx : x < 100) (hu4 : nvV D u4) (hu5 : nvV D u5) (hu6 : nvV D u6) (hinh : Ct (d + 6) 68 [.ref 0, .int (nI h)] D (Ex (some (.int (nI r))) D)) (hmel : Ct (d + 6) 69 [.ref 0, .int (nI h)] D (Ex (some (.int (nI x))) D)) (hnext : Wp (d + 6) 116 Q 2 [.ref 0, .int (nI op), .int (nI (h + 1)), .int (nI r), u4, u5, u6] [] D) : Wp (d + 6) 116 Q 147 [.ref 0, .int (nI op), .int (nI h), .int (nI r), u4, u5, u6] [] D := by
  refine w_ald0 i116_147 ?_
  refine w_ild2 i116_148 ?_
  refine w_VD2 i116_149 c68 (Or.inl rfl) (Or.inl ⟨by decide +kernel, by decide⟩) (by repeat (first | exact nvL_nil | refine nvL_cons (by first | exact True.intro | exact nvSt (by decide) | exact hu3 | exact hu4 | exact hu5 | exact hu6 | exact nvK (by omega) (by omega)) ?_)) ⟨(by repeat (first | exact nvL_nil | refine nvL_cons (by first | exact True.intro | exact nvSt (by decide) | exact hu3 | exact hu4 | exact hu5 | exact hu6 | exact nvK (by omega) (by omega)) ?_)), rfl, Nat.le_of_ble_eq_true rfl⟩ (Ex_go hinh ?_)
  refine w_ild3 i116_152 ?_
  refine w_cneF i116_153  rfl ?_
  refine w_ald0 i116_156 ?_
  refine w_ild2 i116_157 ?_
  refine w_VD2 i116_158 c69 (Or.inl rfl) (Or.inl ⟨by decide +kernel, by decide⟩) (by repeat (first | exact nvL_nil | refine nvL_cons (by first | exact True.intro | exact nvSt (by decide) | exact hu3 | exact hu4 | exact hu5 | exact hu6 | exact nvK (by omega) (by omega)) ?_)) ⟨(by repeat (first | exact nvL_nil | refine nvL_cons (by first | exact True.intro | exact nvSt (by decide) | exact hu3 | exact hu4 | exact hu5 | exact hu6 | exact nvK (by omega) (by omega)) ?_)), rfl, Nat.le_of_ble_eq_true rfl⟩ (Ex_go hmel ?_)
  refine w_sip i116_161 ks_m1015 ?_
  refine w_cneT i116_164 g116_164  (ne15 hx) ?_
  refine w_const i116_171 kc_0 ?_
  refine w_ild3 i116_172 ?_
  refine w_sip i116_173 ks_m1015 ?_
  refine w_cneT i116_176 g116_176  (ne15 hr) ?_
  refine w_const i116_183 kc_0 ?_
  refine w_ceqNT i116_184 g116_184 (by omega) (by omega) (by omega) ?_
  refine w_inc2 i116_189 (inc1 _) ?_
  refine w_goto i116_192 g116_192 ?_
  exact hnext
theorem lowN {l : Nat} (h : l < 6) : (0 : Int32) ≤ lowV (l + 1) := nI_pos' (by omega)
set_option maxHeartbeats 1000000 in
theorem he_low1 {d : Nat} {D : Mm} {Q : Option Value → Mm → Prop} {n op h : Nat} {V : Nat → Int32} (R : Rel D n V) (h12 : n ≤ 12) (ho : opV V) (hh : h < 6) {m a : Nat} (hm : m < 64) (ha : a < 6) (hb : m.testBit a = true) {l : Nat} (hl6 : l < 6) (ih : Wp (d + 6) 116 Q 101 [.ref 0, .int (nI op), .int (nI h), .int (dueF V h (6 - l)), .int (nI m), .int (nI a), .int (lowV l)] [] D) : Wp (d + 6) 116 Q 101 [.ref 0, .int (nI op), .int (nI h), .int (dueF V h (5 - l)), .int (nI m), .int (nI a), .int (lowV (l + 1))] [] D := by
  refine w_ild6 i116_101 ?_
  refine w_iltF i116_103 (lowN hl6) ?_
  refine w_ild4 i116_106 ?_
  refine w_ild5 i116_108 ?_
  refine w_ishr i116_110 rfl ?_
  refine w_const i116_111 kc_1 ?_
  refine w_iand i116_112 (bt1 _ hm _ ha) ?_
  refine w_const i116_113 kc_1 ?_
  rw [if_pos hb]
  refine w_cneNF i116_114 (by omega) (by omega) rfl ?_
  refine w_ild6 i116_117 ?_
  refine w_ild2 i116_119 ?_
  refine w_ceqN i116_120 g116_120 (by omega) (by omega) (fun h120 => ?_) (fun h120 => ?_)
  · skip
    refine w_ild3 i116_139 ?_
    refine w_ist3 i116_140 ?_
    refine w_inc6 i116_141 lowV_s ?_
    refine w_goto i116_144 g116_144 ?_
    first | (rw [dueF_s hl6, ifp_t (by omega)] at ih; exact ih) | (rw [dueF_s hl6, ifp_f (by omega), ifp_t (show vOpen V l from h131)] at ih; exact ih) | (rw [dueF_s hl6, ifp_f (by omega), ifp_f (show ¬ vOpen V l from h131)] at ih; exact ih)
  · skip
    refine w_ald0 i116_123 ?_
    refine w_ild6 i116_124 ?_
    refine w_const i116_126 kc_0 ?_
    refine w_VD3 i116_127 c67 (Or.inl rfl) (Or.inl ⟨by decide +kernel, by decide⟩) (by repeat (first | exact nvL_nil | refine nvL_cons (by first | exact True.intro | exact nvSt (by decide) | exact hu3 | exact hu4 | exact hu5 | exact hu6 | exact nvK (by omega) (by omega)) ?_)) ⟨(by repeat (first | exact nvL_nil | refine nvL_cons (by first | exact True.intro | exact nvSt (by decide) | exact hu3 | exact hu4 | exact hu5 | exact hu6 | exact nvK (by omega) (by omega)) ?_)), rfl, Nat.le_of_ble_eq_true rfl⟩ (Ex_go (K_houseOf_0 R h12 ho hl6) ?_)
    refine w_const i116_130 kc_1 ?_
    refine w_cne i116_131 g116_131  (fun h131 => ?_) (fun h131 => ?_)
    · skip
      refine w_ild3 i116_139 ?_
      refine w_ist3 i116_140 ?_
      refine w_inc6 i116_141 lowV_s ?_
      refine w_goto i116_144 g116_144 ?_
      first | (rw [dueF_s hl6, ifp_t (by omega)] at ih; exact ih) | (rw [dueF_s hl6, ifp_f (by omega), ifp_t (show vOpen V l from h131)] at ih; exact ih) | (rw [dueF_s hl6, ifp_f (by omega), ifp_f (show ¬ vOpen V l from h131)] at ih; exact ih)
    · skip
      refine w_ild6 i116_134 ?_
      refine w_goto i116_136 g116_136 ?_
      refine w_ist3 i116_140 ?_
      refine w_inc6 i116_141 lowV_s ?_
      refine w_goto i116_144 g116_144 ?_
      first | (rw [dueF_s hl6, ifp_t (by omega)] at ih; exact ih) | (rw [dueF_s hl6, ifp_f (by omega), ifp_t (show vOpen V l from h131)] at ih; exact ih) | (rw [dueF_s hl6, ifp_f (by omega), ifp_f (show ¬ vOpen V l from h131)] at ih; exact ih)
set_option maxHeartbeats 1000000 in
theorem he_low0 {d : Nat} {D : Mm} {Q : Option Value → Mm → Prop} {op h m a : Nat} {x : Int32} (hk : Wp (d + 6) 116 Q 147 [.ref 0, .int (nI op), .int (nI h), .int x, .int (nI m), .int (nI a), .int (-1)] [] D) : Wp (d + 6) 116 Q 101 [.ref 0, .int (nI op), .int (nI h), .int x, .int (nI m), .int (nI a), .int (lowV 0)] [] D := by
  refine w_ild6 i116_101 ?_
  refine w_iltT i116_103 g116_103 (by decide) ?_
  exact hk
theorem he_low {d : Nat} {D : Mm} {Q : Option Value → Mm → Prop} {n op h : Nat} {V : Nat → Int32} (R : Rel D n V) (h12 : n ≤ 12) (ho : opV V) (hh : h < 6) {m a : Nat} (hm : m < 64) (ha : a < 6) (hb : m.testBit a = true) (hk : Wp (d + 6) 116 Q 147 [.ref 0, .int (nI op), .int (nI h), .int (dueF V h 6), .int (nI m), .int (nI a), .int (-1)] [] D) : ∀ l, l ≤ 6 → Wp (d + 6) 116 Q 101 [.ref 0, .int (nI op), .int (nI h), .int (dueF V h (6 - l)), .int (nI m), .int (nI a), .int (lowV l)] [] D
  | 0, _ => he_low0 hk
  | l + 1, h => by
    rw [show 6 - (l + 1) = 5 - l by omega]
    exact he_low1 R h12 ho hh hm ha hb (by omega) (he_low R h12 ho hh hm ha hb hk l (by omega))
set_option maxHeartbeats 1000000 in
theorem he_96 {d : Nat} {D : Mm} {Q : Option Value → Mm → Prop} {op h m a : Nat} {x : Int32} {u6 : Value} (hk : Wp (d + 6) 116 Q 101 [.ref 0, .int (nI op), .int (nI h), .int (-1), .int (nI m), .int (nI a), .int (nI 5)] [] D) : Wp (d + 6) 116 Q 96 [.ref 0, .int (nI op), .int (nI h), .int x, .int (nI m), .int (nI a), u6] [] D := by
  refine w_const i116_96 kc_m1 ?_
  refine w_ist3 i116_97 ?_
  refine w_const i116_98 kc_5 ?_
  refine w_ist6 i116_99 ?_
  exact hk
set_option maxHeartbeats 1000000 in
theorem he_91 {d : Nat} {D : Mm} {Q : Option Value → Mm → Prop} {op h m a : Nat} {x : Int32} {u6 : Value} (hm : m < 64) (ha : a < 6) (hb : m.testBit a = false) (hk : Wp (d + 6) 116 Q 147 [.ref 0, .int (nI op), .int (nI h), .int (nI a), .int (nI m), .int (nI a), .int (nI 5)] [] D) : Wp (d + 6) 116 Q 91 [.ref 0, .int (nI op), .int (nI h), .int x, .int (nI m), .int (nI a), u6] [] D := by
  refine w_ild5 i116_91 ?_
  refine w_goto i116_93 g116_93 ?_
  refine w_ist3 i116_97 ?_
  refine w_const i116_98 kc_5 ?_
  refine w_ist6 i116_99 ?_
  refine w_ild6 i116_101 ?_
  refine w_iltF i116_103  (by decide) ?_
  refine w_ild4 i116_106 ?_
  refine w_ild5 i116_108 ?_
  refine w_ishr i116_110 rfl ?_
  refine w_const i116_111 kc_1 ?_
  refine w_iand i116_112 (bt1 _ hm _ ha) ?_
  refine w_const i116_113 kc_1 ?_
  rw [hb, if_neg (by decide)]
  refine w_cneNT i116_114 g116_114 (by omega) (by omega) (by omega) ?_
  exact hk
set_option maxHeartbeats 1000000 in
theorem he_40m {d : Nat} {D : Mm} {Q : Option Value → Mm → Prop} {n op h : Nat} {V : Nat → Int32} (R : Rel D n V) (h12 : n ≤ 12) (ho : opV V) (hh : h < 6) {m a : Nat} {x : Int32} {u6 : Value} (hm : m < 64) (ha : a < 6) (hb : m.testBit a = true) (hk : Wp (d + 6) 116 Q 96 [.ref 0, .int (nI op), .int (nI h), .int x, .int (nI m), .int (nI a), u6] [] D) : Wp (d + 6) 116 Q 40 [.ref 0, .int (nI op), .int (nI h), .int x, .int (nI m), .int (nI a), u6] [] D := by
  refine w_ild4 i116_40 ?_
  refine w_ild5 i116_42 ?_
  refine w_ishr i116_44 rfl ?_
  refine w_const i116_45 kc_1 ?_
  refine w_iand i116_46 (bt1 _ hm _ ha) ?_
  rw [hb, if_pos rfl]
  refine w_ineNT i116_47 g116_47 (by omega) (by decide) ?_
  refine w_ild4 i116_81 ?_
  refine w_ild5 i116_83 ?_
  refine w_ishr i116_85 rfl ?_
  refine w_const i116_86 kc_1 ?_
  refine w_iand i116_87 (bt1 _ hm _ ha) ?_
  rw [hb, if_pos rfl]
  refine w_ineNT i116_88 g116_88 (by omega) (by decide) ?_
  exact hk
set_option maxHeartbeats 1000000 in
theorem he_40o {d : Nat} {D : Mm} {Q : Option Value → Mm → Prop} {n op h : Nat} {V : Nat → Int32} (R : Rel D n V) (h12 : n ≤ 12) (ho : opV V) (hh : h < 6) {m a : Nat} {x : Int32} {u6 : Value} (hm : m < 64) (ha : a < 6) (hu6 : nvV D u6) (hb : m.testBit a = false) (hO : V (6 + 4 * a + 0) = nI 1) (hk : Wp (d + 6) 116 Q 91 [.ref 0, .int (nI op), .int (nI h), .int x, .int (nI m), .int (nI a), u6] [] D) : Wp (d + 6) 116 Q 40 [.ref 0, .int (nI op), .int (nI h), .int x, .int (nI m), .int (nI a), u6] [] D := by
  refine w_ild4 i116_40 ?_
  refine w_ild5 i116_42 ?_
  refine w_ishr i116_44 rfl ?_
  refine w_const i116_45 kc_1 ?_
  refine w_iand i116_46 (bt1 _ hm _ ha) ?_
  rw [hb, if_neg (by decide)]
  refine w_ineNF i116_47 (by omega) rfl ?_
  refine w_ald0 i116_50 ?_
  refine w_ild5 i116_51 ?_
  refine w_const i116_53 kc_0 ?_
  refine w_VD3 i116_54 c67 (Or.inl rfl) (Or.inl ⟨by decide +kernel, by decide⟩) (by repeat (first | exact nvL_nil | refine nvL_cons (by first | exact True.intro | exact nvSt (by decide) | exact hu6 | exact nvK (by omega) (by omega)) ?_)) ⟨(by repeat (first | exact nvL_nil | refine nvL_cons (by first | exact True.intro | exact nvSt (by decide) | exact hu6 | exact nvK (by omega) (by omega)) ?_)), rfl, Nat.le_of_ble_eq_true rfl⟩ (Ex_go (K_houseOf_0 R h12 ho ha) ?_)
  rw [hO]
  refine w_ineT i116_57 g116_57 (by decide) ?_
  refine w_ild4 i116_81 ?_
  refine w_ild5 i116_83 ?_
  refine w_ishr i116_85 rfl ?_
  refine w_const i116_86 kc_1 ?_
  refine w_iand i116_87 (bt1 _ hm _ ha) ?_
  rw [hb, if_neg (by decide)]
  refine w_ineNF i116_88 (by omega) rfl ?_
  exact hk
set_option maxHeartbeats 1000000 in
theorem he_40c {d : Nat} {D : Mm} {Q : Option Value → Mm → Prop} {n op h : Nat} {V : Nat → Int32} (R : Rel D n V) (h12 : n ≤ 12) (ho : opV V) (hh : h < 6) {m a b : Nat} {x : Int32} {u6 : Value} (hm : m < 64) (ha : a < 6) (hu6 : nvV D u6) (hb : m.testBit a = false) (hO : V (6 + 4 * a + 0) = nI 0) (hr : V (6 + 4 * a + 1) = nI b) (hk : Wp (d + 6) 116 Q 40 [.ref 0, .int (nI op), .int (nI h), .int x, .int (nI (m ||| 2 ^ a)), .int (nI b), u6] [] D) : Wp (d + 6) 116 Q 40 [.ref 0, .int (nI op), .int (nI h), .int x, .int (nI m), .int (nI a), u6] [] D := by
  refine w_ild4 i116_40 ?_
  refine w_ild5 i116_42 ?_
  refine w_ishr i116_44 rfl ?_
  refine w_const i116_45 kc_1 ?_
  refine w_iand i116_46 (bt1 _ hm _ ha) ?_
  rw [hb, if_neg (by decide)]
  refine w_ineNF i116_47 (by omega) rfl ?_
  refine w_ald0 i116_50 ?_
  refine w_ild5 i116_51 ?_
  refine w_const i116_53 kc_0 ?_
  refine w_VD3 i116_54 c67 (Or.inl rfl) (Or.inl ⟨by decide +kernel, by decide⟩) (by repeat (first | exact nvL_nil | refine nvL_cons (by first | exact True.intro | exact nvSt (by decide) | exact hu6 | exact nvK (by omega) (by omega)) ?_)) ⟨(by repeat (first | exact nvL_nil | refine nvL_cons (by first | exact True.intro | exact nvSt (by decide) | exact hu6 | exact nvK (by omega) (by omega)) ?_)), rfl, Nat.le_of_ble_eq_true rfl⟩ (Ex_go (K_houseOf_0 R h12 ho ha) ?_)
  rw [hO]
  refine w_ineF i116_57 (by decide) ?_
  refine w_ild4 i116_60 ?_
  refine w_const i116_62 kc_1 ?_
  refine w_ild5 i116_63 ?_
  refine w_ishl i116_65 (bt2 _ ha) ?_
  refine w_ior i116_66 (bt3 _ hm _ ha).1 ?_
  refine w_ist4 i116_67 ?_
  refine w_ald0 i116_69 ?_
  refine w_ild5 i116_70 ?_
  refine w_const i116_72 kc_1 ?_
  refine w_VD3 i116_73 c67 (Or.inl rfl) (Or.inl ⟨by decide +kernel, by decide⟩) (by repeat (first | exact nvL_nil | refine nvL_cons (by first | exact True.intro | exact nvSt (by decide) | exact hu6 | exact nvK (by omega) (by omega)) ?_)) ⟨(by repeat (first | exact nvL_nil | refine nvL_cons (by first | exact True.intro | exact nvSt (by decide) | exact hu6 | exact nvK (by omega) (by omega)) ?_)), rfl, Nat.le_of_ble_eq_true rfl⟩ (Ex_go (K_houseOf_1 R h12 ho ha) ?_)
  rw [hr]
  refine w_ist5 i116_76 ?_
  refine w_goto i116_78 g116_78 ?_
  exact hk
/-- the heirs are gone through as the statute does -/
theorem he_loop {d : Nat} {D : Mm} {Q : Option Value → Mm → Prop} {n op h r : Nat} {V : Nat → Int32} {x : Int32} (R : Rel D n V) (h12 : n ≤ 12) (ho : opV V) (hr : okHr V) (hh : h < 6) (hk : ∀ v5 v6, nvV D v5 → nvV D v6 → ∀ v4, nvV D v4 → Wp (d + 6) 116 Q 147 [.ref 0, .int (nI op), .int (nI h), .int (nI r), v4, v5, v6] [] D) : ∀ (k m a : Nat) (u6 : Value), pc6 m + k = 7 → m < 64 → a < 6 → nvV D u6 → m.testBit h = true → (∀ j, j < 6 → m.testBit j = true → (j = h ∨ ¬ vOpen V j) ∧ (m.testBit (hrV V j) = true ∨ hrV V j = a)) → orE (chase V h k a) (firstO V h 6 0) = some r →
    Wp (d + 6) 116 Q 40 [.ref 0, .int (nI op), .int (nI h), .int x, .int (nI m), .int (nI a), u6] [] D
  | 0, m, a, u6, hp, _, _, _, _, _, _ => by have := pc6_le (m := m); omega
  | k + 1, m, a, u6, hp, hm, ha, hu6, hb, hM, hc => by
    cases hba : m.testBit a with
    | true =>
      have hnone : chase V h (k + 1) a = none := chase_none (m := m) (fun j hj hbj => by
        obtain ⟨q1, q2⟩ := hM j hj hbj
        refine ⟨q1, (okHr_eq hr hj).2, ?_⟩
        rcases q2 with q | q
        · exact q
        · rw [q]; exact hba) (k + 1) a ha hba
      rw [hnone] at hc
      have hc : firstO V h 6 0 = some r := hc
      have hd : dueF V h 6 = nI r := by unfold dueF; rw [show 6 - 6 = 0 from rfl, hc]
      refine he_40m R h12 ho hh hm ha hba (he_96 ?_)
      have h9 := he_low (Q := Q) (op := op) R h12 ho hh hm ha hba (by rw [hd]; exact hk (.int (nI a)) (.int (-1)) True.intro True.intro (.int (nI m)) True.intro) 6 (Nat.le_refl 6)
      exact h9
    | false =>
      have hne : a ≠ h := fun e => by rw [e, hb] at hba; cases hba
      unfold chase at hc
      rw [ifp_f hne] at hc
      by_cases hO : vOpen V a
      · rw [ifp_t hO] at hc
        have hc : some a = some r := hc
        cases hc
        exact he_40o R h12 ho hh hm ha hu6 hba hO (he_91 hm ha hba (hk (.int (nI r)) (.int (nI 5)) True.intro True.intro (.int (nI m)) True.intro))
      · rw [ifp_f hO] at hc
        have h0 : V (6 + 4 * a + 0) = nI 0 := (ho a ha).resolve_right hO
        obtain ⟨e1, e2⟩ := okHr_eq hr ha
        obtain ⟨b1, b2, b3⟩ := bt3 m hm a ha
        have b4 := bt4 m hm a ha
        have hpc := b3 hba
        refine he_40c R h12 ho hh hm ha hu6 hba h0 e1 (he_loop R h12 ho hr hh hk k (m ||| 2 ^ a) (hrV V a) u6 (by omega) b2 e2 hu6 (by rw [b4 h hh, hb]; rfl) (fun j hj hbj => ?_) hc)
        rw [b4 j hj] at hbj
        by_cases z : j = a
        · exact ⟨by rw [z]; exact Or.inr hO, Or.inr (by rw [z])⟩
        · have hbj2 : m.testBit j = true := by simpa [z] using hbj
          obtain ⟨q1, q2⟩ := hM j hj hbj2
          refine ⟨q1, Or.inl ?_⟩
          rw [b4 _ (okHr_eq hr hj).2]
          rcases q2 with q | q
          · rw [q]; rfl
          · rw [q]; simp
set_option maxHeartbeats 1000000 in
theorem he_head {d : Nat} {D : Mm} {Q : Option Value → Mm → Prop} {n op h : Nat} {V : Nat → Int32} (R : Rel D n V) (h12 : n ≤ 12) (ho : opV V) (hh : h < 6) (hop6 : op ≤ 6) {u3 u4 u5 u6 : Value} (hu3 : nvV D u3) (hu4 : nvV D u4) (hu5 : nvV D u5) (hu6 : nvV D u6) (hA : ¬ V (6 + 4 * h + 0) = nI 1 → Wp (d + 6) 116 Q 147 [.ref 0, .int (nI op), .int (nI h), .int (-1015), u4, u5, u6] [] D) (hB : V (6 + 4 * h + 0) = nI 1 → op ≤ 1 → Wp (d + 6) 116 Q 147 [.ref 0, .int (nI op), .int (nI h), .int (-1015), u4, u5, u6] [] D) (hC : V (6 + 4 * h + 0) = nI 1 → ¬ op ≤ 1 → Wp (d + 6) 116 Q 27 [.ref 0, .int (nI op), .int (nI h), .int (-1015), u4, u5, u6] [] D) : Wp (d + 6) 116 Q 2 [.ref 0, .int (nI op), .int (nI h), u3, u4, u5, u6] [] D := by
  refine w_ild2 i116_2 ?_
  refine w_bip i116_3 kb_6 ?_
  refine w_cgeNF i116_5 (by omega) (by omega) (by omega) ?_
  refine w_sip i116_8 ks_m1015 ?_
  refine w_ist3 i116_11 ?_
  refine w_ald0 i116_12 ?_
  refine w_ild2 i116_13 ?_
  refine w_const i116_14 kc_0 ?_
  refine w_VD3 i116_15 c67 (Or.inl rfl) (Or.inl ⟨by decide +kernel, by decide⟩) (by repeat (first | exact nvL_nil | refine nvL_cons (by first | exact True.intro | exact nvSt (by decide) | exact hu3 | exact hu4 | exact hu5 | exact hu6 | exact nvK (by omega) (by omega)) ?_)) ⟨(by repeat (first | exact nvL_nil | refine nvL_cons (by first | exact True.intro | exact nvSt (by decide) | exact hu3 | exact hu4 | exact hu5 | exact hu6 | exact nvK (by omega) (by omega)) ?_)), rfl, Nat.le_of_ble_eq_true rfl⟩ (Ex_go (K_houseOf_0 R h12 ho hh) ?_)
  refine w_const i116_18 kc_1 ?_
  refine w_cne i116_19 g116_19  (fun h19 => ?_) (fun h19 => ?_)
  · skip
    exact hA h19
  · skip
    refine w_ild1 i116_22 ?_
    refine w_const i116_23 kc_1 ?_
    by_cases hop : op ≤ 1
    · refine w_cleNT i116_24 g116_24 (by omega) (by omega) hop ?_
      exact hB h19 hop
    · refine w_cleNF i116_24 (by omega) (by omega) (by omega) ?_
      exact hC h19 hop
set_option maxHeartbeats 1000000 in
theorem he_27 {d : Nat} {D : Mm} {Q : Option Value → Mm → Prop} {n op h : Nat} {V : Nat → Int32} (R : Rel D n V) (h12 : n ≤ 12) (ho : opV V) (hh : h < 6) {u4 u5 u6 : Value} (hu4 : nvV D u4) (hu5 : nvV D u5) (hu6 : nvV D u6) (hr : V (6 + 4 * h + 1) = nI (hrV V h)) (hk : Wp (d + 6) 116 Q 40 [.ref 0, .int (nI op), .int (nI h), .int (-1015), .int (nI (2 ^ h)), .int (nI (hrV V h)), u6] [] D) : Wp (d + 6) 116 Q 27 [.ref 0, .int (nI op), .int (nI h), .int (-1015), u4, u5, u6] [] D := by
  refine w_const i116_27 kc_1 ?_
  refine w_ild2 i116_28 ?_
  refine w_ishl i116_29 (bt2 _ hh) ?_
  refine w_ist4 i116_30 ?_
  refine w_ald0 i116_32 ?_
  refine w_ild2 i116_33 ?_
  refine w_const i116_34 kc_1 ?_
  refine w_VD3 i116_35 c67 (Or.inl rfl) (Or.inl ⟨by decide +kernel, by decide⟩) (by repeat (first | exact nvL_nil | refine nvL_cons (by first | exact True.intro | exact nvSt (by decide) | exact hu3 | exact hu4 | exact hu5 | exact hu6 | exact nvK (by omega) (by omega)) ?_)) ⟨(by repeat (first | exact nvL_nil | refine nvL_cons (by first | exact True.intro | exact nvSt (by decide) | exact hu3 | exact hu4 | exact hu5 | exact hu6 | exact nvK (by omega) (by omega)) ?_)), rfl, Nat.le_of_ble_eq_true rfl⟩ (Ex_go (K_houseOf_1 R h12 ho hh) ?_)
  rw [hr]
  refine w_ist5 i116_38 ?_
  exact hk
set_option maxHeartbeats 1000000 in
theorem he_end {d : Nat} {D : Mm} {op : Nat} {u3 u4 u5 u6 : Value} : Wp (d + 6) 116 (Ex (some (.int (nI 1))) D) 2 [.ref 0, .int (nI op), .int (nI 6), u3, u4, u5, u6] [] D := by
  refine w_ild2 i116_2 ?_
  refine w_bip i116_3 kb_6 ?_
  refine w_cgeNT i116_5 g116_5 (by omega) (by omega) (Nat.le_refl _) ?_
  refine w_const i116_195 kc_1 ?_
  refine w_rz i116_196 r116 nar_z1 ?_
  exact ⟨rfl, rfl⟩
theorem he_all {d : Nat} {D : Mm} {n B : Nat} {V : Nat → Int32} (R : Rel D n V) (H : IV n V B) : ∀ (k h : Nat) (u3 u4 u5 u6 : Value), h + k = 6 → nvV D u3 → nvV D u4 → nvV D u5 → nvV D u6 → Wp (d + 6) 116 (Ex (some (.int (nI 1))) D) 2 [.ref 0, .int (nI (sN6 6 (opc V))), .int (nI h), u3, u4, u5, u6] [] D
  | 0, h, u3, u4, u5, u6, hk, _, _, _, _ => by
    have e : h = 6 := hk
    rw [e]; exact he_end
  | k + 1, h, u3, u4, u5, u6, hk, n3, n4, n5, n6 => by
    have hh : h < 6 := by omega
    have h12 := H.2.1
    have o6 : sN6 6 (opc V) ≤ 6 := by
      have := sN6_c (f := opc V) (c := 1) 6 (fun i hi => (opc_01 H hi).1); omega
    have nxt_ : ∀ (x : Int32) (u4 u5 u6 : Value), nvV D u4 → nvV D u5 → nvV D u6 → Wp (d + 6) 116 (Ex (some (.int (nI 1))) D) 2 [.ref 0, .int (nI (sN6 6 (opc V))), .int (nI (h + 1)), .int x, u4, u5, u6] [] D := fun x u4 u5 u6 a b c => he_all R H k (h + 1) (.int x) u4 u5 u6 (by omega) True.intro a b c
    refine he_head R h12 H.op hh o6 n3 n4 n5 n6 (fun hO => ?_) (fun hO ho1 => ?_) (fun hO ho1 => ?_)
    · exact he_none n4 n5 n6 (K_inherits_sh R h12 H.op hh hO) (K_melt_sh R h12 H.op hh hO) (nxt_ _ _ _ _ n4 n5 n6)
    · obtain ⟨⟨p1, p2⟩, p3⟩ := opens_one H hh hO
      have e : vSucc V h = none := p3.mp (by rw [opens_nat H, show sN6 6 (opc V) = 1 by omega])
      exact he_none n4 n5 n6 (K_inherits_no R h12 H.op H.hr hh hO e) (K_melt_no R h12 H.op H.hr hh hO e) (nxt_ _ _ _ _ n4 n5 n6)
    · obtain ⟨⟨p1, p2⟩, p3⟩ := opens_one H hh hO
      cases e : vSucc V h with
      | none =>
        have := p3.mpr e
        rw [opens_nat H] at this
        have := nI_inj (by omega) (by omega) this
        omega
      | some r =>
        obtain ⟨r6, -, -⟩ := vSucc_lt H.hr hh e
        obtain ⟨e1, e2⟩ := okHr_eq H.hr hh
        obtain ⟨b1, b2, b3⟩ := bt5 h hh
        have htm := tm_le (V := V) (h := nI h) (w := mTray n V (nI r)) n
        refine he_27 R h12 H.op hh n4 n5 n6 e1 (he_loop R h12 H.op H.hr hh (r := r) (fun v5 v6 a5 a6 v4 a4 => he_some (by omega) (x := (tmS V (nI h) (mTray n V (nI r)) n).2) (by omega) a4 a5 a6 (K_inherits R h12 H.op H.hr hh hO e) (K_melt R h12 H.op H.hr hh hO e) (nxt_ _ _ _ _ a4 a5 a6)) 6 (2 ^ h) (hrV V h) u6 (by omega) b1 e2 n6 (by rw [b3 h hh]; simp) (fun j hj hb => ?_) e)
        rw [b3 j hj] at hb
        have hj2 : j = h := of_decide_eq_true hb
        exact ⟨Or.inl hj2, Or.inr (by rw [hj2])⟩
set_option maxHeartbeats 100000 in
theorem K_heirs {d : Nat} {D : Mm} {n B : Nat} {V : Nat → Int32} (R : Rel D n V) (H : IV n V B) : Ct (d + 7) 116 [.ref 0, .int (nI (sN6 6 (opc V)))] D (Ex (some (.int (nI 1))) D) := by
  refine ent m116 rfl rfl (ls := [.ref 0, .int (nI (sN6 6 (opc V))), .retAddr 0, .retAddr 0, .retAddr 0, .retAddr 0, .retAddr 0]) rfl ?_
  refine w_const i116_0 kc_0 ?_
  refine w_ist2 i116_1 ?_
  exact he_all R H 6 0 _ _ _ _ (by omega) True.intro True.intro True.intro True.intro
