/-! numbers as signs -/
theorem neg_toInt {a : Nat} (h : a < 2147483648) : (-(nI a)).toInt = -(a : Int) := by
  rw [Int32.toInt_neg, nI_toInt h]
  exact Int.bmod_eq_of_le (by omega) (by omega)
theorem neg_le {a b : Nat} (ha : a < 2147483648) (hb : b < 2147483648) : -(nI a) ≤ -(nI b) ↔ b ≤ a := by
  rw [Int32.le_iff_toInt_le, neg_toInt ha, neg_toInt hb]; omega
theorem neg_lt {a b : Nat} (ha : a < 2147483648) (hb : b < 2147483648) : -(nI a) < -(nI b) ↔ b < a := by
  rw [Int32.lt_iff_toInt_lt, neg_toInt ha, neg_toInt hb]; omega
theorem neg_div {a : Nat} (ha : a < 2147483648) : -(nI a) / nI 100 = -(nI (a / 100)) := by
  apply Int32.toInt_inj.mp
  have h : a / 100 < 2147483648 := by omega
  rw [Int32.toInt_div, neg_toInt ha, nI_toInt (by omega), neg_toInt h, Int.neg_tdiv, ← Int.ofNat_tdiv]
  apply Int.bmod_eq_of_le <;> omega
theorem neg_qr {a : Nat} (ha : a < 100000) : -(nI (a / 100)) * nI 100 - -(nI a) = nI (a % 100) := by
  apply Int32.toInt_inj.mp
  rw [Int32.toInt_sub, Int32.toInt_mul, neg_toInt (by omega), neg_toInt (by omega), nI_toInt (by omega), nI_toInt (by omega)]
  rw [Int.bmod_eq_of_le (n := -((a / 100 : Nat) : Int) * ((100 : Nat) : Int)) (by omega) (by omega)]
  rw [Int.bmod_eq_of_le (by omega) (by omega)]
  omega
theorem neg_neg' {a : Nat} : -(-(nI a)) = nI a := Int32.neg_neg
theorem neg10 : (-10 : Int32) = -(nI 10) := by decide
theorem neg100 : (-100 : Int32) = -(nI 100) := by decide
theorem neg9 : (-9 : Int32) = -(nI 9) := by decide
theorem mul10 {a : Nat} : nI 10 * -(nI a) = -(nI (a * 10)) := by rw [Int32.mul_neg, nI_mul, Nat.mul_comm]
theorem tabO : ∀ r, r < 100 → (roc 3000).getD (nI r).toNatClampNeg 0 = nI (48 + r % 10) := by decide +kernel
theorem tabT : ∀ r, r < 100 → (roc 3001).getD (nI r).toNatClampNeg 0 = nI (48 + r / 10) := by decide +kernel
theorem tabOl : (roc 3000).length = 100 := by decide +kernel
theorem tabTl : (roc 3001).length = 100 := by decide +kernel
theorem w_balO {d k pc a b c e r : Nat} {Q : Option Value → Mm → Prop} {ls st : List Value} {D : Mm} (hi : ins k pc = some (.baload, a, b, c, e)) (hr : r < 100) (h : Wp d k Q (pc + 1) ls (.int (nI (48 + r % 10)) :: st) D) : Wp d k Q pc ls (.int (nI r) :: .ref 3000 :: st) D := w_balR hi (Or.inr (Or.inl rfl)) (by rw [tabOl]; exact vp_in_nI hr (by decide)) (by rw [tabO r hr]; exact h)
theorem w_balT {d k pc a b c e r : Nat} {Q : Option Value → Mm → Prop} {ls st : List Value} {D : Mm} (hi : ins k pc = some (.baload, a, b, c, e)) (hr : r < 100) (h : Wp d k Q (pc + 1) ls (.int (nI (48 + r / 10)) :: st) D) : Wp d k Q pc ls (.int (nI r) :: .ref 3001 :: st) D := w_balR hi (Or.inr (Or.inr rfl)) (by rw [tabTl]; exact vp_in_nI hr (by decide)) (by rw [tabT r hr]; exact h)
theorem dgl_i {n i : Nat} (h1 : 1 ≤ i) (h5 : i ≤ 5) (h : n < 10 ^ i) (g : i = 1 ∨ 10 ^ (i - 1) ≤ n) : (dgl n).length = i := by
  unfold dgl
  rcases (by omega : i = 1 ∨ i = 2 ∨ i = 3 ∨ i = 4 ∨ i = 5) with e | e | e | e | e <;> subst e
  · rw [if_pos (by omega)]; rfl
  · rw [if_neg (by omega), if_pos (by omega)]; rfl
  · rw [if_neg (by omega), if_neg (by omega), if_pos (by omega)]; rfl
  · rw [if_neg (by omega), if_neg (by omega), if_neg (by omega), if_pos (by omega)]; rfl
  · rw [if_neg (by omega), if_neg (by omega), if_neg (by omega), if_neg (by omega)]; rfl
theorem p10b {i : Nat} (h : i < 6) : 10 ^ i < 1000000 ∧ 1 ≤ 10 ^ i := by
  rcases (by omega : i = 0 ∨ i = 1 ∨ i = 2 ∨ i = 3 ∨ i = 4 ∨ i = 5) with e | e | e | e | e | e <;> subst e <;> decide
theorem K_size {d : Nat} {D : Mm} {n : Nat} (hn : n < 100000) : Ct (d + 1) 201 [.int (nI n)] D (Ex (some (.int (nI (dgl n).length))) D) := by
  refine ent m201 rfl rfl (ls := [.int (nI n), .retAddr 0, .retAddr 0, .retAddr 0]) rfl ?_
  refine w_const i201_0 kc_1 ?_
  refine w_ist1 i201_1 ?_
  refine w_ild0 i201_2 ?_
  refine w_iltNF i201_3 (by omega) (by omega) ?_
  refine w_const i201_6 kc_0 ?_
  refine w_ist1 i201_7 ?_
  refine w_ild0 i201_8 ?_
  refine w_ineg i201_9 rfl ?_
  refine w_ist0 i201_10 ?_
  refine w_bip i201_11 kb_m10 ?_
  refine w_ist2 i201_13 ?_
  refine w_const i201_14 kc_1 ?_
  refine w_ist3 i201_15 ?_
  have L : ∀ k i, i + k = 5 → 1 ≤ i → (i = 1 ∨ 10 ^ (i - 1) ≤ n) → Wp d 201 (Ex (some (.int (nI (dgl n).length))) D) 16 [.int (-(nI n)), .int (nI 0), .int (-(nI (10 ^ i))), .int (nI i)] [] D := by
    intro k
    induction k with
    | zero =>
      intro i hk h1 g
      have e : i = 5 := by omega
      subst e
      refine w_ild3 i201_16 ?_
      refine w_bip i201_17 kb_10 ?_
      refine w_cgeNF i201_19 (by omega) (by omega) (by omega) ?_
      refine w_ild0 i201_22 ?_
      refine w_ild2 i201_23 ?_
      refine w_cleF i201_24 (Int32.not_le.mp (fun z => by have := (neg_le (by omega) (by omega)).mp z; omega)) ?_
      refine w_ild3 i201_27 ?_
      refine w_ild1 i201_28 ?_
      refine w_iadd i201_29 (nI_add _ _) ?_
      refine w_ri i201_30 r201 ?_
      rw [dgl_i h1 (by omega) (by omega) g]
      exact ⟨rfl, rfl⟩
    | succ k ih =>
      intro i hk h1 g
      have hp := p10b (i := i) (by omega)
      refine w_ild3 i201_16 ?_
      refine w_bip i201_17 kb_10 ?_
      refine w_cgeNF i201_19 (by omega) (by omega) (by omega) ?_
      refine w_ild0 i201_22 ?_
      refine w_ild2 i201_23 ?_
      refine w_cle i201_24 g201_24 (fun h24 => ?_) (fun h24 => ?_)
      · have h24b := (neg_le (by omega) (by omega)).mp h24
        refine w_bip i201_31 kb_10 ?_
        refine w_ild2 i201_33 ?_
        refine w_imul i201_34 mul10 ?_
        refine w_ist2 i201_35 ?_
        refine w_inc3 i201_36 (inc1 _) ?_
        refine w_goto i201_39 g201_39 ?_
        exact ih (i + 1) (by omega) (by omega) (Or.inr (by rw [Nat.add_sub_cancel]; exact h24b))
      · have h24b : n < 10 ^ i := (neg_lt (by omega) (by omega)).mp h24
        refine w_ild3 i201_27 ?_
        refine w_ild1 i201_28 ?_
        refine w_iadd i201_29 (nI_add _ _) ?_
        refine w_ri i201_30 r201 ?_
        rw [dgl_i h1 (by omega) h24b g]
        exact ⟨rfl, rfl⟩
  rw [neg10]
  exact L 4 1 rfl (by omega) (Or.inl rfl)
theorem gc_s_181 {d : Nat} {Q : Option Value → Mm → Prop} {x : Value} {m p : Nat} {D : Mm} {u v : Value} (hx : nvB x = true) (hm : 100 ≤ m) (hm2 : m < 100000) (hp : p + 2 ≤ cap D 181) (hc : cap D 181 ≤ 300) (h : ∀ u v, Wp d 200 Q 22 [.int (-(nI (m / 100))), x, .ref 181, u, v, .int (nI p), .int (nI 0)] [] (mup (mup D 181 (p + 1) (nI (48 + m % 10))) 181 p (nI (48 + m / 10 % 10)))) : Wp d 200 Q 22 [.int (-(nI m)), x, .ref 181, u, v, .int (nI (p + 2)), .int (nI 0)] [] D := by
  have hL : LEN = 1000000 := rfl
  refine w_ild0 i200_22 ?_
  refine w_bip i200_23 kb_m100 ?_
  refine w_cgtF i200_25 (by rw [neg100]; exact (neg_le (by omega) (by omega)).mpr hm) ?_
  refine w_ild0 i200_28 ?_
  refine w_bip i200_29 kb_100 ?_
  refine w_idiv i200_31 (by decide) (neg_div (by omega)) ?_
  refine w_ist3 i200_32 ?_
  refine w_ild3 i200_33 ?_
  refine w_bip i200_34 kb_100 ?_
  refine w_imul i200_36 rfl ?_
  refine w_ild0 i200_37 ?_
  refine w_isub i200_38 (neg_qr hm2) ?_
  refine w_ist4 i200_39 ?_
  refine w_ild3 i200_41 ?_
  refine w_ist0 i200_42 ?_
  refine w_ald2 i200_43 ?_
  refine w_inc5 i200_44 (dec1 _) ?_
  refine w_ild5 i200_47 ?_
  refine w_gst i200_49 rfl ?_
  refine w_ild4 i200_52 ?_
  refine w_balO i200_54 (by omega) ?_
  refine w_bas i200_55 (congrArg Prod.fst s_181) (by omega) (by omega) ?_
  refine w_ald2 i200_56 ?_
  refine w_inc5 i200_57 (dec1 _) ?_
  refine w_ild5 i200_60 ?_
  refine w_gst i200_62 rfl ?_
  refine w_ild4 i200_65 ?_
  refine w_balT i200_67 (by omega) ?_
  refine w_bas i200_68 (congrArg Prod.fst s_181) (by rw [cap_mup2 (Or.inr (by omega))]; omega) (by omega) ?_
  refine w_goto i200_69 g200_69 ?_
  rw [narb_t _ (by omega), narb_t _ (by omega), show m % 100 % 10 = m % 10 by omega, show m % 100 / 10 = m / 10 % 10 by omega]
  exact h _ _
theorem gc_f1_181 {d : Nat} {Q : Option Value → Mm → Prop} {x : Value} {m p : Nat} {D : Mm} {u v : Value} (hx : nvB x = true) (hm : m < 10) (hp : p + 1 ≤ cap D 181) (hc : cap D 181 ≤ 300) (h : Q (some (.int (nI p))) (mup D 181 p (nI (48 + m)))) : Wp d 200 Q 22 [.int (-(nI m)), x, .ref 181, u, v, .int (nI (p + 1)), .int (nI 0)] [] D := by
  have hL : LEN = 1000000 := rfl
  refine w_ild0 i200_22 ?_
  refine w_bip i200_23 kb_m100 ?_
  refine w_cgtT i200_25 g200_25 (by rw [neg100]; exact (neg_lt (by omega) (by omega)).mpr (by omega)) ?_
  refine w_ald2 i200_72 ?_
  refine w_inc5 i200_73 (dec1 _) ?_
  refine w_ild5 i200_76 ?_
  refine w_gst i200_78 rfl ?_
  refine w_ild0 i200_81 ?_
  refine w_ineg i200_82 neg_neg' ?_
  refine w_balO i200_83 (by omega) ?_
  refine w_bas i200_84 (congrArg Prod.fst s_181) (by omega) (by omega) ?_
  refine w_ild0 i200_85 ?_
  refine w_bip i200_86 kb_m9 ?_
  refine w_cgeT i200_88 g200_88 (by rw [neg9]; exact (neg_le (by omega) (by omega)).mpr (by omega)) ?_
  refine w_ild6 i200_104 ?_
  refine w_ieqNT i200_106 g200_106 (by omega) (by omega) ?_
  refine w_ild5 i200_118 ?_
  refine w_ri i200_120 r200 ?_
  rw [narb_t _ (by omega), show 48 + m % 10 = 48 + m by omega]
  exact h
theorem gc_f2_181 {d : Nat} {Q : Option Value → Mm → Prop} {x : Value} {m p : Nat} {D : Mm} {u v : Value} (hx : nvB x = true) (hm : ¬ m < 10) (hm2 : m < 100) (hp : p + 2 ≤ cap D 181) (hc : cap D 181 ≤ 300) (h : Q (some (.int (nI p))) (mup (mup D 181 (p + 1) (nI (48 + m % 10))) 181 p (nI (48 + m / 10)))) : Wp d 200 Q 22 [.int (-(nI m)), x, .ref 181, u, v, .int (nI (p + 2)), .int (nI 0)] [] D := by
  have hL : LEN = 1000000 := rfl
  refine w_ild0 i200_22 ?_
  refine w_bip i200_23 kb_m100 ?_
  refine w_cgtT i200_25 g200_25 (by rw [neg100]; exact (neg_lt (by omega) (by omega)).mpr (by omega)) ?_
  refine w_ald2 i200_72 ?_
  refine w_inc5 i200_73 (dec1 _) ?_
  refine w_ild5 i200_76 ?_
  refine w_gst i200_78 rfl ?_
  refine w_ild0 i200_81 ?_
  refine w_ineg i200_82 neg_neg' ?_
  refine w_balO i200_83 (by omega) ?_
  refine w_bas i200_84 (congrArg Prod.fst s_181) (by omega) (by omega) ?_
  refine w_ild0 i200_85 ?_
  refine w_bip i200_86 kb_m9 ?_
  refine w_cgeF i200_88 (by rw [neg9]; exact (neg_lt (by omega) (by omega)).mpr (by omega)) ?_
  refine w_ald2 i200_91 ?_
  refine w_inc5 i200_92 (dec1 _) ?_
  refine w_ild5 i200_95 ?_
  refine w_gst i200_97 rfl ?_
  refine w_ild0 i200_100 ?_
  refine w_ineg i200_101 neg_neg' ?_
  refine w_balT i200_102 (by omega) ?_
  refine w_bas i200_103 (congrArg Prod.fst s_181) (by rw [cap_mup2 (Or.inr (by omega))]; omega) (by omega) ?_
  refine w_ild6 i200_104 ?_
  refine w_ieqNT i200_106 g200_106 (by omega) (by omega) ?_
  refine w_ild5 i200_118 ?_
  refine w_ri i200_120 r200 ?_
  rw [narb_t _ (by omega), narb_t _ (by omega)]
  exact h
def GcP_181 (D D2 : Mm) (s n : Nat) : Prop := (∀ i, i < (dgl n).length → D2 181 (s + i) = nI ((dgl n).getD i 0)) ∧ (∀ j, (j < s ∨ s + (dgl n).length ≤ j) → D2 181 j = D 181 j) ∧ (∀ q, q ≠ 181 → D2 q = D q)
theorem K_getC_181 {d : Nat} {D : Mm} {Q : Option Value → Mm → Prop} {n s : Nat} (hn : n < 100000) (hs : s + (dgl n).length ≤ cap D 181) (hc : cap D 181 ≤ 300) (hq : ∀ D2 v, GcP_181 D D2 s n → Q (some (.int v)) D2) : Ct (d + 1) 200 [.int (nI n), .int (nI (s + (dgl n).length)), .ref 181] D Q := by
  have hL : LEN = 1000000 := rfl
  refine ent m200 rfl rfl (ls := [.int (nI n), .int (nI (s + (dgl n).length)), .ref 181, .retAddr 0, .retAddr 0, .retAddr 0, .retAddr 0]) rfl ?_
  refine w_ild1 i200_0 ?_
  refine w_ist5 i200_1 ?_
  refine w_ild0 i200_3 ?_
  refine w_igeNT i200_4 g200_4 (by omega) (by omega) ?_
  refine w_const i200_11 kc_0 ?_
  refine w_ist6 i200_12 ?_
  refine w_ild6 i200_14 ?_
  refine w_ineNF i200_16 (by omega) (by omega) ?_
  refine w_ild0 i200_19 ?_
  refine w_ineg i200_20 rfl ?_
  refine w_ist0 i200_21 ?_
  by_cases h1 : n < 10
  · have e : dgl n = [48 + n] := by unfold dgl; rw [if_pos h1]
    rw [e] at hs ⊢
    refine gc_f1_181 rfl h1 (by exact hs) hc (hq _ _ ⟨?_, ?_, fun q a => mupF a⟩)
    · rw [e]; intro i hi
      have : i = 0 := by have hi : i < 1 := hi; omega
      subst this; exact mupE
    · rw [e]; intro j hj
      have hj : j < s ∨ s + 1 ≤ j := hj
      exact mupJ (by omega)
  · by_cases h2 : n < 100
    · have e : dgl n = [48 + n / 10, 48 + n % 10] := by unfold dgl; rw [if_neg h1, if_pos h2]
      rw [e] at hs ⊢
      refine gc_f2_181 rfl h1 h2 (by exact hs) hc (hq _ _ ⟨?_, ?_, fun q a => (mupF a).trans (mupF a)⟩)
      · rw [e]; intro i hi
        have hi : i < 2 := hi
        rcases (by omega : i = 0 ∨ i = 1) with z | z <;> subst z
        · exact mupE
        · exact Eq.trans (mupJ (by omega)) mupE
      · rw [e]; intro j hj
        have hj : j < s ∨ s + 2 ≤ j := hj
        exact Eq.trans (mupJ (by omega)) (mupJ (by omega))
    · by_cases h3 : n < 1000
      · have e : dgl n = [48 + n / 100, 48 + n / 10 % 10, 48 + n % 10] := by unfold dgl; rw [if_neg h1, if_neg h2, if_pos h3]
        rw [e] at hs ⊢
        have hs : s + 3 ≤ cap D 181 := hs
        refine gc_s_181 (p := s + 1) rfl (by omega) hn (by omega) hc (fun u v => ?_)
        refine gc_f1_181 rfl (by omega) (by rw [cap_mup2 (Or.inr (by omega)), cap_mup2 (Or.inr (by omega))]; omega) (by rw [cap_mup2 (Or.inr (by omega)), cap_mup2 (Or.inr (by omega))]; exact hc) (hq _ _ ⟨?_, ?_, fun q a => (mupF a).trans ((mupF a).trans (mupF a))⟩)
        · rw [e]; intro i hi
          have hi : i < 3 := hi
          rcases (by omega : i = 0 ∨ i = 1 ∨ i = 2) with z | z | z <;> subst z
          · exact mupE
          · exact Eq.trans (mupJ (by omega)) mupE
          · exact Eq.trans (mupJ (by omega)) (Eq.trans (mupJ (by omega)) mupE)
        · rw [e]; intro j hj
          have hj : j < s ∨ s + 3 ≤ j := hj
          exact Eq.trans (mupJ (by omega)) (Eq.trans (mupJ (by omega)) (mupJ (by omega)))
      · by_cases h4 : n < 10000
        · have e : dgl n = [48 + n / 1000, 48 + n / 100 % 10, 48 + n / 10 % 10, 48 + n % 10] := by unfold dgl; rw [if_neg h1, if_neg h2, if_neg h3, if_pos h4]
          rw [e] at hs ⊢
          have hs : s + 4 ≤ cap D 181 := hs
          refine gc_s_181 (p := s + 2) rfl (by omega) hn (by omega) hc (fun u v => ?_)
          refine gc_f2_181 rfl (by omega) (by omega) (by rw [cap_mup2 (Or.inr (by omega)), cap_mup2 (Or.inr (by omega))]; omega) (by rw [cap_mup2 (Or.inr (by omega)), cap_mup2 (Or.inr (by omega))]; exact hc) (hq _ _ ⟨?_, ?_, fun q a => (mupF a).trans ((mupF a).trans ((mupF a).trans (mupF a)))⟩)
          · rw [e]; intro i hi
            have hi : i < 4 := hi
            rcases (by omega : i = 0 ∨ i = 1 ∨ i = 2 ∨ i = 3) with z | z | z | z <;> subst z
            · refine Eq.trans mupE ?_
              rw [show n / 100 / 10 = n / 1000 by omega]; rfl
            · exact Eq.trans (mupJ (by omega)) mupE
            · exact Eq.trans (mupJ (by omega)) (Eq.trans (mupJ (by omega)) mupE)
            · exact Eq.trans (mupJ (by omega)) (Eq.trans (mupJ (by omega)) (Eq.trans (mupJ (by omega)) mupE))
          · rw [e]; intro j hj
            have hj : j < s ∨ s + 4 ≤ j := hj
            exact Eq.trans (mupJ (by omega)) (Eq.trans (mupJ (by omega)) (Eq.trans (mupJ (by omega)) (mupJ (by omega))))
        · have e : dgl n = [48 + n / 10000, 48 + n / 1000 % 10, 48 + n / 100 % 10, 48 + n / 10 % 10, 48 + n % 10] := by unfold dgl; rw [if_neg h1, if_neg h2, if_neg h3, if_neg h4]
          rw [e] at hs ⊢
          have hs : s + 5 ≤ cap D 181 := hs
          refine gc_s_181 (p := s + 3) rfl (by omega) hn (by omega) hc (fun u v => ?_)
          refine gc_s_181 (p := s + 1) rfl (by omega) (by omega) (by rw [cap_mup2 (Or.inr (by omega)), cap_mup2 (Or.inr (by omega))]; omega) (by rw [cap_mup2 (Or.inr (by omega)), cap_mup2 (Or.inr (by omega))]; exact hc) (fun u v => ?_)
          refine gc_f1_181 rfl (by omega) (by rw [cap_mup2 (Or.inr (by omega)), cap_mup2 (Or.inr (by omega)), cap_mup2 (Or.inr (by omega)), cap_mup2 (Or.inr (by omega))]; omega) (by rw [cap_mup2 (Or.inr (by omega)), cap_mup2 (Or.inr (by omega)), cap_mup2 (Or.inr (by omega)), cap_mup2 (Or.inr (by omega))]; exact hc) (hq _ _ ⟨?_, ?_, fun q a => (mupF a).trans ((mupF a).trans ((mupF a).trans ((mupF a).trans (mupF a))))⟩)
          · rw [e]; intro i hi
            have hi : i < 5 := hi
            rcases (by omega : i = 0 ∨ i = 1 ∨ i = 2 ∨ i = 3 ∨ i = 4) with z | z | z | z | z <;> subst z
            · refine Eq.trans mupE ?_
              rw [show n / 100 / 100 = n / 10000 by omega]; rfl
            · refine Eq.trans (mupJ (by omega)) (Eq.trans mupE ?_)
              rw [show n / 100 / 10 = n / 1000 by omega]; rfl
            · exact Eq.trans (mupJ (by omega)) (Eq.trans (mupJ (by omega)) mupE)
            · exact Eq.trans (mupJ (by omega)) (Eq.trans (mupJ (by omega)) (Eq.trans (mupJ (by omega)) mupE))
            · exact Eq.trans (mupJ (by omega)) (Eq.trans (mupJ (by omega)) (Eq.trans (mupJ (by omega)) (Eq.trans (mupJ (by omega)) mupE)))
          · rw [e]; intro j hj
            have hj : j < s ∨ s + 5 ≤ j := hj
            exact Eq.trans (mupJ (by omega)) (Eq.trans (mupJ (by omega)) (Eq.trans (mupJ (by omega)) (Eq.trans (mupJ (by omega)) (mupJ (by omega)))))
theorem gc_s_182 {d : Nat} {Q : Option Value → Mm → Prop} {x : Value} {m p : Nat} {D : Mm} {u v : Value} (hx : nvB x = true) (hm : 100 ≤ m) (hm2 : m < 100000) (hp : p + 2 ≤ cap D 182) (hc : cap D 182 ≤ 300) (h : ∀ u v, Wp d 200 Q 22 [.int (-(nI (m / 100))), x, .ref 182, u, v, .int (nI p), .int (nI 0)] [] (mup (mup D 182 (p + 1) (nI (48 + m % 10))) 182 p (nI (48 + m / 10 % 10)))) : Wp d 200 Q 22 [.int (-(nI m)), x, .ref 182, u, v, .int (nI (p + 2)), .int (nI 0)] [] D := by
  have hL : LEN = 1000000 := rfl
  refine w_ild0 i200_22 ?_
  refine w_bip i200_23 kb_m100 ?_
  refine w_cgtF i200_25 (by rw [neg100]; exact (neg_le (by omega) (by omega)).mpr hm) ?_
  refine w_ild0 i200_28 ?_
  refine w_bip i200_29 kb_100 ?_
  refine w_idiv i200_31 (by decide) (neg_div (by omega)) ?_
  refine w_ist3 i200_32 ?_
  refine w_ild3 i200_33 ?_
  refine w_bip i200_34 kb_100 ?_
  refine w_imul i200_36 rfl ?_
  refine w_ild0 i200_37 ?_
  refine w_isub i200_38 (neg_qr hm2) ?_
  refine w_ist4 i200_39 ?_
  refine w_ild3 i200_41 ?_
  refine w_ist0 i200_42 ?_
  refine w_ald2 i200_43 ?_
  refine w_inc5 i200_44 (dec1 _) ?_
  refine w_ild5 i200_47 ?_
  refine w_gst i200_49 rfl ?_
  refine w_ild4 i200_52 ?_
  refine w_balO i200_54 (by omega) ?_
  refine w_bas i200_55 (congrArg Prod.fst s_182) (by omega) (by omega) ?_
  refine w_ald2 i200_56 ?_
  refine w_inc5 i200_57 (dec1 _) ?_
  refine w_ild5 i200_60 ?_
  refine w_gst i200_62 rfl ?_
  refine w_ild4 i200_65 ?_
  refine w_balT i200_67 (by omega) ?_
  refine w_bas i200_68 (congrArg Prod.fst s_182) (by rw [cap_mup2 (Or.inr (by omega))]; omega) (by omega) ?_
  refine w_goto i200_69 g200_69 ?_
  rw [narb_t _ (by omega), narb_t _ (by omega), show m % 100 % 10 = m % 10 by omega, show m % 100 / 10 = m / 10 % 10 by omega]
  exact h _ _
theorem gc_f1_182 {d : Nat} {Q : Option Value → Mm → Prop} {x : Value} {m p : Nat} {D : Mm} {u v : Value} (hx : nvB x = true) (hm : m < 10) (hp : p + 1 ≤ cap D 182) (hc : cap D 182 ≤ 300) (h : Q (some (.int (nI p))) (mup D 182 p (nI (48 + m)))) : Wp d 200 Q 22 [.int (-(nI m)), x, .ref 182, u, v, .int (nI (p + 1)), .int (nI 0)] [] D := by
  have hL : LEN = 1000000 := rfl
  refine w_ild0 i200_22 ?_
  refine w_bip i200_23 kb_m100 ?_
  refine w_cgtT i200_25 g200_25 (by rw [neg100]; exact (neg_lt (by omega) (by omega)).mpr (by omega)) ?_
  refine w_ald2 i200_72 ?_
  refine w_inc5 i200_73 (dec1 _) ?_
  refine w_ild5 i200_76 ?_
  refine w_gst i200_78 rfl ?_
  refine w_ild0 i200_81 ?_
  refine w_ineg i200_82 neg_neg' ?_
  refine w_balO i200_83 (by omega) ?_
  refine w_bas i200_84 (congrArg Prod.fst s_182) (by omega) (by omega) ?_
  refine w_ild0 i200_85 ?_
  refine w_bip i200_86 kb_m9 ?_
  refine w_cgeT i200_88 g200_88 (by rw [neg9]; exact (neg_le (by omega) (by omega)).mpr (by omega)) ?_
  refine w_ild6 i200_104 ?_
  refine w_ieqNT i200_106 g200_106 (by omega) (by omega) ?_
  refine w_ild5 i200_118 ?_
  refine w_ri i200_120 r200 ?_
  rw [narb_t _ (by omega), show 48 + m % 10 = 48 + m by omega]
  exact h
theorem gc_f2_182 {d : Nat} {Q : Option Value → Mm → Prop} {x : Value} {m p : Nat} {D : Mm} {u v : Value} (hx : nvB x = true) (hm : ¬ m < 10) (hm2 : m < 100) (hp : p + 2 ≤ cap D 182) (hc : cap D 182 ≤ 300) (h : Q (some (.int (nI p))) (mup (mup D 182 (p + 1) (nI (48 + m % 10))) 182 p (nI (48 + m / 10)))) : Wp d 200 Q 22 [.int (-(nI m)), x, .ref 182, u, v, .int (nI (p + 2)), .int (nI 0)] [] D := by
  have hL : LEN = 1000000 := rfl
  refine w_ild0 i200_22 ?_
  refine w_bip i200_23 kb_m100 ?_
  refine w_cgtT i200_25 g200_25 (by rw [neg100]; exact (neg_lt (by omega) (by omega)).mpr (by omega)) ?_
  refine w_ald2 i200_72 ?_
  refine w_inc5 i200_73 (dec1 _) ?_
  refine w_ild5 i200_76 ?_
  refine w_gst i200_78 rfl ?_
  refine w_ild0 i200_81 ?_
  refine w_ineg i200_82 neg_neg' ?_
  refine w_balO i200_83 (by omega) ?_
  refine w_bas i200_84 (congrArg Prod.fst s_182) (by omega) (by omega) ?_
  refine w_ild0 i200_85 ?_
  refine w_bip i200_86 kb_m9 ?_
  refine w_cgeF i200_88 (by rw [neg9]; exact (neg_lt (by omega) (by omega)).mpr (by omega)) ?_
  refine w_ald2 i200_91 ?_
  refine w_inc5 i200_92 (dec1 _) ?_
  refine w_ild5 i200_95 ?_
  refine w_gst i200_97 rfl ?_
  refine w_ild0 i200_100 ?_
  refine w_ineg i200_101 neg_neg' ?_
  refine w_balT i200_102 (by omega) ?_
  refine w_bas i200_103 (congrArg Prod.fst s_182) (by rw [cap_mup2 (Or.inr (by omega))]; omega) (by omega) ?_
  refine w_ild6 i200_104 ?_
  refine w_ieqNT i200_106 g200_106 (by omega) (by omega) ?_
  refine w_ild5 i200_118 ?_
  refine w_ri i200_120 r200 ?_
  rw [narb_t _ (by omega), narb_t _ (by omega)]
  exact h
def GcP_182 (D D2 : Mm) (s n : Nat) : Prop := (∀ i, i < (dgl n).length → D2 182 (s + i) = nI ((dgl n).getD i 0)) ∧ (∀ j, (j < s ∨ s + (dgl n).length ≤ j) → D2 182 j = D 182 j) ∧ (∀ q, q ≠ 182 → D2 q = D q)
theorem K_getC_182 {d : Nat} {D : Mm} {Q : Option Value → Mm → Prop} {n s : Nat} (hn : n < 100000) (hs : s + (dgl n).length ≤ cap D 182) (hc : cap D 182 ≤ 300) (hq : ∀ D2 v, GcP_182 D D2 s n → Q (some (.int v)) D2) : Ct (d + 1) 200 [.int (nI n), .int (nI (s + (dgl n).length)), .ref 182] D Q := by
  have hL : LEN = 1000000 := rfl
  refine ent m200 rfl rfl (ls := [.int (nI n), .int (nI (s + (dgl n).length)), .ref 182, .retAddr 0, .retAddr 0, .retAddr 0, .retAddr 0]) rfl ?_
  refine w_ild1 i200_0 ?_
  refine w_ist5 i200_1 ?_
  refine w_ild0 i200_3 ?_
  refine w_igeNT i200_4 g200_4 (by omega) (by omega) ?_
  refine w_const i200_11 kc_0 ?_
  refine w_ist6 i200_12 ?_
  refine w_ild6 i200_14 ?_
  refine w_ineNF i200_16 (by omega) (by omega) ?_
  refine w_ild0 i200_19 ?_
  refine w_ineg i200_20 rfl ?_
  refine w_ist0 i200_21 ?_
  by_cases h1 : n < 10
  · have e : dgl n = [48 + n] := by unfold dgl; rw [if_pos h1]
    rw [e] at hs ⊢
    refine gc_f1_182 rfl h1 (by exact hs) hc (hq _ _ ⟨?_, ?_, fun q a => mupF a⟩)
    · rw [e]; intro i hi
      have : i = 0 := by have hi : i < 1 := hi; omega
      subst this; exact mupE
    · rw [e]; intro j hj
      have hj : j < s ∨ s + 1 ≤ j := hj
      exact mupJ (by omega)
  · by_cases h2 : n < 100
    · have e : dgl n = [48 + n / 10, 48 + n % 10] := by unfold dgl; rw [if_neg h1, if_pos h2]
      rw [e] at hs ⊢
      refine gc_f2_182 rfl h1 h2 (by exact hs) hc (hq _ _ ⟨?_, ?_, fun q a => (mupF a).trans (mupF a)⟩)
      · rw [e]; intro i hi
        have hi : i < 2 := hi
        rcases (by omega : i = 0 ∨ i = 1) with z | z <;> subst z
        · exact mupE
        · exact Eq.trans (mupJ (by omega)) mupE
      · rw [e]; intro j hj
        have hj : j < s ∨ s + 2 ≤ j := hj
        exact Eq.trans (mupJ (by omega)) (mupJ (by omega))
    · by_cases h3 : n < 1000
      · have e : dgl n = [48 + n / 100, 48 + n / 10 % 10, 48 + n % 10] := by unfold dgl; rw [if_neg h1, if_neg h2, if_pos h3]
        rw [e] at hs ⊢
        have hs : s + 3 ≤ cap D 182 := hs
        refine gc_s_182 (p := s + 1) rfl (by omega) hn (by omega) hc (fun u v => ?_)
        refine gc_f1_182 rfl (by omega) (by rw [cap_mup2 (Or.inr (by omega)), cap_mup2 (Or.inr (by omega))]; omega) (by rw [cap_mup2 (Or.inr (by omega)), cap_mup2 (Or.inr (by omega))]; exact hc) (hq _ _ ⟨?_, ?_, fun q a => (mupF a).trans ((mupF a).trans (mupF a))⟩)
        · rw [e]; intro i hi
          have hi : i < 3 := hi
          rcases (by omega : i = 0 ∨ i = 1 ∨ i = 2) with z | z | z <;> subst z
          · exact mupE
          · exact Eq.trans (mupJ (by omega)) mupE
          · exact Eq.trans (mupJ (by omega)) (Eq.trans (mupJ (by omega)) mupE)
        · rw [e]; intro j hj
          have hj : j < s ∨ s + 3 ≤ j := hj
          exact Eq.trans (mupJ (by omega)) (Eq.trans (mupJ (by omega)) (mupJ (by omega)))
      · by_cases h4 : n < 10000
        · have e : dgl n = [48 + n / 1000, 48 + n / 100 % 10, 48 + n / 10 % 10, 48 + n % 10] := by unfold dgl; rw [if_neg h1, if_neg h2, if_neg h3, if_pos h4]
          rw [e] at hs ⊢
          have hs : s + 4 ≤ cap D 182 := hs
          refine gc_s_182 (p := s + 2) rfl (by omega) hn (by omega) hc (fun u v => ?_)
          refine gc_f2_182 rfl (by omega) (by omega) (by rw [cap_mup2 (Or.inr (by omega)), cap_mup2 (Or.inr (by omega))]; omega) (by rw [cap_mup2 (Or.inr (by omega)), cap_mup2 (Or.inr (by omega))]; exact hc) (hq _ _ ⟨?_, ?_, fun q a => (mupF a).trans ((mupF a).trans ((mupF a).trans (mupF a)))⟩)
          · rw [e]; intro i hi
            have hi : i < 4 := hi
            rcases (by omega : i = 0 ∨ i = 1 ∨ i = 2 ∨ i = 3) with z | z | z | z <;> subst z
            · refine Eq.trans mupE ?_
              rw [show n / 100 / 10 = n / 1000 by omega]; rfl
            · exact Eq.trans (mupJ (by omega)) mupE
            · exact Eq.trans (mupJ (by omega)) (Eq.trans (mupJ (by omega)) mupE)
            · exact Eq.trans (mupJ (by omega)) (Eq.trans (mupJ (by omega)) (Eq.trans (mupJ (by omega)) mupE))
          · rw [e]; intro j hj
            have hj : j < s ∨ s + 4 ≤ j := hj
            exact Eq.trans (mupJ (by omega)) (Eq.trans (mupJ (by omega)) (Eq.trans (mupJ (by omega)) (mupJ (by omega))))
        · have e : dgl n = [48 + n / 10000, 48 + n / 1000 % 10, 48 + n / 100 % 10, 48 + n / 10 % 10, 48 + n % 10] := by unfold dgl; rw [if_neg h1, if_neg h2, if_neg h3, if_neg h4]
          rw [e] at hs ⊢
          have hs : s + 5 ≤ cap D 182 := hs
          refine gc_s_182 (p := s + 3) rfl (by omega) hn (by omega) hc (fun u v => ?_)
          refine gc_s_182 (p := s + 1) rfl (by omega) (by omega) (by rw [cap_mup2 (Or.inr (by omega)), cap_mup2 (Or.inr (by omega))]; omega) (by rw [cap_mup2 (Or.inr (by omega)), cap_mup2 (Or.inr (by omega))]; exact hc) (fun u v => ?_)
          refine gc_f1_182 rfl (by omega) (by rw [cap_mup2 (Or.inr (by omega)), cap_mup2 (Or.inr (by omega)), cap_mup2 (Or.inr (by omega)), cap_mup2 (Or.inr (by omega))]; omega) (by rw [cap_mup2 (Or.inr (by omega)), cap_mup2 (Or.inr (by omega)), cap_mup2 (Or.inr (by omega)), cap_mup2 (Or.inr (by omega))]; exact hc) (hq _ _ ⟨?_, ?_, fun q a => (mupF a).trans ((mupF a).trans ((mupF a).trans ((mupF a).trans (mupF a))))⟩)
          · rw [e]; intro i hi
            have hi : i < 5 := hi
            rcases (by omega : i = 0 ∨ i = 1 ∨ i = 2 ∨ i = 3 ∨ i = 4) with z | z | z | z | z <;> subst z
            · refine Eq.trans mupE ?_
              rw [show n / 100 / 100 = n / 10000 by omega]; rfl
            · refine Eq.trans (mupJ (by omega)) (Eq.trans mupE ?_)
              rw [show n / 100 / 10 = n / 1000 by omega]; rfl
            · exact Eq.trans (mupJ (by omega)) (Eq.trans (mupJ (by omega)) mupE)
            · exact Eq.trans (mupJ (by omega)) (Eq.trans (mupJ (by omega)) (Eq.trans (mupJ (by omega)) mupE))
            · exact Eq.trans (mupJ (by omega)) (Eq.trans (mupJ (by omega)) (Eq.trans (mupJ (by omega)) (Eq.trans (mupJ (by omega)) mupE)))
          · rw [e]; intro j hj
            have hj : j < s ∨ s + 5 ≤ j := hj
            exact Eq.trans (mupJ (by omega)) (Eq.trans (mupJ (by omega)) (Eq.trans (mupJ (by omega)) (Eq.trans (mupJ (by omega)) (mupJ (by omega)))))
