/-! the reference, lines -/
theorem nI_eq0 {m : Nat} (h : m < 2147483648) : (nI m = 0) = (m = 0) := propext (nI_eq h (by omega : (0:Nat) < 2147483648))
theorem nI_div {a b : Nat} (ha : a < 2147483648) (hb : b < 2147483648) : nI a / nI b = nI (a / b) := by
  apply Int32.toInt_inj.mp
  have h : a / b < 2147483648 := Nat.lt_of_le_of_lt (Nat.div_le_self a b) ha
  rw [Int32.toInt_div, nI_toInt ha, nI_toInt hb, nI_toInt h, ← Int.ofNat_tdiv]
  revert h
  generalize a / b = q
  intro h
  apply Int.bmod_eq_of_le <;> omega
theorem nI_mod {a b : Nat} (ha : a < 2147483648) (hb : b < 2147483648) : nI a - nI a / nI b * nI b = nI (a % b) := by
  have h : a / b * b ≤ a := Nat.div_mul_le_self a b
  rw [nI_div ha hb, nI_mul, nI_sub h]
  congr 1
  have := Nat.div_add_mod a b
  rw [Nat.mul_comm] at this
  omega
/-- a line: its signs -/
def LSt (D : Mm) (ln : List Nat) : Prop := D 171 22 = nI ln.length ∧ ∀ i, i < ln.length → D 180 i = nI (ln.getD i 0)
def FrL (D D2 : Mm) : Prop := (∀ j, j ≠ 22 → D2 171 j = D 171 j) ∧ (∀ q, q ≠ 171 → q ≠ 180 → D2 q = D q)
theorem FrL.rf {D : Mm} : FrL D D := ⟨fun _ _ => rfl, fun _ _ _ => rfl⟩
theorem FrL.tr {D D2 D3 : Mm} (h : FrL D D2) (g : FrL D2 D3) : FrL D D3 := ⟨fun j a => (g.1 j a).trans (h.1 j a), fun q a b => (g.2 q a b).trans (h.2 q a b)⟩
theorem getD_app {ln : List Nat} {c i : Nat} : (ln ++ [c]).getD i 0 = if i = ln.length then c else ln.getD i 0 := by
  by_cases h : i = ln.length
  · subst h; rw [if_pos rfl]; simp
  · rw [if_neg h]
    by_cases g : i < ln.length
    · simp [List.getD, List.getElem?_append_left g]
    · have : ln.length < i := by omega
      show (ln ++ [c])[i]?.getD 0 = ln[i]?.getD 0
      rw [List.getElem?_eq_none (by rw [List.length_append]; show ln.length + 1 ≤ i; omega), List.getElem?_eq_none (by omega)]
def dgl (n : Nat) : List Nat := if n < 10 then [48 + n] else if n < 100 then [48 + n / 10, 48 + n % 10] else if n < 1000 then [48 + n / 100, 48 + n / 10 % 10, 48 + n % 10] else if n < 10000 then [48 + n / 1000, 48 + n / 100 % 10, 48 + n / 10 % 10, 48 + n % 10] else [48 + n / 10000, 48 + n / 1000 % 10, 48 + n / 100 % 10, 48 + n / 10 % 10, 48 + n % 10]
theorem dgl_len {n : Nat} : (dgl n).length ≤ 5 := by
  unfold dgl
  split; exact (by decide : 1 ≤ 5)
  split; exact (by decide : 2 ≤ 5)
  split; exact (by decide : 3 ≤ 5)
  split; exact (by decide : 4 ≤ 5)
  exact (by decide : 5 ≤ 5)
def wdl (n : Nat) : Nat → List Nat
  | 0 => []
  | i + 1 => (48 + n / 10 ^ i % 10) :: wdl n i
theorem wdl_1 {n : Nat} (h : n < 10) : wdl n 1 = dgl n := by
  unfold dgl; rw [if_pos h]
  show [48 + n / 1 % 10] = _
  rw [Nat.div_one, Nat.mod_eq_of_lt h]
theorem wdl_2 {n : Nat} (h0 : ¬ n < 10) (h : n < 100) : wdl n 2 = dgl n := by
  unfold dgl; rw [if_neg h0, if_pos h]
  show [48 + n / 10 % 10, 48 + n / 1 % 10] = _
  rw [Nat.div_one, Nat.mod_eq_of_lt (show n / 10 < 10 by omega)]
theorem wdl_3 {n : Nat} (h0 : ¬ n < 100) (h : n < 1000) : wdl n 3 = dgl n := by
  unfold dgl; rw [if_neg (by omega), if_neg h0, if_pos h]
  show [48 + n / 100 % 10, 48 + n / 10 % 10, 48 + n / 1 % 10] = _
  rw [Nat.div_one, Nat.mod_eq_of_lt (show n / 100 < 10 by omega)]
theorem wdl_4 {n : Nat} (h0 : ¬ n < 1000) (h : n < 10000) : wdl n 4 = dgl n := by
  unfold dgl; rw [if_neg (by omega), if_neg (by omega), if_neg h0, if_pos h]
  show [48 + n / 1000 % 10, 48 + n / 100 % 10, 48 + n / 10 % 10, 48 + n / 1 % 10] = _
  rw [Nat.div_one, Nat.mod_eq_of_lt (show n / 1000 < 10 by omega)]
theorem wdl_5 {n : Nat} (h0 : ¬ n < 10000) (h : n < 100000) : wdl n 5 = dgl n := by
  unfold dgl; rw [if_neg (by omega), if_neg (by omega), if_neg (by omega), if_neg h0]
  show [48 + n / 10000 % 10, 48 + n / 1000 % 10, 48 + n / 100 % 10, 48 + n / 10 % 10, 48 + n / 1 % 10] = _
  rw [Nat.div_one, Nat.mod_eq_of_lt (show n / 10000 < 10 by omega)]
set_option maxHeartbeats 100000 in
theorem P_append_bad {d : Nat} {D : Mm} {a : Int32} (hb : badR a (nI 32) (nI 126)) : Ct (d + 6) 167 [.ref 171, .int a] D (Ex (some (.int (-1012))) D) := by
  refine ent m167 rfl rfl (ls := [.ref 171, .int a]) rfl ?_
  refine w_ild1 i167_0 ?_
  refine w_bip i167_1 kb_32 ?_
  refine w_bip i167_3 kb_126 ?_
  refine w_sI3 i167_5 c110 rfl  rfl ⟨rfl, Nat.le_of_ble_eq_true rfl⟩ (T_isIn_f hb) ?_
  refine w_ineNF i167_8 (by omega) (by omega) ?_
  refine w_sip i167_11 ks_m1012 ?_
  refine w_ri i167_14 r167 ?_
  exact ⟨rfl, rfl⟩
set_option maxHeartbeats 100000 in
theorem P_append_full {d : Nat} {D : Mm} {u : Nat} (h1 : 32 ≤ u) (h2 : u ≤ 126) (ht : D 171 19 = nI 60) : Ct (d + 6) 167 [.ref 171, .int (nI u)] D (Ex (some (.int (-1013))) D) := by
  refine ent m167 rfl rfl (ls := [.ref 171, .int (nI u)]) rfl ?_
  refine w_ild1 i167_0 ?_
  refine w_bip i167_1 kb_32 ?_
  refine w_bip i167_3 kb_126 ?_
  refine w_sI3 i167_5 c110 rfl  rfl ⟨rfl, Nat.le_of_ble_eq_true rfl⟩ (T_isIn_t (nI_inR h1 h2 (by omega))) ?_
  refine w_ineNT i167_8 g167_8 (by omega) (by omega) ?_
  refine w_ald0 i167_15 ?_
  refine w_gfI i167_16 (by decide) s_171 rfl ht ?_
  refine w_bip i167_19 kb_60 ?_
  refine w_cneNF i167_21 (by omega) (by omega) (by omega) ?_
  refine w_sip i167_24 ks_m1013 ?_
  refine w_ri i167_27 r167 ?_
  exact ⟨rfl, rfl⟩
set_option maxHeartbeats 100000 in
theorem P_append {d : Nat} {D : Mm} {Q : Option Value → Mm → Prop} {t : Nat} {u : Nat} (h1 : 32 ≤ u) (h2 : u ≤ 126) (ht : D 171 19 = nI t) (h60 : t < 60) (hq : Q (some (.int (nI (t + 1)))) (mup (mup D 179 t (nI u)) 171 19 (nI (t + 1)))) : Ct (d + 6) 167 [.ref 171, .int (nI u)] D Q := by
  refine ent m167 rfl rfl (ls := [.ref 171, .int (nI u)]) rfl ?_
  refine w_ild1 i167_0 ?_
  refine w_bip i167_1 kb_32 ?_
  refine w_bip i167_3 kb_126 ?_
  refine w_sI3 i167_5 c110 rfl  rfl ⟨rfl, Nat.le_of_ble_eq_true rfl⟩ (T_isIn_t (nI_inR h1 h2 (by omega))) ?_
  refine w_ineNT i167_8 g167_8 (by omega) (by omega) ?_
  refine w_ald0 i167_15 ?_
  refine w_gfI i167_16 (by decide) s_171 rfl ht ?_
  refine w_bip i167_19 kb_60 ?_
  refine w_cneNT i167_21 g167_21 (by omega) (by omega) (by omega) ?_
  refine w_ald0 i167_28 ?_
  refine w_gfR i167_29 (by decide) s_171 rfl ?_
  refine w_ald0 i167_32 ?_
  refine w_gfI i167_33 (by decide) s_171 rfl ht ?_
  refine w_ild1 i167_36 ?_
  refine w_ias i167_37 s_179 (by decide) (by omega) ?_
  refine w_ald0 i167_38 ?_
  refine w_dup i167_39 rfl ?_
  refine w_gfI i167_40 (by decide) s_171 rfl ((mupC (show 171 ≠ 179 by decide)).trans ht) ?_
  refine w_const i167_43 kc_1 ?_
  refine w_iadd i167_44 (nI_add _ _) ?_
  refine w_pf0 i167_45 (by decide) s_171 rfl ?_
  refine w_ald0 i167_48 ?_
  refine w_gfI i167_49 (by decide) s_171 rfl mupE ?_
  refine w_ri i167_52 r167 ?_
  exact hq
set_option maxHeartbeats 100000 in
theorem T_writes {d : Nat} {D : Mm} {Q : Option Value → Mm → Prop} {ln : List Nat} {c : Nat} (h : LSt D ln) (hl : ln.length < 140) (hq : ∀ D2, LSt D2 (ln ++ [c]) → FrL D D2 → Q none D2) : Ct (d + 1) 165 [.ref 171, .int (nI c)] D Q := by
  refine ent m165 rfl rfl (ls := [.ref 171, .int (nI c)]) rfl ?_
  refine w_ald0 i165_0 ?_
  refine w_gfR i165_1 (by decide) s_171 rfl ?_
  refine w_ald0 i165_4 ?_
  refine w_gfI i165_5 (by decide) s_171 rfl h.1 ?_
  refine w_ild1 i165_8 ?_
  refine w_ias i165_9 s_180 (by decide) (by omega) ?_
  refine w_ald0 i165_10 ?_
  refine w_dup i165_11 rfl ?_
  refine w_gfI i165_12 (by decide) s_171 rfl ((mupC (show 171 ≠ 180 by decide)).trans h.1) ?_
  refine w_const i165_15 kc_1 ?_
  refine w_iadd i165_16 (nI_add _ _) ?_
  refine w_pf0 i165_17 (by decide) s_171 rfl ?_
  refine w_rv i165_20 r165 ?_
  refine hq _ ⟨?_, fun i hi => ?_⟩ ⟨fun j hj => ?_, fun q a b => ?_⟩
  · rw [mupE, List.length_append]; rfl
  · rw [List.length_append] at hi
    have hi2 : i < ln.length + 1 := hi
    rw [mupC (by decide), getD_app]
    by_cases e : i = ln.length
    · rw [if_pos e, e, mupE]
    · rw [if_neg e, mupJ e]; exact h.2 i (by omega)
  · rw [mupJ hj, mupC (by decide)]
  · rw [mupF a, mupF b]
theorem p10 {i : Nat} (h : i < 5) : 10 ^ i < 100000 ∧ 1 ≤ 10 ^ i := by
  rcases (by omega : i = 0 ∨ i = 1 ∨ i = 2 ∨ i = 3 ∨ i = 4) with e | e | e | e | e <;> subst e <;> decide
theorem wn_loop2 {d : Nat} {D : Mm} {Q : Option Value → Mm → Prop} {fin : List Nat} {n : Nat} (hn : n < 100000) (hq : ∀ D2, LSt D2 fin → FrL D D2 → Q none D2) : ∀ i (ln2 : List Nat) (D2 : Mm), i < 6 → LSt D2 ln2 → FrL D D2 → ln2.length + i ≤ 140 → ln2 ++ wdl n i = fin → Wp (d + 1) 166 Q 18 [.ref 171, .int (nI n), .int (nI (if i = 0 then 0 else 10 ^ (i - 1)))] [] D2 := by
  intro i
  induction i with
  | zero =>
    intro ln2 D2 h6 h hf hl he
    refine w_ild2 i166_18 ?_
    refine w_ileNT i166_19 g166_19 (by decide) (by decide) ?_
    refine w_rv i166_43 r166 ?_
    refine hq _ ?_ hf
    rw [← he]
    show LSt D2 (ln2 ++ [])
    rw [List.append_nil]; exact h
  | succ i ih =>
    intro ln2 D2 h6 h hf hl he
    rw [if_neg (Nat.succ_ne_zero i), Nat.add_sub_cancel]
    have hp := p10 (i := i) (by omega)
    have hd : n / 10 ^ i ≤ n := Nat.div_le_self _ _
    refine w_ild2 i166_18 ?_
    refine w_ileNF i166_19 (by omega) (by omega) ?_
    refine w_ald0 i166_22 ?_
    refine w_bip i166_23 kb_48 ?_
    refine w_ild1 i166_25 ?_
    refine w_ild2 i166_26 ?_
    refine w_idiv i166_27 (by rw [nI_eq0 (by omega)]; omega) (nI_div (by omega) (by omega)) ?_
    refine w_bip i166_28 kb_10 ?_
    refine w_irem i166_30 (by decide) (nI_mod (by omega) (by omega)) ?_
    refine w_iadd i166_31 (nI_add _ _) ?_
    refine w_vG2 i166_32 c165 (Or.inl rfl) ⟨by decide +kernel, by decide⟩ rfl ⟨rfl, Nat.le_of_ble_eq_true rfl⟩ ?_
    refine T_writes h (by omega) (fun D3 h3 f3 => ?_)
    refine w_ild2 i166_35 ?_
    refine w_bip i166_36 kb_10 ?_
    refine w_idiv i166_38 (by decide) (nI_div (by omega) (by omega)) ?_
    refine w_ist2 i166_39 ?_
    refine w_goto i166_40 g166_40 ?_
    have e10 : 10 ^ i / 10 = if i = 0 then 0 else 10 ^ (i - 1) := by
      rcases (by omega : i = 0 ∨ i = 1 ∨ i = 2 ∨ i = 3 ∨ i = 4) with e | e | e | e | e <;> subst e <;> decide
    rw [e10]
    refine ih _ _ (by omega) h3 (hf.tr f3) (by rw [List.length_append]; show ln2.length + 1 + i ≤ 140; omega) ?_
    rw [← he, List.append_assoc]; rfl
theorem wn_loop1 {d : Nat} {D : Mm} {Q : Option Value → Mm → Prop} {ln : List Nat} {n : Nat} (h : LSt D ln) (hn : n < 100000) (hl : ln.length + 5 ≤ 140) (hq : ∀ D2, LSt D2 (ln ++ dgl n) → FrL D D2 → Q none D2) : ∀ k i, i + k = 5 → (i = 0 ∨ 10 ^ i ≤ n) → Wp (d + 1) 166 Q 2 [.ref 171, .int (nI n), .int (nI (10 ^ i))] [] D := by
  intro k
  induction k with
  | zero =>
    intro i hi h0
    exfalso
    have e5 : i = 5 := by omega
    subst e5
    rcases h0 with h0 | h0
    · omega
    · have : (100000:Nat) ≤ n := h0
      omega
  | succ k ih =>
    intro i hi h0
    have hp := p10 (i := i) (by omega)
    have hd : n / 10 ^ i ≤ n := Nat.div_le_self _ _
    refine w_ild1 i166_2 ?_
    refine w_ild2 i166_3 ?_
    refine w_idiv i166_4 (by rw [nI_eq0 (by omega)]; omega) (nI_div (by omega) (by omega)) ?_
    refine w_bip i166_5 kb_10 ?_
    refine w_cltN i166_7 g166_7 (by omega) (by omega) (fun h7 => ?_) (fun h7 => ?_)
    · have e18 : 10 ^ i = (if i + 1 = 0 then 0 else 10 ^ (i + 1 - 1)) := by rw [if_neg (by omega), Nat.add_sub_cancel]
      have h7b := (Nat.div_lt_iff_lt_mul hp.2).mp h7
      rw [e18]
      refine wn_loop2 hn hq (i + 1) ln D (by omega) h FrL.rf (by omega) ?_
      congr 1
      rcases (by omega : i = 0 ∨ i = 1 ∨ i = 2 ∨ i = 3 ∨ i = 4) with e | e | e | e | e <;> subst e
      · exact wdl_1 (by omega)
      · exact wdl_2 (by omega) (by omega)
      · exact wdl_3 (by omega) (by omega)
      · exact wdl_4 (by omega) (by omega)
      · exact wdl_5 (by omega) (by omega)
    · have h7b := (Nat.le_div_iff_mul_le hp.2).mp h7
      refine w_ild2 i166_10 ?_
      refine w_bip i166_11 kb_10 ?_
      refine w_imul i166_13 (nI_mul _ _) ?_
      refine w_ist2 i166_14 ?_
      refine w_goto i166_15 g166_15 ?_
      exact ih (i + 1) (by omega) (Or.inr (by rw [Nat.pow_succ, Nat.mul_comm]; exact h7b))
set_option maxHeartbeats 100000 in
theorem T_wn {d : Nat} {D : Mm} {Q : Option Value → Mm → Prop} {ln : List Nat} {n : Nat} (h : LSt D ln) (hn : n < 100000) (hl : ln.length + 5 ≤ 140) (hq : ∀ D2, LSt D2 (ln ++ dgl n) → FrL D D2 → Q none D2) : Ct (d + 2) 166 [.ref 171, .int (nI n)] D Q := by
  refine ent m166 rfl rfl (ls := [.ref 171, .int (nI n), .retAddr 0]) rfl ?_
  refine w_const i166_0 kc_1 ?_
  refine w_ist2 i166_1 ?_
  exact wn_loop1 h hn hl hq 5 0 rfl (Or.inl rfl)
