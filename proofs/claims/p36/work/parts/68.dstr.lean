/-! text builders made on the way -/
theorem Ex_go {d k : Nat} {args : List Value} {D D1 : Mm} {r : Option Value} {Q : Option Value → Mm → Prop} (h : Ct d k args D (Ex r D1)) (g : Q r D1) : Ct d k args D Q := Ct_mono _ _ _ _ _ _ (fun r2 D2 e => by obtain ⟨rfl, rfl⟩ := e; exact g) h
theorem dvl_i {D : Mm} {o c : Nat} {x : Int32} (hc : c ≠ 0) (h : D o c = x) : dvl D o 0 c = .int x := by
  unfold dvl
  have e : rfB 0 c = false := by
    cases c with
    | zero => exact absurd rfl hc
    | succ c => rfl
  rw [if_neg (by rw [e]; decide), h]
theorem nI_max {a b : Nat} (ha : a < 2147483648) (hb : b < 2147483648) : (if nI a < nI b then nI b else nI a) = nI (max a b) := by
  by_cases h : a < b
  · rw [if_pos (nI_lt h hb), Nat.max_eq_right (Nat.le_of_lt h)]
  · rw [if_neg (fun q => h ((nI_ltI ha hb).mp q)), Nat.max_eq_left (by omega)]
set_option maxHeartbeats 100000 in
theorem K_maxN {d : Nat} {D : Mm} {a b : Nat} (ha : a < 2147483648) (hb : b < 2147483648) : Ct (d + 1) 203 [.int (nI a), .int (nI b)] D (Ex (some (.int (nI (max a b)))) D) := by
  refine ent m203 rfl rfl (ls := [.int (nI a), .int (nI b)]) rfl ?_
  refine w_ild0 i203_0 ?_
  refine w_ild1 i203_1 ?_
  refine w_cltN i203_2 g203_2 (by omega) (by omega) (fun h2 => ?_) (fun h2 => ?_)
  · skip
    rw [Nat.max_eq_right (Nat.le_of_lt h2)]
    refine w_ild1 i203_9 ?_
    refine w_ri i203_10 r203 ?_
    exact ⟨rfl, rfl⟩
  · skip
    rw [Nat.max_eq_left h2]
    refine w_ild0 i203_5 ?_
    refine w_goto i203_6 g203_6 ?_
    refine w_ri i203_10 r203 ?_
    exact ⟨rfl, rfl⟩
set_option maxHeartbeats 100000 in
theorem K_latD {d : Nat} {D : Mm} {lo T u o b : Nat} {t : List Nat} (h : SbX D lo T u o b t) : Ct (d + 1) 199 [.ref o] D (Ex (some (.int (nI 1))) D) := by
  refine ent m199 rfl rfl (ls := [.ref o]) rfl ?_
  refine w_gst (w := .int (nI 1)) i199_0 rfl ?_
  refine w_ieqNF i199_3 (by omega) (by omega) ?_
  refine w_ald0 i199_6 ?_
  refine w_gfD i199_7 (Or.inl rfl) h.ob (by decide) (dvl_i (by decide) h.cod) ?_
  refine w_ineNF i199_10 (by omega) (by omega) ?_
  refine w_const i199_13 kc_1 ?_
  refine w_goto i199_14 g199_14 ?_
  refine w_rz i199_18 r199 nar_z1 ?_
  exact ⟨rfl, rfl⟩
set_option maxHeartbeats 100000 in
theorem K_len0D {d : Nat} {D : Mm} {lo T u o b : Nat} {t : List Nat} (h : SbX D lo T u o b t) : Ct (d + 1) 194 [.ref o] D (Ex (some (.int (nI t.length))) D) := by
  refine ent m194 rfl rfl (ls := [.ref o]) rfl ?_
  refine w_ald0 i194_0 ?_
  refine w_gfD i194_1 (Or.inl rfl) h.ob (by decide) (dvl_i (by decide) h.len) ?_
  refine w_ri i194_4 r194 ?_
  exact ⟨rfl, rfl⟩
set_option maxHeartbeats 100000 in
theorem K_lenD {d : Nat} {D : Mm} {lo T u o b : Nat} {t : List Nat} (h : SbX D lo T u o b t) : Ct (d + 2) 193 [.ref o] D (Ex (some (.int (nI t.length))) D) := by
  have hdo := h.ob.1
  refine ent m193 rfl rfl (ls := [.ref o]) rfl ?_
  refine w_ald0 i193_0 ?_
  refine w_PD1 i193_1 c194 (Or.inl rfl) (h.rec (by decide +kernel)) (by repeat (first | exact nvL_nil | refine nvL_cons (by first | trivial | exact nvSt (by decide) | exact nvD (by assumption) | exact nvK (by omega) (by omega)) ?_)) ⟨(by repeat (first | exact nvL_nil | refine nvL_cons (by first | trivial | exact nvSt (by decide) | exact nvD (by assumption) | exact nvK (by omega) (by omega)) ?_)), rfl, Nat.le_of_ble_eq_true rfl⟩ (Ex_go (K_len0D h) ?_)
  refine w_ri i193_4 r193 ?_
  exact ⟨rfl, rfl⟩
set_option maxHeartbeats 100000 in
theorem K_nL {d : Nat} {D : Mm} {a g p : Nat} (hg : g < 20000) (hp : p < 20000) (ha : a < 20000) (h0 : 0 < a + max g p) : Ct (d + 2) 132 [.int (nI a), .int (nI g), .int (nI p)] D (Ex (some (.int (nI (a + max g p)))) D) := by
  refine ent m132 rfl rfl (ls := [.int (nI a), .int (nI g), .int (nI p), .retAddr 0]) rfl ?_
  refine w_ild0 i132_0 ?_
  refine w_ild1 i132_1 ?_
  refine w_ild2 i132_2 ?_
  refine w_SD2 i132_3 c203 rfl (by repeat (first | exact nvL_nil | refine nvL_cons (by first | trivial | exact nvSt (by decide) | exact nvD (by assumption) | exact nvK (by omega) (by omega)) ?_)) ⟨(by repeat (first | exact nvL_nil | refine nvL_cons (by first | trivial | exact nvSt (by decide) | exact nvD (by assumption) | exact nvK (by omega) (by omega)) ?_)), rfl, Nat.le_of_ble_eq_true rfl⟩ (Ex_go (K_maxN (by omega) (by omega)) ?_)
  refine w_iadd i132_6 (nI_add _ _) ?_
  refine w_ist3 i132_7 ?_
  refine w_const i132_8 kc_0 ?_
  refine w_ild3 i132_9 ?_
  refine w_cgeNF i132_10 (by omega) (by omega) (by omega) ?_
  refine w_ild3 i132_13 ?_
  refine w_ldcI i132_14 (c := 3) rfl rfl ?_
  refine w_cgtF i132_16  (by exact Int32.le_iff_toInt_le.mpr (by rw [nI_toInt (by omega)]; exact Int.le_trans (by omega : ((a + max g p : Nat) : Int) ≤ 40000) (by decide))) ?_
  refine w_ild3 i132_19 ?_
  refine w_ri i132_20 r132 ?_
  exact ⟨rfl, rfl⟩
theorem shl0 (x : Int32) : x <<< (nI 0 &&& 31) = x := by
  have e : nI 0 &&& 31 = (0 : Int32) := by decide
  rw [e]
  apply Int32.toBitVec_inj.mp
  rw [Int32.toBitVec_shiftLeft]
  have e2 : (Int32.toBitVec 0).smod 32 = 0#32 := by decide
  rw [e2]
  simp
theorem shrX (x : Int32) : x >>> (nI 0 &&& 31) = x := by
  have e : nI 0 &&& 31 = (0 : Int32) := by decide
  rw [e]
  apply Int32.toBitVec_inj.mp
  rw [Int32.toBitVec_shiftRight]
  have e2 : (Int32.toBitVec 0).smod 32 = 0#32 := by decide
  rw [e2]
  simp
set_option maxHeartbeats 100000 in
theorem K_nC {d : Nat} {D : Mm} {lo T u o b : Nat} {t : List Nat} (h : SbX D lo T u o b t) {n : Nat} (h1 : cap D b < n) (h2 : n ≤ T) : Ct (d + 3) 131 [.ref o, .int (nI n)] D (Ex (some (.int (nI (max n (2 * cap D b + 2))))) D) := by
  have hdo := h.ob.1
  have hcp := h.cpm
  have hT := h.tT
  have e : cap D b + max (n - cap D b) (cap D b + 2) = max n (2 * cap D b + 2) := by omega
  refine ent m131 rfl rfl (ls := [.ref o, .int (nI n), .retAddr 0, .retAddr 0, .retAddr 0, .retAddr 0]) rfl ?_
  refine w_ald0 i131_0 ?_
  refine w_gfD i131_1 (Or.inl rfl) h.ob (by decide) h.rvl ?_
  refine w_alnD i131_4 (Or.inl h.rb) rfl ?_
  refine w_ist2 i131_5 ?_
  refine w_ild1 i131_6 ?_
  refine w_ald0 i131_7 ?_
  refine w_gfD i131_8 (Or.inl rfl) h.ob (by decide) (dvl_i (by decide) h.cod) ?_
  refine w_ishl i131_11 (shl0 _) ?_
  refine w_ist3 i131_12 ?_
  refine w_ild3 i131_13 ?_
  refine w_ild2 i131_14 ?_
  refine w_isub i131_15 (nI_sub (by omega)) ?_
  refine w_ist4 i131_16 ?_
  refine w_ild2 i131_18 ?_
  refine w_ild4 i131_19 ?_
  refine w_ild2 i131_21 ?_
  refine w_const i131_22 kc_2 ?_
  refine w_ald0 i131_23 ?_
  refine w_gfD i131_24 (Or.inl rfl) h.ob (by decide) (dvl_i (by decide) h.cod) ?_
  refine w_ishl i131_27 (shl0 _) ?_
  refine w_iadd i131_28 (nI_add _ _) ?_
  refine w_SD3 i131_29 c132 rfl (by repeat (first | exact nvL_nil | refine nvL_cons (by first | trivial | exact nvSt (by decide) | exact nvD (by assumption) | exact nvK (by omega) (by omega)) ?_)) ⟨(by repeat (first | exact nvL_nil | refine nvL_cons (by first | trivial | exact nvSt (by decide) | exact nvD (by assumption) | exact nvK (by omega) (by omega)) ?_)), rfl, Nat.le_of_ble_eq_true rfl⟩ (Ex_go (K_nL (a := cap D b) (g := n - cap D b) (p := cap D b + 2) (by omega) (by omega) (by omega) (by omega)) ?_)
  rw [e]
  refine w_ist5 i131_32 ?_
  refine w_ild5 i131_34 ?_
  refine w_ldcI i131_36 (c := 2) rfl rfl ?_
  refine w_cneT i131_38 g131_38  (fun q => by have q2 := congrArg Int32.toInt q; rw [nI_toInt (by omega)] at q2; have q3 : ((max n (2 * cap D b + 2) : Nat) : Int) = 2147483647 := q2; omega) ?_
  refine w_ild5 i131_51 ?_
  refine w_ald0 i131_53 ?_
  refine w_gfD i131_54 (Or.inl rfl) h.ob (by decide) (dvl_i (by decide) h.cod) ?_
  refine w_ishr i131_57 (shrX _) ?_
  refine w_ri i131_58 r131 ?_
  exact ⟨rfl, rfl⟩
set_option maxHeartbeats 100000 in
theorem K_cO {d : Nat} {D : Mm} {Q : Option Value → Mm → Prop} {b c : Nat} (hb : dyn D b 22) (h1 : cap D b < c) (h2 : c ≤ 100000) (hf : fitU D c) (hby : ∀ j, j < cap D b → fits .byte (.int (D b j)) = true) (hq : Q (some (.ref (DB + nxt D))) (cpD (alD D (rwA 22 c) c) b (DB + nxt D) 0 0 (cap D b))) : Ct (d + 2) 133 [.ref b, .int (nI c)] D Q := by
  have hB := DBv
  have hL := LENv
  have gb := dyn_ge hb
  have hdb := hb.1
  have en := al_nxt (f := rwA 22 c) hf
  have hdb2 : dv (alD D (rwA 22 c) c) b := (dyn_al hb hf).1
  have hdn : dv (alD D (rwA 22 c) c) (DB + nxt D) := (dyn_new (k := 22) hf (by rw [rwA_k]; exact nI_clamp (by omega))).1
  have ec : cap (alD D (rwA 22 c) c) b = cap D b := cap_al (by omega) (by omega)
  refine ent m133 rfl rfl (ls := [.ref b, .int (nI c), .retAddr 0]) rfl ?_
  refine w_ild1 i133_0 ?_
  refine w_ald0 i133_1 ?_
  refine w_alnD i133_2 (Or.inl hb) rfl ?_
  refine w_cneNT i133_3 g133_3 (by omega) (by omega) (by omega) ?_
  refine w_ild1 i133_14 ?_
  refine w_nab i133_15 (by omega) (nvL_ok (by repeat (first | exact nvL_nil | refine nvL_cons (by first | trivial | exact nvSt (by decide) | exact nvD (by assumption) | exact nvK (by omega) (by omega)) ?_))) (nvL_ok nvL_nil) hf ?_
  refine w_ast2 i133_17 ?_
  refine w_ald0 i133_18 ?_
  refine w_const i133_19 kc_0 ?_
  refine w_ald2 i133_20 ?_
  refine w_const i133_21 kc_0 ?_
  refine w_ald0 i133_22 ?_
  refine w_alnD i133_23 (Or.inl (dyn_al hb hf)) ec ?_
  refine w_ild1 i133_24 ?_
  refine w_SD2 i133_25 c202 rfl (by repeat (first | exact nvL_nil | refine nvL_cons (by first | trivial | exact nvSt (by decide) | exact nvD (by assumption) | exact nvK (by omega) (by omega)) ?_)) ⟨(by repeat (first | exact nvL_nil | refine nvL_cons (by first | trivial | exact nvSt (by decide) | exact nvD (by assumption) | exact nvK (by omega) (by omega)) ?_)), rfl, Nat.le_of_ble_eq_true rfl⟩ (Ex_go K_min ?_)
  rw [ifp_t (nI_le (show cap D b ≤ c by omega) (by omega))]
  refine w_cpy i133_28 (Or.inl (dyn_al hb hf)) (dyn_new hf (by rw [rwA_k]; exact nI_clamp (by omega))) ⟨rfl, Nat.le_of_ble_eq_true rfl⟩ (by rw [csL_d (by omega), ec]; omega) (by rw [cap_new (by omega)]; omega) ⟨by rw [csL_d (by omega), ec]; omega, by rw [cap_new (by omega)]; omega⟩ (fun i hi => by rw [csD_d (by omega), al_old (by omega) (by omega), Nat.zero_add]; exact hby i hi) ?_
  refine w_ald2 i133_31 ?_
  refine w_raA i133_32 r133 (nvD (dyn_cp (k := 22) (dyn_new hf (by rw [rwA_k]; exact nI_clamp (by omega))) (by omega) (by omega)).1) ?_
  exact hq
