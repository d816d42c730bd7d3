/-! the law's small methods -/
theorem nI_rem {i L : Nat} (hi : i < 2147483648) (hL : L < 2147483648) : nI i - nI i / nI L * nI L = nI (i % L) := nI_mod hi hL
set_option maxHeartbeats 200000 in
set_option maxHeartbeats 100000 in
theorem K_cell0 {d : Nat} {D : Mm} {Q : Option Value → Mm → Prop} {i L : Nat} (hL : cap D 4000 = L) (hi : i ≤ 1000) (hq : ∀ x, Q (some (.int x)) D) (h0 : L = 0) : Ct (d + 1) 74 [.ref 4000, .int (nI i)] D Q := by
  refine ent m74 rfl rfl (ls := [.ref 4000, .int (nI i)]) rfl ?_
  refine w_ald0 i74_0 ?_
  refine w_alnD i74_1 (Or.inr (Or.inr rfl)) hL ?_
  refine w_ineNF i74_2 (by omega) (by omega) ?_
  refine w_bip i74_5 kb_71 ?_
  refine w_ild1 i74_7 ?_
  refine w_imul i74_8 rfl ?_
  refine w_bip i74_9 kb_13 ?_
  refine w_iadd i74_11 rfl ?_
  refine w_goto i74_12 g74_12 ?_
  refine w_ri i74_31 r74 ?_
  exact hq _
set_option maxHeartbeats 100000 in
theorem K_cell1 {d : Nat} {D : Mm} {Q : Option Value → Mm → Prop} {i L : Nat} (hL : cap D 4000 = L) (hi : i ≤ 1000) (hq : ∀ x, Q (some (.int x)) D) (h0 : 0 < L) (h1 : L ≤ 1000) : Ct (d + 1) 74 [.ref 4000, .int (nI i)] D Q := by
  have hm := Nat.mod_lt i h0
  have hn0 : ¬ nI L = 0 := fun e => by have := (nI_eq0 (by omega)).mp e; omega
  refine ent m74 rfl rfl (ls := [.ref 4000, .int (nI i)]) rfl ?_
  refine w_ald0 i74_0 ?_
  refine w_alnD i74_1 (Or.inr (Or.inr rfl)) hL ?_
  refine w_ineNT i74_2 g74_2 (by omega) (by omega) ?_
  refine w_ald0 i74_15 ?_
  refine w_ild1 i74_16 ?_
  refine w_ald0 i74_17 ?_
  refine w_alnD i74_18 (Or.inr (Or.inr rfl)) hL ?_
  refine w_irem i74_19 hn0 (nI_rem (by omega) (by omega)) ?_
  refine w_ialS i74_20 (vp_in_nI (by omega) (by omega)) rfl ?_
  refine w_const i74_21 kc_5 ?_
  refine w_ild1 i74_22 ?_
  refine w_ald0 i74_23 ?_
  refine w_alnD i74_24 (Or.inr (Or.inr rfl)) hL ?_
  refine w_idiv i74_25 hn0 rfl ?_
  refine w_imul i74_26 rfl ?_
  refine w_bip i74_27 kb_17 ?_
  refine w_irem i74_29 (by decide) rfl ?_
  refine w_iushr i74_30 rfl ?_
  refine w_ri i74_31 r74 ?_
  exact hq _
theorem K_cell {d : Nat} {D : Mm} {Q : Option Value → Mm → Prop} {i L : Nat} (hL : cap D 4000 = L) (hi : i ≤ 1000) (hq : ∀ x, Q (some (.int x)) D) (h1 : L ≤ 1000) : Ct (d + 1) 74 [.ref 4000, .int (nI i)] D Q := by
  rcases Nat.eq_zero_or_pos L with e | e
  · exact K_cell0 hL hi hq e
  · exact K_cell1 hL hi hq e h1
/-- the law's own bits went on -/
def BtX (D D2 : Mm) (ob : Nat) : Prop := (∀ q, q ≠ ob → D2 q = D q) ∧ dyn D2 ob 8
theorem BtX.tr {D D2 D3 : Mm} {ob : Nat} (h : BtX D D2 ob) (g : BtX D2 D3 ob) : BtX D D3 ob := ⟨fun q a => (g.1 q a).trans (h.1 q a), g.2⟩
theorem ush16 (x : Int32) : ∃ m, m < 65536 ∧ (x.toUInt32 >>> ((nI 16).toUInt32 &&& Int32.toUInt32 31)).toInt32 = nI m := by
  refine ⟨x.toUInt32.toNat / 65536, ?_, ?_⟩
  · have := x.toUInt32.toNat_lt; omega
  · have e : (nI 16).toUInt32 &&& Int32.toUInt32 31 = 16 := by decide
    rw [e]
    apply Int32.toBitVec_inj.mp
    apply BitVec.eq_of_toNat_eq
    show (x.toUInt32 >>> 16).toNat = (BitVec.ofNat 32 (x.toUInt32.toNat / 65536)).toNat
    rw [UInt32.toNat_shiftRight, BitVec.toNat_ofNat, Nat.shiftRight_eq_div_pow]
    have h1 : UInt32.toNat 16 % 32 = 16 := by decide
    rw [h1]
    have := x.toUInt32.toNat_lt
    show x.toUInt32.toNat / 65536 = _
    omega
set_option maxHeartbeats 100000 in
theorem K_binit {d : Nat} {D : Mm} {o : Nat} {x : Int32} (h : dyn D o 8) : Ct (d + 1) 118 [.ref o, .int x] D (Ex none (mup D o 0 x)) := by
  refine ent m118 rfl rfl (ls := [.ref o, .int x]) rfl ?_
  refine w_ald0 i118_0 ?_
  refine w_oin i118_1 ⟨rfl, Nat.le_of_ble_eq_true rfl⟩ ?_
  refine w_ald0 i118_4 ?_
  refine w_ild1 i118_5 ?_
  refine w_pfDI i118_6 (Or.inr rfl) h (by decide) rfl ?_
  refine w_rv i118_9 r118 ?_
  exact ⟨rfl, rfl⟩
theorem bt_fin {D : Mm} {o m : Nat} {Q : Option Value → Mm → Prop} {P : Mm → Prop} (h : dyn D o 8) (h0 : 0 < m) (hm : m < 2147483648) (hq : ∀ D2 r, r < m → BtX D D2 o → Q (some (.int (nI r))) D2) (x : Int32) (k : ∀ D2, dyn D2 o 8 → (∀ r, r < m → Q (some (.int (nI r))) D2) → P D2) : P (mup D o 0 x) := by
  have go := dyn_ge h
  have hd : dyn (mup D o 0 x) o 8 := dyn_mup h (by omega) (Or.inr (by decide))
  exact k _ hd (fun r hr => hq _ r hr ⟨fun q a => mupF a, hd⟩)
set_option maxHeartbeats 100000 in
theorem K_next {d : Nat} {D : Mm} {Q : Option Value → Mm → Prop} {o m : Nat} (h : dyn D o 8) (h0 : 0 < m) (hm : m < 2147483648) (hq : ∀ D2 r, r < m → BtX D D2 o → Q (some (.int (nI r))) D2) : Ct (d + 1) 119 [.ref o, .int (nI m)] D Q := by
  have go := dyn_ge h
  have hKE := KNDv
  have hn0 : ¬ nI m = 0 := fun e => by have := (nI_eq0 hm).mp e; omega
  refine ent m119 rfl rfl (ls := [.ref o, .int (nI m)]) rfl ?_
  refine w_ald0 i119_0 ?_
  refine w_ald0 i119_1 ?_
  refine w_gfD i119_2 (Or.inr rfl) h (by decide) (w := .int (D o 0)) rfl ?_
  refine w_ldcI i119_5 (c := 0) rfl rfl ?_
  refine w_imul i119_7 rfl ?_
  refine w_sip i119_8 ks_12345 ?_
  refine w_iadd i119_11 rfl ?_
  refine w_pfDI i119_12 (Or.inr rfl) h (by decide) rfl ?_
  refine bt_fin h h0 hm hq _ (fun D2 hd v => ?_)
  refine w_ald0 i119_15 ?_
  refine w_gfD i119_16 (Or.inr rfl) hd (by decide) (w := .int (D2 o 0)) rfl ?_
  obtain ⟨q, hq1, hq2⟩ := ush16 (D2 o 0)
  refine w_bip i119_19 kb_16 ?_
  refine w_iushr i119_21 hq2 ?_
  refine w_ild1 i119_22 ?_
  refine w_irem i119_23 hn0 (nI_rem (by omega) hm) ?_
  refine w_ri i119_24 r119 ?_
  exact v _ (Nat.mod_lt _ h0)

set_option maxHeartbeats 100000 in
theorem K_some {d : Nat} {D : Mm} {Q : Option Value → Mm → Prop} {o m : Nat} (h : dyn D o 8) (hm : m < 10000) (hq : ∀ D2 r, r ≤ m → BtX D D2 o → Q (some (.int (nI r))) D2) : Ct (d + 2) 108 [.ref o, .int (nI m)] D Q := by
  have hdo := h.1
  refine ent m108 rfl rfl (ls := [.ref o, .int (nI m)]) rfl ?_
  refine w_ald0 i108_0 ?_
  refine w_bip i108_1 kb_25 ?_
  refine w_VD2 i108_3 c119 (Or.inl rfl) (Or.inr ⟨h.1, by rw [h.2]; decide +kernel, by rw [h.2]; decide⟩) (by repeat (first | exact nvL_nil | refine nvL_cons (by first | assumption | trivial | exact nvSt (by decide) | exact nvD (by assumption) | exact nvK (by omega) (by omega)) ?_)) ⟨(by repeat (first | exact nvL_nil | refine nvL_cons (by first | assumption | trivial | exact nvSt (by decide) | exact nvD (by assumption) | exact nvK (by omega) (by omega)) ?_)), rfl, Nat.le_of_ble_eq_true rfl⟩ ?_
  refine K_next h (by decide) (by decide) (fun D2 r hr g => ?_)
  have hd2 := g.2
  have hdo2 := hd2.1
  refine w_ineN i108_6 g108_6 (by omega) (fun h6 => ?_) (fun h6 => ?_)
  · skip
    refine w_ald0 i108_13 ?_
    refine w_const i108_14 kc_1 ?_
    refine w_ild1 i108_15 ?_
    refine w_SD2 i108_16 c203 rfl (by repeat (first | exact nvL_nil | refine nvL_cons (by first | assumption | trivial | exact nvSt (by decide) | exact nvD (by assumption) | exact nvK (by omega) (by omega)) ?_)) ⟨(by repeat (first | exact nvL_nil | refine nvL_cons (by first | assumption | trivial | exact nvSt (by decide) | exact nvD (by assumption) | exact nvK (by omega) (by omega)) ?_)), rfl, Nat.le_of_ble_eq_true rfl⟩ (Ex_go (K_maxN (by omega) (by omega)) ?_)
    refine w_VD2 i108_19 c119 (Or.inl rfl) (Or.inr ⟨hd2.1, by rw [hd2.2]; decide +kernel, by rw [hd2.2]; decide⟩) (by repeat (first | exact nvL_nil | refine nvL_cons (by first | assumption | trivial | exact nvSt (by decide) | exact nvD (by assumption) | exact nvK (by omega) (by omega)) ?_)) ⟨(by repeat (first | exact nvL_nil | refine nvL_cons (by first | assumption | trivial | exact nvSt (by decide) | exact nvD (by assumption) | exact nvK (by omega) (by omega)) ?_)), rfl, Nat.le_of_ble_eq_true rfl⟩ ?_
    refine K_next hd2 (by omega) (by omega) (fun D3 r2 hr2 g2 => ?_)
    refine w_ri i108_22 r108 ?_
    first | exact hq _ _ (Nat.le_refl _) g | exact hq _ _ (by omega) (g.tr g2)
  · skip
    refine w_ild1 i108_9 ?_
    refine w_goto i108_10 g108_10 ?_
    refine w_ri i108_22 r108 ?_
    first | exact hq _ _ (Nat.le_refl _) g | exact hq _ _ (by omega) (g.tr g2)
