/-! the class, its questions -/
/-- small claims, stores, lights -/
def clN (n : Nat) (V : Nat → Int32) : Prop := ∀ h, h < 6 → ∃ c, c < 1073741824 ∧ mClaim n V h = nI c
def stN (V : Nat → Int32) : Prop := ∀ h, h < 6 → ∃ c, c < 1073741824 ∧ V (6 + 4 * h + 2) = nI c
def ltN (n : Nat) (V : Nat → Int32) : Prop := ∀ s, s < n → (∃ c, c < 1073741824 ∧ V (30 + 8 * s + 1) * V (30 + 8 * s + 2) = nI c) ∧ ∃ c, c < 1073741824 ∧ V (30 + 8 * s + 4) = nI c
theorem sub_zero {x y : Int32} : x - y = 0 ↔ x = y := by
  constructor
  · intro h
    have := congrArg (· + y) h
    simpa only [Int32.sub_add_cancel, Int32.zero_add] using this
  · intro h; rw [h, Int32.sub_self]
theorem sub_pos {x y : Int32} {a b : Nat} (ex : x = nI a) (ey : y = nI b) (ha : a < 1073741824) (hb : b < 1073741824) : 0 < x - y ↔ y < x := by
  rw [Int32.lt_iff_toInt_lt, Int32.lt_iff_toInt_lt, Int32.toInt_sub, ex, ey, nI_toInt (by omega), nI_toInt (by omega), show (0 : Int32).toInt = 0 from rfl]
  rw [Int.bmod_eq_of_le (by omega) (by omega)]
  omega
noncomputable def rkG (x y u v : Int32) (o h : Nat) : Int32 := ifp (o = h) (nI 0) (ifp (0 < ifp (x - y = 0) (u - v) (x - y)) (nI 1) (ifp (ifp (x - y = 0) (u - v) (x - y) = 0) (ifp (o < h) (nI 1) (nI 0)) (nI 0)))
def smN (x : Int32) : Prop := ∃ c, c < 1073741824 ∧ x = nI c
theorem smN.pos {x y : Int32} (h : smN x) (g : smN y) : 0 < x - y ↔ y < x := by
  obtain ⟨a, ha, ex⟩ := h
  obtain ⟨b, hb, ey⟩ := g
  exact sub_pos ex ey ha hb
theorem rkG_a {x y u v : Int32} {o h : Nat} (sx : smN x) (sy : smN y) (hoh : o = h → x = y) (n : ¬ x = y) (l : y < x) : rkG x y u v o h = nI 1 := by
  unfold rkG
  rw [ifp_f (fun e => n (hoh e)), ifp_f (fun e => n (sub_zero.mp e)), ifp_t ((sx.pos sy).mpr l)]
theorem rkG_b {x y u v : Int32} {o h : Nat} (sx : smN x) (sy : smN y) (hoh : o = h → x = y) (n : ¬ x = y) (l : x ≤ y) : rkG x y u v o h = nI 0 := by
  unfold rkG
  rw [ifp_f (fun e => n (hoh e)), ifp_f (fun e => n (sub_zero.mp e)), ifp_f (fun e => Int32.not_lt.mpr l ((sx.pos sy).mp e)), ifp_f (fun e => n (sub_zero.mp e))]
theorem rkG_c {x y u v : Int32} {o h : Nat} (su : smN u) (sv : smN v) (hoh : o = h → u = v) (e : x = y) (n : ¬ u = v) (l : v < u) : rkG x y u v o h = nI 1 := by
  unfold rkG
  rw [ifp_f (fun e => n (hoh e)), ifp_t (sub_zero.mpr e), ifp_t ((su.pos sv).mpr l)]
theorem rkG_d {x y u v : Int32} {o h : Nat} (su : smN u) (sv : smN v) (hoh : o = h → u = v) (e : x = y) (n : ¬ u = v) (l : u ≤ v) : rkG x y u v o h = nI 0 := by
  unfold rkG
  rw [ifp_f (fun e => n (hoh e)), ifp_t (sub_zero.mpr e), ifp_f (fun e => Int32.not_lt.mpr l ((su.pos sv).mp e)), ifp_f (fun e => n (sub_zero.mp e))]
theorem rkG_e {x y u v : Int32} {o h : Nat} (e : x = y) (f : u = v) (l : o < h) : rkG x y u v o h = nI 1 := by
  unfold rkG
  rw [ifp_f (Nat.ne_of_lt l), ifp_t (sub_zero.mpr e), ifp_f (by rw [sub_zero.mpr f]; decide), ifp_t (sub_zero.mpr f), ifp_t l]
theorem rkG_f {x y u v : Int32} {o h : Nat} (e : x = y) (f : u = v) (l : h ≤ o) : rkG x y u v o h = nI 0 := by
  unfold rkG
  by_cases g : o = h
  · rw [ifp_t g]
  · rw [ifp_f g, ifp_t (sub_zero.mpr e), ifp_f (by rw [sub_zero.mpr f]; decide), ifp_t (sub_zero.mpr f), ifp_f (Nat.not_lt.mpr l)]
theorem rkG_01 {x y u v : Int32} {o h : Nat} : rkG x y u v o h = nI 0 ∨ rkG x y u v o h = nI 1 := by
  unfold rkG
  rcases @ifp_or Int32 (o = h) (nI 0) (ifp (0 < ifp (x - y = 0) (u - v) (x - y)) (nI 1) (ifp (ifp (x - y = 0) (u - v) (x - y) = 0) (ifp (o < h) (nI 1) (nI 0)) (nI 0))) with ⟨_, e⟩ | ⟨_, e⟩
  · exact Or.inl e
  · rw [e]
    rcases @ifp_or Int32 (0 < ifp (x - y = 0) (u - v) (x - y)) (nI 1) (ifp (ifp (x - y = 0) (u - v) (x - y) = 0) (ifp (o < h) (nI 1) (nI 0)) (nI 0)) with ⟨_, e⟩ | ⟨_, e⟩
    · exact Or.inr e
    · rw [e]
      rcases @ifp_or Int32 (ifp (x - y = 0) (u - v) (x - y) = 0) (ifp (o < h) (nI 1) (nI 0)) (nI 0) with ⟨_, e⟩ | ⟨_, e⟩
      · rw [e]
        rcases @ifp_or Int32 (o < h) (nI 1) (nI 0) with ⟨_, e⟩ | ⟨_, e⟩
        · exact Or.inr e
        · exact Or.inl e
      · exact Or.inl e
theorem mRk1_G {n h o : Nat} {V : Nat → Int32} : mRk1 n V h o = rkG (mClaim n V o) (mClaim n V h) (V (6 + 4 * o + 2)) (V (6 + 4 * h + 2)) o h := rfl
theorem sRk1_G {h o : Nat} {V : Nat → Int32} : sRk1 V h o = rkG (V (30 + 8 * o + 1) * V (30 + 8 * o + 2)) (V (30 + 8 * h + 1) * V (30 + 8 * h + 2)) (V (30 + 8 * h + 4)) (V (30 + 8 * o + 4)) o h := rfl
set_option maxHeartbeats 100000 in
theorem K_ahH {d : Nat} {D : Mm} {n : Nat} {V : Nat → Int32} (R : Rel D n V) (h12 : n ≤ 12) (ho : opV V) (hc : clN n V) (hst : stN V) {o h : Nat} (oo : o < 6) (hh : h < 6) : Ct (d + 3) 32 [.ref 1, .int (nI o), .int (nI h)] D (Ex (some (.int (mRk1 n V h o))) D) := by
  rw [mRk1_G]
  have sx : smN (mClaim n V o) := hc o oo
  have sy : smN (mClaim n V h) := hc h hh
  have su : smN (V (6 + 4 * o + 2)) := hst o oo
  have sv : smN (V (6 + 4 * h + 2)) := hst h hh
  have hxy : o = h → mClaim n V o = mClaim n V h := fun e => by rw [e]
  have huv : o = h → V (6 + 4 * o + 2) = V (6 + 4 * h + 2) := fun e => by rw [e]
  refine ent m32 rfl rfl (ls := [.ref 1, .int (nI o), .int (nI h), .retAddr 0, .retAddr 0]) rfl ?_
  refine w_ald0 i32_0 ?_
  refine w_ild1 i32_1 ?_
  refine w_vI2 i32_2 c21 (Or.inl rfl) ⟨by decide +kernel, by decide⟩ rfl ⟨rfl, Nat.le_of_ble_eq_true rfl⟩ (K_claimOf R h12 ho oo) ?_
  refine w_ist3 i32_5 ?_
  refine w_ald0 i32_6 ?_
  refine w_ild2 i32_7 ?_
  refine w_vI2 i32_8 c21 (Or.inl rfl) ⟨by decide +kernel, by decide⟩ rfl ⟨rfl, Nat.le_of_ble_eq_true rfl⟩ (K_claimOf R h12 ho hh) ?_
  refine w_ist4 i32_11 ?_
  refine w_ild3 i32_13 ?_
  refine w_ild4 i32_14 ?_
  refine w_ceq i32_16 g32_16  (fun h16 => ?_) (fun h16 => ?_)
  · skip
    refine w_ald0 i32_31 ?_
    refine w_gfR i32_32 (by decide) s_1 rfl ?_
    refine w_ild1 i32_35 ?_
    refine w_ial i32_36 s_13 (by decide) (by omega) (R.c13 (by assumption)) ?_
    refine w_ald0 i32_37 ?_
    refine w_gfR i32_38 (by decide) s_1 rfl ?_
    refine w_ild2 i32_41 ?_
    refine w_ial i32_42 s_13 (by decide) (by omega) (R.c13 (by assumption)) ?_
    refine w_ceq i32_43 g32_43  (fun h43 => ?_) (fun h43 => ?_)
    · skip
      refine w_ild1 i32_67 ?_
      refine w_ild2 i32_68 ?_
      refine w_cgeN i32_69 g32_69 (by omega) (by omega) (fun h69 => ?_) (fun h69 => ?_)
      · skip
        refine w_const i32_76 kc_0 ?_
        refine w_rz i32_77 r32 nar_z0 ?_
        first
          | (rw [rkG_e h16 h43 h69]; exact ⟨rfl, rfl⟩)
          | (rw [rkG_f h16 h43 h69]; exact ⟨rfl, rfl⟩)
      · skip
        refine w_const i32_72 kc_1 ?_
        refine w_goto i32_73 g32_73 ?_
        refine w_rz i32_77 r32 nar_z1 ?_
        first
          | (rw [rkG_e h16 h43 h69]; exact ⟨rfl, rfl⟩)
          | (rw [rkG_f h16 h43 h69]; exact ⟨rfl, rfl⟩)
    · skip
      refine w_ald0 i32_46 ?_
      refine w_gfR i32_47 (by decide) s_1 rfl ?_
      refine w_ild1 i32_50 ?_
      refine w_ial i32_51 s_13 (by decide) (by omega) (R.c13 (by assumption)) ?_
      refine w_ald0 i32_52 ?_
      refine w_gfR i32_53 (by decide) s_1 rfl ?_
      refine w_ild2 i32_56 ?_
      refine w_ial i32_57 s_13 (by decide) (by omega) (R.c13 (by assumption)) ?_
      refine w_cle i32_58 g32_58  (fun h58 => ?_) (fun h58 => ?_)
      · skip
        refine w_const i32_65 kc_0 ?_
        refine w_rz i32_66 r32 nar_z0 ?_
        first
          | (rw [rkG_c su sv huv h16 h43 h58]; exact ⟨rfl, rfl⟩)
          | (rw [rkG_d su sv huv h16 h43 h58]; exact ⟨rfl, rfl⟩)
      · skip
        refine w_const i32_61 kc_1 ?_
        refine w_goto i32_62 g32_62 ?_
        refine w_rz i32_66 r32 nar_z1 ?_
        first
          | (rw [rkG_c su sv huv h16 h43 h58]; exact ⟨rfl, rfl⟩)
          | (rw [rkG_d su sv huv h16 h43 h58]; exact ⟨rfl, rfl⟩)
  · skip
    refine w_ild3 i32_19 ?_
    refine w_ild4 i32_20 ?_
    refine w_cle i32_22 g32_22  (fun h22 => ?_) (fun h22 => ?_)
    · skip
      refine w_const i32_29 kc_0 ?_
      refine w_rz i32_30 r32 nar_z0 ?_
      first
        | (rw [rkG_a sx sy hxy h16 h22]; exact ⟨rfl, rfl⟩)
        | (rw [rkG_b sx sy hxy h16 h22]; exact ⟨rfl, rfl⟩)
    · skip
      refine w_const i32_25 kc_1 ?_
      refine w_goto i32_26 g32_26 ?_
      refine w_rz i32_30 r32 nar_z1 ?_
      first
        | (rw [rkG_a sx sy hxy h16 h22]; exact ⟨rfl, rfl⟩)
        | (rw [rkG_b sx sy hxy h16 h22]; exact ⟨rfl, rfl⟩)
set_option maxHeartbeats 100000 in
theorem K_ahS {d : Nat} {D : Mm} {n : Nat} {V : Nat → Int32} (R : Rel D n V) (h12 : n ≤ 12) (hl : ltN n V) {o h : Nat} (oo : o < n) (hh : h < n) : Ct (d + 1) 53 [.ref 2, .int (nI o), .int (nI h)] D (Ex (some (.int (sRk1 V h o))) D) := by
  rw [sRk1_G]
  have sx : smN (V (30 + 8 * o + 1) * V (30 + 8 * o + 2)) := (hl o oo).1
  have sy : smN (V (30 + 8 * h + 1) * V (30 + 8 * h + 2)) := (hl h hh).1
  have su : smN (V (30 + 8 * h + 4)) := (hl h hh).2
  have sv : smN (V (30 + 8 * o + 4)) := (hl o oo).2
  have hxy : o = h → V (30 + 8 * o + 1) * V (30 + 8 * o + 2) = V (30 + 8 * h + 1) * V (30 + 8 * h + 2) := fun e => by rw [e]
  have huv : o = h → V (30 + 8 * h + 4) = V (30 + 8 * o + 4) := fun e => by rw [e]
  refine ent m53 rfl rfl (ls := [.ref 2, .int (nI o), .int (nI h), .retAddr 0, .retAddr 0]) rfl ?_
  refine w_ald0 i53_0 ?_
  refine w_gfR i53_1 (by decide) s_2 rfl ?_
  refine w_ild1 i53_4 ?_
  refine w_ial i53_5 s_4 (by decide) (by omega) (R.c4 (by assumption)) ?_
  refine w_ald0 i53_6 ?_
  refine w_gfR i53_7 (by decide) s_2 rfl ?_
  refine w_ild1 i53_10 ?_
  refine w_ial i53_11 s_5 (by decide) (by omega) (R.c5 (by assumption)) ?_
  refine w_imul i53_12 rfl ?_
  refine w_ist3 i53_13 ?_
  refine w_ald0 i53_14 ?_
  refine w_gfR i53_15 (by decide) s_2 rfl ?_
  refine w_ild2 i53_18 ?_
  refine w_ial i53_19 s_4 (by decide) (by omega) (R.c4 (by assumption)) ?_
  refine w_ald0 i53_20 ?_
  refine w_gfR i53_21 (by decide) s_2 rfl ?_
  refine w_ild2 i53_24 ?_
  refine w_ial i53_25 s_5 (by decide) (by omega) (R.c5 (by assumption)) ?_
  refine w_imul i53_26 rfl ?_
  refine w_ist4 i53_27 ?_
  refine w_ild3 i53_29 ?_
  refine w_ild4 i53_30 ?_
  refine w_ceq i53_32 g53_32  (fun h32 => ?_) (fun h32 => ?_)
  · skip
    refine w_ald0 i53_47 ?_
    refine w_gfR i53_48 (by decide) s_2 rfl ?_
    refine w_ild1 i53_51 ?_
    refine w_ial i53_52 s_7 (by decide) (by omega) (R.c7 (by assumption)) ?_
    refine w_ald0 i53_53 ?_
    refine w_gfR i53_54 (by decide) s_2 rfl ?_
    refine w_ild2 i53_57 ?_
    refine w_ial i53_58 s_7 (by decide) (by omega) (R.c7 (by assumption)) ?_
    refine w_ceq i53_59 g53_59  (fun h59 => ?_) (fun h59 => ?_)
    · skip
      refine w_ild1 i53_83 ?_
      refine w_ild2 i53_84 ?_
      refine w_cgeN i53_85 g53_85 (by omega) (by omega) (fun h85 => ?_) (fun h85 => ?_)
      · skip
        refine w_const i53_92 kc_0 ?_
        refine w_rz i53_93 r53 nar_z0 ?_
        first
          | (rw [rkG_e h32 h59.symm h85]; exact ⟨rfl, rfl⟩)
          | (rw [rkG_f h32 h59.symm h85]; exact ⟨rfl, rfl⟩)
      · skip
        refine w_const i53_88 kc_1 ?_
        refine w_goto i53_89 g53_89 ?_
        refine w_rz i53_93 r53 nar_z1 ?_
        first
          | (rw [rkG_e h32 h59.symm h85]; exact ⟨rfl, rfl⟩)
          | (rw [rkG_f h32 h59.symm h85]; exact ⟨rfl, rfl⟩)
    · skip
      refine w_ald0 i53_62 ?_
      refine w_gfR i53_63 (by decide) s_2 rfl ?_
      refine w_ild1 i53_66 ?_
      refine w_ial i53_67 s_7 (by decide) (by omega) (R.c7 (by assumption)) ?_
      refine w_ald0 i53_68 ?_
      refine w_gfR i53_69 (by decide) s_2 rfl ?_
      refine w_ild2 i53_72 ?_
      refine w_ial i53_73 s_7 (by decide) (by omega) (R.c7 (by assumption)) ?_
      refine w_cge i53_74 g53_74  (fun h74 => ?_) (fun h74 => ?_)
      · skip
        refine w_const i53_81 kc_0 ?_
        refine w_rz i53_82 r53 nar_z0 ?_
        first
          | (rw [rkG_c su sv huv h32 (fun e => h59 e.symm) h74]; exact ⟨rfl, rfl⟩)
          | (rw [rkG_d su sv huv h32 (fun e => h59 e.symm) h74]; exact ⟨rfl, rfl⟩)
      · skip
        refine w_const i53_77 kc_1 ?_
        refine w_goto i53_78 g53_78 ?_
        refine w_rz i53_82 r53 nar_z1 ?_
        first
          | (rw [rkG_c su sv huv h32 (fun e => h59 e.symm) h74]; exact ⟨rfl, rfl⟩)
          | (rw [rkG_d su sv huv h32 (fun e => h59 e.symm) h74]; exact ⟨rfl, rfl⟩)
  · skip
    refine w_ild3 i53_35 ?_
    refine w_ild4 i53_36 ?_
    refine w_cle i53_38 g53_38  (fun h38 => ?_) (fun h38 => ?_)
    · skip
      refine w_const i53_45 kc_0 ?_
      refine w_rz i53_46 r53 nar_z0 ?_
      first
        | (rw [rkG_a sx sy hxy h32 h38]; exact ⟨rfl, rfl⟩)
        | (rw [rkG_b sx sy hxy h32 h38]; exact ⟨rfl, rfl⟩)
    · skip
      refine w_const i53_41 kc_1 ?_
      refine w_goto i53_42 g53_42 ?_
      refine w_rz i53_46 r53 nar_z1 ?_
      first
        | (rw [rkG_a sx sy hxy h32 h38]; exact ⟨rfl, rfl⟩)
        | (rw [rkG_b sx sy hxy h32 h38]; exact ⟨rfl, rfl⟩)
set_option maxHeartbeats 100000 in
theorem K_rkH {d : Nat} {D : Mm} {n : Nat} {V : Nat → Int32} (R : Rel D n V) (h12 : n ≤ 12) (ho : opV V) (hc : clN n V) (hst : stN V) {h : Nat} (hh : h < 6) : Ct (d + 4) 31 [.ref 1, .int (nI h)] D (Ex (some (.int (mRank n V h))) D) := by
  refine ent m31 rfl rfl (ls := [.ref 1, .int (nI h), .retAddr 0, .retAddr 0]) rfl ?_
  refine w_const i31_0 kc_0 ?_
  refine w_ist2 i31_1 ?_
  refine w_const i31_2 kc_0 ?_
  refine w_ist3 i31_3 ?_
  refine down0 (n := 6) (P := fun i => Wp _ _ _ 4 [.ref 1, .int (nI h), .int (sumN i (mRk1 n V h)), .int (nI i)] [] D) ?_ ?_
  · skip
    refine w_ild3 i31_4 ?_
    refine w_bip i31_5 kb_6 ?_
    refine w_cgeNT i31_7 g31_7 (by omega) (by omega) (by omega) ?_
    refine w_ild2 i31_33 ?_
    refine w_ri i31_34 r31 ?_
    exact ⟨rfl, rfl⟩
  · intro i hi ih
    refine w_ild3 i31_4 ?_
    refine w_bip i31_5 kb_6 ?_
    refine w_cgeNF i31_7 (by omega) (by omega) (by omega) ?_
    refine w_ild2 i31_10 ?_
    refine w_ald0 i31_11 ?_
    refine w_ild3 i31_12 ?_
    refine w_ild1 i31_13 ?_
    refine w_vI3 i31_14 c32 (Or.inl rfl) ⟨by decide +kernel, by decide⟩ rfl ⟨rfl, Nat.le_of_ble_eq_true rfl⟩ (K_ahH R h12 ho hc hst hi hh) ?_
    refine w_ieq i31_17 g31_17  (fun h17 => ?_) (fun h17 => ?_)
    · skip
      refine w_const i31_24 kc_0 ?_
      refine w_iadd i31_25 rfl ?_
      refine w_ist2 i31_26 ?_
      refine w_inc3 i31_27 (inc1 _) ?_
      refine w_goto i31_30 g31_30 ?_
      rw [sumS] at ih
      first
        | (rw [show mRk1 n V h i = nI 0 from h17] at ih; exact ih)
        | (rw [show mRk1 n V h i = nI 1 from (mRk1_G ▸ rkG_01 : mRk1 n V h i = nI 0 ∨ mRk1 n V h i = nI 1).resolve_left h17] at ih; exact ih)
    · skip
      refine w_const i31_20 kc_1 ?_
      refine w_goto i31_21 g31_21 ?_
      refine w_iadd i31_25 rfl ?_
      refine w_ist2 i31_26 ?_
      refine w_inc3 i31_27 (inc1 _) ?_
      refine w_goto i31_30 g31_30 ?_
      rw [sumS] at ih
      first
        | (rw [show mRk1 n V h i = nI 0 from h17] at ih; exact ih)
        | (rw [show mRk1 n V h i = nI 1 from (mRk1_G ▸ rkG_01 : mRk1 n V h i = nI 0 ∨ mRk1 n V h i = nI 1).resolve_left h17] at ih; exact ih)
set_option maxHeartbeats 100000 in
theorem K_rkS {d : Nat} {D : Mm} {n : Nat} {V : Nat → Int32} (R : Rel D n V) (h12 : n ≤ 12) (hl : ltN n V) {h : Nat} (hh : h < n) : Ct (d + 2) 52 [.ref 2, .int (nI h)] D (Ex (some (.int (sRank n V h))) D) := by
  refine ent m52 rfl rfl (ls := [.ref 2, .int (nI h), .retAddr 0, .retAddr 0]) rfl ?_
  refine w_const i52_0 kc_0 ?_
  refine w_ist2 i52_1 ?_
  refine w_const i52_2 kc_0 ?_
  refine w_ist3 i52_3 ?_
  refine down0 (n := n) (P := fun i => Wp _ _ _ 4 [.ref 2, .int (nI h), .int (sumN i (sRk1 V h)), .int (nI i)] [] D) ?_ ?_
  · skip
    refine w_ild3 i52_4 ?_
    refine w_ald0 i52_5 ?_
    refine w_gfI i52_6 (by decide) s_2 rfl R.ct ?_
    refine w_cgeNT i52_9 g52_9 (by omega) (by omega) (by omega) ?_
    refine w_ild2 i52_35 ?_
    refine w_ri i52_36 r52 ?_
    exact ⟨rfl, rfl⟩
  · intro i hi ih
    refine w_ild3 i52_4 ?_
    refine w_ald0 i52_5 ?_
    refine w_gfI i52_6 (by decide) s_2 rfl R.ct ?_
    refine w_cgeNF i52_9 (by omega) (by omega) (by omega) ?_
    refine w_ild2 i52_12 ?_
    refine w_ald0 i52_13 ?_
    refine w_ild3 i52_14 ?_
    refine w_ild1 i52_15 ?_
    refine w_vI3 i52_16 c53 (Or.inl rfl) ⟨by decide +kernel, by decide⟩ rfl ⟨rfl, Nat.le_of_ble_eq_true rfl⟩ (K_ahS R h12 hl hi hh) ?_
    refine w_ieq i52_19 g52_19  (fun h19 => ?_) (fun h19 => ?_)
    · skip
      refine w_const i52_26 kc_0 ?_
      refine w_iadd i52_27 rfl ?_
      refine w_ist2 i52_28 ?_
      refine w_inc3 i52_29 (inc1 _) ?_
      refine w_goto i52_32 g52_32 ?_
      rw [sumS] at ih
      first
        | (rw [show sRk1 V h i = nI 0 from h19] at ih; exact ih)
        | (rw [show sRk1 V h i = nI 1 from (sRk1_G ▸ rkG_01 : sRk1 V h i = nI 0 ∨ sRk1 V h i = nI 1).resolve_left h19] at ih; exact ih)
    · skip
      refine w_const i52_22 kc_1 ?_
      refine w_goto i52_23 g52_23 ?_
      refine w_iadd i52_27 rfl ?_
      refine w_ist2 i52_28 ?_
      refine w_inc3 i52_29 (inc1 _) ?_
      refine w_goto i52_32 g52_32 ?_
      rw [sumS] at ih
      first
        | (rw [show sRk1 V h i = nI 0 from h19] at ih; exact ih)
        | (rw [show sRk1 V h i = nI 1 from (sRk1_G ▸ rkG_01 : sRk1 V h i = nI 0 ∨ sRk1 V h i = nI 1).resolve_left h19] at ih; exact ih)
set_option maxHeartbeats 100000 in
theorem K_ranked {d : Nat} {D : Mm} {n : Nat} {V : Nat → Int32} (R : Rel D n V) (h12 : n ≤ 12) (ho : opV V) (hc : clN n V) (hst : stN V) {p : Int32} : Ct (d + 6) 72 [.ref 0, .int p] D (Ex (some (.int (frk (mRank n V) p 6 0))) D) := by
  refine ent m72 rfl rfl (ls := [.ref 0, .int p, .retAddr 0]) rfl ?_
  refine w_const i72_0 kc_0 ?_
  refine w_ist2 i72_1 ?_
  have L2 : ∀ k h, h + k = 6 → Wp (d + 5) 72 (Ex (some (.int (frk (mRank n V) p k h))) D) 2 [.ref 0, .int p, .int (nI h)] [] D := by
    intro k
    induction k with
    | zero =>
      intro h hk
      refine w_ild2 i72_2 ?_
      refine w_bip i72_3 kb_6 ?_
      refine w_cgeNT i72_5 g72_5 (by omega) (by omega) (by omega) ?_
      refine w_sip i72_28 ks_m1011 ?_
      refine w_ri i72_31 r72 ?_
      first | exact ⟨rfl, rfl⟩ | (rw [ifp_t h17]; exact ⟨rfl, rfl⟩)
    | succ k ih =>
      intro h hk
      have hh : h < 6 := by omega
      unfold frk
      refine w_ild2 i72_2 ?_
      refine w_bip i72_3 kb_6 ?_
      refine w_cgeNF i72_5 (by omega) (by omega) (by omega) ?_
      refine w_ald0 i72_8 ?_
      refine w_gfR i72_9 (by decide) s_0 rfl ?_
      refine w_ild2 i72_12 ?_
      refine w_vI2 i72_13 c31 (Or.inl rfl) ⟨by decide +kernel, by decide⟩ rfl ⟨rfl, Nat.le_of_ble_eq_true rfl⟩ (K_rkH R h12 ho hc hst hh) ?_
      refine w_ild1 i72_16 ?_
      refine w_cne i72_17 g72_17  (fun h17 => ?_) (fun h17 => ?_)
      · skip
        refine w_inc2 i72_22 (inc1 _) ?_
        refine w_goto i72_25 g72_25 ?_
        rw [ifp_f h17]
        exact ih _ (by omega)
      · skip
        refine w_ild2 i72_20 ?_
        refine w_ri i72_21 r72 ?_
        first | exact ⟨rfl, rfl⟩ | (rw [ifp_t h17]; exact ⟨rfl, rfl⟩)
  exact L2 6 0 (by omega)
set_option maxHeartbeats 100000 in
theorem K_brightest {d : Nat} {D : Mm} {n : Nat} {V : Nat → Int32} (R : Rel D n V) (h12 : n ≤ 12) (hl : ltN n V) {p : Int32} : Ct (d + 6) 73 [.ref 0, .int p] D (Ex (some (.int (frk (sRank n V) p n 0))) D) := by
  refine ent m73 rfl rfl (ls := [.ref 0, .int p, .retAddr 0]) rfl ?_
  refine w_const i73_0 kc_0 ?_
  refine w_ist2 i73_1 ?_
  have L2 : ∀ k h, h + k = n → Wp (d + 5) 73 (Ex (some (.int (frk (sRank n V) p k h))) D) 2 [.ref 0, .int p, .int (nI h)] [] D := by
    intro k
    induction k with
    | zero =>
      intro h hk
      refine w_ild2 i73_2 ?_
      refine w_ald0 i73_3 ?_
      refine w_gfR i73_4 (by decide) s_0 rfl ?_
      refine w_gfR i73_7 (by decide) s_1 rfl ?_
      refine w_gfI i73_10 (by decide) s_2 rfl R.ct ?_
      refine w_cgeNT i73_13 g73_13 (by omega) (by omega) (by omega) ?_
      refine w_sip i73_39 ks_m1011 ?_
      refine w_ri i73_42 r73 ?_
      first | exact ⟨rfl, rfl⟩ | (rw [ifp_t h28]; exact ⟨rfl, rfl⟩)
    | succ k ih =>
      intro h hk
      have hh : h < n := by omega
      unfold frk
      refine w_ild2 i73_2 ?_
      refine w_ald0 i73_3 ?_
      refine w_gfR i73_4 (by decide) s_0 rfl ?_
      refine w_gfR i73_7 (by decide) s_1 rfl ?_
      refine w_gfI i73_10 (by decide) s_2 rfl R.ct ?_
      refine w_cgeNF i73_13 (by omega) (by omega) (by omega) ?_
      refine w_ald0 i73_16 ?_
      refine w_gfR i73_17 (by decide) s_0 rfl ?_
      refine w_gfR i73_20 (by decide) s_1 rfl ?_
      refine w_ild2 i73_23 ?_
      refine w_vI2 i73_24 c52 (Or.inl rfl) ⟨by decide +kernel, by decide⟩ rfl ⟨rfl, Nat.le_of_ble_eq_true rfl⟩ (K_rkS R h12 hl hh) ?_
      refine w_ild1 i73_27 ?_
      refine w_cne i73_28 g73_28  (fun h28 => ?_) (fun h28 => ?_)
      · skip
        refine w_inc2 i73_33 (inc1 _) ?_
        refine w_goto i73_36 g73_36 ?_
        rw [ifp_f h28]
        exact ih _ (by omega)
      · skip
        refine w_ild2 i73_31 ?_
        refine w_ri i73_32 r73 ?_
        first | exact ⟨rfl, rfl⟩ | (rw [ifp_t h28]; exact ⟨rfl, rfl⟩)
  exact L2 n 0 (by omega)
set_option maxHeartbeats 100000 in
theorem K_stubOf_bad {d : Nat} {D : Mm} {n : Nat} {V : Nat → Int32} (R : Rel D n V) (h12 : n ≤ 12) {a w : Int32} (hb : badS n a) : Ct (d + 6) 58 [.ref 0, .int a, .int w] D (Ex (some (.int (-1011))) D) := by
  refine ent m58 rfl rfl (ls := [.ref 0, .int a, .int w, .retAddr 0]) rfl ?_
  refine w_ald0 i58_0 ?_
  refine w_ild1 i58_1 ?_
  refine w_vI2 i58_2 c100 (Or.inl rfl) ⟨by decide +kernel, by decide⟩ rfl ⟨rfl, Nat.le_of_ble_eq_true rfl⟩ (K_isStub_f R h12 hb) ?_
  refine w_ineNF i58_5 (by omega) (by omega) ?_
  refine w_sip i58_8 ks_m1011 ?_
  refine w_ri i58_11 r58 ?_
  exact ⟨rfl, rfl⟩
set_option maxHeartbeats 100000 in
theorem K_stubOf_badw {d : Nat} {D : Mm} {n : Nat} {V : Nat → Int32} (R : Rel D n V) (h12 : n ≤ 12) {s : Nat} (hs : s < n) {w : Int32} (hb : badR w (nI 0) (nI 7)) : Ct (d + 6) 58 [.ref 0, .int (nI s), .int w] D (Ex (some (.int (-1012))) D) := by
  refine ent m58 rfl rfl (ls := [.ref 0, .int (nI s), .int w, .retAddr 0]) rfl ?_
  refine w_ald0 i58_0 ?_
  refine w_ild1 i58_1 ?_
  refine w_vI2 i58_2 c100 (Or.inl rfl) ⟨by decide +kernel, by decide⟩ rfl ⟨rfl, Nat.le_of_ble_eq_true rfl⟩ (K_isStub_t R h12 hs) ?_
  refine w_ineNT i58_5 g58_5 (by omega) (by omega) ?_
  refine w_ald0 i58_12 ?_
  refine w_gfR i58_13 (by decide) s_0 rfl ?_
  refine w_gfR i58_16 (by decide) s_1 rfl ?_
  refine w_ast3 i58_19 ?_
  refine w_ild2 i58_20 ?_
  refine w_ts (t := 130) i58_21 (ts_out (badR_i hb) (by decide)) ?_
  refine w_sip i58_130 ks_m1012 ?_
  refine w_ri i58_133 r58 ?_
  exact ⟨rfl, rfl⟩
set_option maxHeartbeats 100000 in
theorem K_stubOf_0 {d : Nat} {D : Mm} {n : Nat} {V : Nat → Int32} (R : Rel D n V) (h12 : n ≤ 12) {s : Nat} (hs : s < n) : Ct (d + 6) 58 [.ref 0, .int (nI s), .int (nI 0)] D (Ex (some (.int (vStubOf V s 0))) D) := by
  refine ent m58 rfl rfl (ls := [.ref 0, .int (nI s), .int (nI 0), .retAddr 0]) rfl ?_
  refine w_ald0 i58_0 ?_
  refine w_ild1 i58_1 ?_
  refine w_vI2 i58_2 c100 (Or.inl rfl) ⟨by decide +kernel, by decide⟩ rfl ⟨rfl, Nat.le_of_ble_eq_true rfl⟩ (K_isStub_t R h12 hs) ?_
  refine w_ineNT i58_5 g58_5 (by omega) (by omega) ?_
  refine w_ald0 i58_12 ?_
  refine w_gfR i58_13 (by decide) s_0 rfl ?_
  refine w_gfR i58_16 (by decide) s_1 rfl ?_
  refine w_ast3 i58_19 ?_
  refine w_ild2 i58_20 ?_
  refine w_ts (t := 68) i58_21 (by decide) ?_
  refine w_ald3 i58_68 ?_
  refine w_gfR i58_69 (by decide) s_2 rfl ?_
  refine w_ild1 i58_72 ?_
  refine w_ial i58_73 s_3 (by decide) (by omega) (R.c3 (by assumption)) ?_
  refine w_ri i58_74 r58 ?_
  unfold vStubOf
  rw [ifp_f (show ¬ 0 = 3 by decide), ifp_f (show ¬ 0 = 6 by decide)]
  exact ⟨rfl, rfl⟩
set_option maxHeartbeats 100000 in
theorem K_stubOf_1 {d : Nat} {D : Mm} {n : Nat} {V : Nat → Int32} (R : Rel D n V) (h12 : n ≤ 12) {s : Nat} (hs : s < n) : Ct (d + 6) 58 [.ref 0, .int (nI s), .int (nI 1)] D (Ex (some (.int (vStubOf V s 1))) D) := by
  refine ent m58 rfl rfl (ls := [.ref 0, .int (nI s), .int (nI 1), .retAddr 0]) rfl ?_
  refine w_ald0 i58_0 ?_
  refine w_ild1 i58_1 ?_
  refine w_vI2 i58_2 c100 (Or.inl rfl) ⟨by decide +kernel, by decide⟩ rfl ⟨rfl, Nat.le_of_ble_eq_true rfl⟩ (K_isStub_t R h12 hs) ?_
  refine w_ineNT i58_5 g58_5 (by omega) (by omega) ?_
  refine w_ald0 i58_12 ?_
  refine w_gfR i58_13 (by decide) s_0 rfl ?_
  refine w_gfR i58_16 (by decide) s_1 rfl ?_
  refine w_ast3 i58_19 ?_
  refine w_ild2 i58_20 ?_
  refine w_ts (t := 75) i58_21 (by decide) ?_
  refine w_ald3 i58_75 ?_
  refine w_gfR i58_76 (by decide) s_2 rfl ?_
  refine w_ild1 i58_79 ?_
  refine w_ial i58_80 s_4 (by decide) (by omega) (R.c4 (by assumption)) ?_
  refine w_ri i58_81 r58 ?_
  unfold vStubOf
  rw [ifp_f (show ¬ 1 = 3 by decide), ifp_f (show ¬ 1 = 6 by decide)]
  exact ⟨rfl, rfl⟩
set_option maxHeartbeats 100000 in
theorem K_stubOf_2 {d : Nat} {D : Mm} {n : Nat} {V : Nat → Int32} (R : Rel D n V) (h12 : n ≤ 12) {s : Nat} (hs : s < n) : Ct (d + 6) 58 [.ref 0, .int (nI s), .int (nI 2)] D (Ex (some (.int (vStubOf V s 2))) D) := by
  refine ent m58 rfl rfl (ls := [.ref 0, .int (nI s), .int (nI 2), .retAddr 0]) rfl ?_
  refine w_ald0 i58_0 ?_
  refine w_ild1 i58_1 ?_
  refine w_vI2 i58_2 c100 (Or.inl rfl) ⟨by decide +kernel, by decide⟩ rfl ⟨rfl, Nat.le_of_ble_eq_true rfl⟩ (K_isStub_t R h12 hs) ?_
  refine w_ineNT i58_5 g58_5 (by omega) (by omega) ?_
  refine w_ald0 i58_12 ?_
  refine w_gfR i58_13 (by decide) s_0 rfl ?_
  refine w_gfR i58_16 (by decide) s_1 rfl ?_
  refine w_ast3 i58_19 ?_
  refine w_ild2 i58_20 ?_
  refine w_ts (t := 82) i58_21 (by decide) ?_
  refine w_ald3 i58_82 ?_
  refine w_gfR i58_83 (by decide) s_2 rfl ?_
  refine w_ild1 i58_86 ?_
  refine w_ial i58_87 s_5 (by decide) (by omega) (R.c5 (by assumption)) ?_
  refine w_ri i58_88 r58 ?_
  unfold vStubOf
  rw [ifp_f (show ¬ 2 = 3 by decide), ifp_f (show ¬ 2 = 6 by decide)]
  exact ⟨rfl, rfl⟩
set_option maxHeartbeats 100000 in
theorem K_stubOf_3 {d : Nat} {D : Mm} {n : Nat} {V : Nat → Int32} (R : Rel D n V) (h12 : n ≤ 12) {s : Nat} (hs : s < n) : Ct (d + 6) 58 [.ref 0, .int (nI s), .int (nI 3)] D (Ex (some (.int (vStubOf V s 3))) D) := by
  refine ent m58 rfl rfl (ls := [.ref 0, .int (nI s), .int (nI 3), .retAddr 0]) rfl ?_
  refine w_ald0 i58_0 ?_
  refine w_ild1 i58_1 ?_
  refine w_vI2 i58_2 c100 (Or.inl rfl) ⟨by decide +kernel, by decide⟩ rfl ⟨rfl, Nat.le_of_ble_eq_true rfl⟩ (K_isStub_t R h12 hs) ?_
  refine w_ineNT i58_5 g58_5 (by omega) (by omega) ?_
  refine w_ald0 i58_12 ?_
  refine w_gfR i58_13 (by decide) s_0 rfl ?_
  refine w_gfR i58_16 (by decide) s_1 rfl ?_
  refine w_ast3 i58_19 ?_
  refine w_ild2 i58_20 ?_
  refine w_ts (t := 89) i58_21 (by decide) ?_
  refine w_ald3 i58_89 ?_
  refine w_gfR i58_90 (by decide) s_2 rfl ?_
  refine w_ild1 i58_93 ?_
  refine w_ial i58_94 s_6 (by decide) (by omega) (R.c6 (by assumption)) ?_
  by_cases hz : V (30 + 8 * s + 3) = 0
  · skip
    refine w_sI1 i58_95 c101 rfl  rfl ⟨rfl, Nat.le_of_ble_eq_true rfl⟩ (by rw [show V (30 + 8 * s + 3) - nI 1 = -1 by rw [hz]; decide]; exact K_orN_t) ?_
    refine w_ri i58_98 r58 ?_
    unfold vStubOf
    first | (rw [ifp_t rfl, ifp_t hz]; exact ⟨rfl, rfl⟩) | (rw [ifp_t rfl, ifp_f hz]; exact ⟨rfl, rfl⟩)
  · skip
    refine w_sI1 i58_95 c101 rfl  rfl ⟨rfl, Nat.le_of_ble_eq_true rfl⟩ (K_orN_f (fun e => hz ((sbm e).trans nI_0))) ?_
    refine w_ri i58_98 r58 ?_
    unfold vStubOf
    first | (rw [ifp_t rfl, ifp_t hz]; exact ⟨rfl, rfl⟩) | (rw [ifp_t rfl, ifp_f hz]; exact ⟨rfl, rfl⟩)
set_option maxHeartbeats 100000 in
theorem K_stubOf_4 {d : Nat} {D : Mm} {n : Nat} {V : Nat → Int32} (R : Rel D n V) (h12 : n ≤ 12) {s : Nat} (hs : s < n) : Ct (d + 6) 58 [.ref 0, .int (nI s), .int (nI 4)] D (Ex (some (.int (vStubOf V s 4))) D) := by
  refine ent m58 rfl rfl (ls := [.ref 0, .int (nI s), .int (nI 4), .retAddr 0]) rfl ?_
  refine w_ald0 i58_0 ?_
  refine w_ild1 i58_1 ?_
  refine w_vI2 i58_2 c100 (Or.inl rfl) ⟨by decide +kernel, by decide⟩ rfl ⟨rfl, Nat.le_of_ble_eq_true rfl⟩ (K_isStub_t R h12 hs) ?_
  refine w_ineNT i58_5 g58_5 (by omega) (by omega) ?_
  refine w_ald0 i58_12 ?_
  refine w_gfR i58_13 (by decide) s_0 rfl ?_
  refine w_gfR i58_16 (by decide) s_1 rfl ?_
  refine w_ast3 i58_19 ?_
  refine w_ild2 i58_20 ?_
  refine w_ts (t := 99) i58_21 (by decide) ?_
  refine w_ald3 i58_99 ?_
  refine w_gfR i58_100 (by decide) s_2 rfl ?_
  refine w_ild1 i58_103 ?_
  refine w_ial i58_104 s_7 (by decide) (by omega) (R.c7 (by assumption)) ?_
  refine w_ri i58_105 r58 ?_
  unfold vStubOf
  rw [ifp_f (show ¬ 4 = 3 by decide), ifp_f (show ¬ 4 = 6 by decide)]
  exact ⟨rfl, rfl⟩
set_option maxHeartbeats 100000 in
theorem K_stubOf_5 {d : Nat} {D : Mm} {n : Nat} {V : Nat → Int32} (R : Rel D n V) (h12 : n ≤ 12) {s : Nat} (hs : s < n) : Ct (d + 6) 58 [.ref 0, .int (nI s), .int (nI 5)] D (Ex (some (.int (vStubOf V s 5))) D) := by
  refine ent m58 rfl rfl (ls := [.ref 0, .int (nI s), .int (nI 5), .retAddr 0]) rfl ?_
  refine w_ald0 i58_0 ?_
  refine w_ild1 i58_1 ?_
  refine w_vI2 i58_2 c100 (Or.inl rfl) ⟨by decide +kernel, by decide⟩ rfl ⟨rfl, Nat.le_of_ble_eq_true rfl⟩ (K_isStub_t R h12 hs) ?_
  refine w_ineNT i58_5 g58_5 (by omega) (by omega) ?_
  refine w_ald0 i58_12 ?_
  refine w_gfR i58_13 (by decide) s_0 rfl ?_
  refine w_gfR i58_16 (by decide) s_1 rfl ?_
  refine w_ast3 i58_19 ?_
  refine w_ild2 i58_20 ?_
  refine w_ts (t := 106) i58_21 (by decide) ?_
  refine w_ald3 i58_106 ?_
  refine w_gfR i58_107 (by decide) s_2 rfl ?_
  refine w_ild1 i58_110 ?_
  refine w_ial i58_111 s_9 (by decide) (by omega) (R.c9 (by assumption)) ?_
  refine w_ri i58_112 r58 ?_
  unfold vStubOf
  rw [ifp_f (show ¬ 5 = 3 by decide), ifp_f (show ¬ 5 = 6 by decide)]
  exact ⟨rfl, rfl⟩
set_option maxHeartbeats 100000 in
theorem K_stubOf_6 {d : Nat} {D : Mm} {n : Nat} {V : Nat → Int32} (R : Rel D n V) (h12 : n ≤ 12) {s : Nat} (hs : s < n) : Ct (d + 6) 58 [.ref 0, .int (nI s), .int (nI 6)] D (Ex (some (.int (vStubOf V s 6))) D) := by
  refine ent m58 rfl rfl (ls := [.ref 0, .int (nI s), .int (nI 6), .retAddr 0]) rfl ?_
  refine w_ald0 i58_0 ?_
  refine w_ild1 i58_1 ?_
  refine w_vI2 i58_2 c100 (Or.inl rfl) ⟨by decide +kernel, by decide⟩ rfl ⟨rfl, Nat.le_of_ble_eq_true rfl⟩ (K_isStub_t R h12 hs) ?_
  refine w_ineNT i58_5 g58_5 (by omega) (by omega) ?_
  refine w_ald0 i58_12 ?_
  refine w_gfR i58_13 (by decide) s_0 rfl ?_
  refine w_gfR i58_16 (by decide) s_1 rfl ?_
  refine w_ast3 i58_19 ?_
  refine w_ild2 i58_20 ?_
  refine w_ts (t := 113) i58_21 (by decide) ?_
  refine w_ald3 i58_113 ?_
  refine w_gfR i58_114 (by decide) s_2 rfl ?_
  refine w_ild1 i58_117 ?_
  refine w_ial i58_118 s_8 (by decide) (by omega) (R.c8 (by assumption)) ?_
  by_cases hz : V (30 + 8 * s + 6) = 0
  · skip
    refine w_sI1 i58_119 c101 rfl  rfl ⟨rfl, Nat.le_of_ble_eq_true rfl⟩ (by rw [show V (30 + 8 * s + 6) - nI 1 = -1 by rw [hz]; decide]; exact K_orN_t) ?_
    refine w_ri i58_122 r58 ?_
    unfold vStubOf
    first | (rw [ifp_f (show ¬ 6 = 3 by decide), ifp_t rfl, ifp_t hz]; exact ⟨rfl, rfl⟩) | (rw [ifp_f (show ¬ 6 = 3 by decide), ifp_t rfl, ifp_f hz]; exact ⟨rfl, rfl⟩)
  · skip
    refine w_sI1 i58_119 c101 rfl  rfl ⟨rfl, Nat.le_of_ble_eq_true rfl⟩ (K_orN_f (fun e => hz ((sbm e).trans nI_0))) ?_
    refine w_ri i58_122 r58 ?_
    unfold vStubOf
    first | (rw [ifp_f (show ¬ 6 = 3 by decide), ifp_t rfl, ifp_t hz]; exact ⟨rfl, rfl⟩) | (rw [ifp_f (show ¬ 6 = 3 by decide), ifp_t rfl, ifp_f hz]; exact ⟨rfl, rfl⟩)
set_option maxHeartbeats 100000 in
theorem K_stubOf_7 {d : Nat} {D : Mm} {n : Nat} {V : Nat → Int32} (R : Rel D n V) (h12 : n ≤ 12) {s : Nat} (hs : s < n) : Ct (d + 6) 58 [.ref 0, .int (nI s), .int (nI 7)] D (Ex (some (.int (vStubOf V s 7))) D) := by
  refine ent m58 rfl rfl (ls := [.ref 0, .int (nI s), .int (nI 7), .retAddr 0]) rfl ?_
  refine w_ald0 i58_0 ?_
  refine w_ild1 i58_1 ?_
  refine w_vI2 i58_2 c100 (Or.inl rfl) ⟨by decide +kernel, by decide⟩ rfl ⟨rfl, Nat.le_of_ble_eq_true rfl⟩ (K_isStub_t R h12 hs) ?_
  refine w_ineNT i58_5 g58_5 (by omega) (by omega) ?_
  refine w_ald0 i58_12 ?_
  refine w_gfR i58_13 (by decide) s_0 rfl ?_
  refine w_gfR i58_16 (by decide) s_1 rfl ?_
  refine w_ast3 i58_19 ?_
  refine w_ild2 i58_20 ?_
  refine w_ts (t := 123) i58_21 (by decide) ?_
  refine w_ald3 i58_123 ?_
  refine w_gfR i58_124 (by decide) s_2 rfl ?_
  refine w_ild1 i58_127 ?_
  refine w_ial i58_128 s_10 (by decide) (by omega) (R.c10 (by assumption)) ?_
  refine w_ri i58_129 r58 ?_
  unfold vStubOf
  rw [ifp_f (show ¬ 7 = 3 by decide), ifp_f (show ¬ 7 = 6 by decide)]
  exact ⟨rfl, rfl⟩
set_option maxHeartbeats 100000 in
theorem K_houseOf_bad {d : Nat} {D : Mm} {a w : Int32} (hb : badH a) : Ct (d + 6) 67 [.ref 0, .int a, .int w] D (Ex (some (.int (-1011))) D) := by
  refine ent m67 rfl rfl (ls := [.ref 0, .int a, .int w]) rfl ?_
  refine w_ild1 i67_0 ?_
  refine w_sI1 i67_1 c99 rfl  rfl ⟨rfl, Nat.le_of_ble_eq_true rfl⟩ (K_isHouse_f hb) ?_
  refine w_ineNF i67_4 (by omega) (by omega) ?_
  refine w_sip i67_7 ks_m1011 ?_
  refine w_ri i67_10 r67 ?_
  exact ⟨rfl, rfl⟩
set_option maxHeartbeats 100000 in
theorem K_houseOf_badw {d : Nat} {D : Mm} {j : Nat} (hj : j < 6) {w : Int32} (hb : badR w (nI 0) (nI 7)) : Ct (d + 6) 67 [.ref 0, .int (nI j), .int w] D (Ex (some (.int (-1012))) D) := by
  refine ent m67 rfl rfl (ls := [.ref 0, .int (nI j), .int w]) rfl ?_
  refine w_ild1 i67_0 ?_
  refine w_sI1 i67_1 c99 rfl  rfl ⟨rfl, Nat.le_of_ble_eq_true rfl⟩ (K_isHouse_t hj) ?_
  refine w_ineNT i67_4 g67_4 (by omega) (by omega) ?_
  refine w_ild2 i67_11 ?_
  refine w_ts (t := 153) i67_12 (ts_out (badR_i hb) (by decide)) ?_
  refine w_sip i67_153 ks_m1012 ?_
  refine w_ri i67_156 r67 ?_
  exact ⟨rfl, rfl⟩
set_option maxHeartbeats 100000 in
theorem K_houseOf_0 {d : Nat} {D : Mm} {n : Nat} {V : Nat → Int32} (R : Rel D n V) (h12 : n ≤ 12) (ho : opV V) {j : Nat} (hj : j < 6) : Ct (d + 6) 67 [.ref 0, .int (nI j), .int (nI 0)] D (Ex (some (.int (V (6 + 4 * j + 0)))) D) := by
  refine ent m67 rfl rfl (ls := [.ref 0, .int (nI j), .int (nI 0)]) rfl ?_
  refine w_ild1 i67_0 ?_
  refine w_sI1 i67_1 c99 rfl  rfl ⟨rfl, Nat.le_of_ble_eq_true rfl⟩ (K_isHouse_t hj) ?_
  refine w_ineNT i67_4 g67_4 (by omega) (by omega) ?_
  refine w_ild2 i67_11 ?_
  refine w_ts (t := 60) i67_12 (by decide) ?_
  refine w_ald0 i67_60 ?_
  refine w_gfR i67_61 (by decide) s_0 rfl ?_
  refine w_gfR i67_64 (by decide) s_1 rfl ?_
  refine w_ild1 i67_67 ?_
  refine w_zal i67_68 s_11 (by decide) (by omega) (R.c11 (by assumption)) ?_
  refine w_ieq i67_69 g67_69  (fun h69 => ?_) (fun h69 => ?_)
  · skip
    refine w_const i67_76 kc_0 ?_
    refine w_ri i67_77 r67 ?_
    first | (rw [show V (6 + 4 * j + 0) = nI 0 from h69]; exact ⟨rfl, rfl⟩) | (rw [show V (6 + 4 * j + 0) = nI 1 from opV_t ho hj h69]; exact ⟨rfl, rfl⟩)
  · skip
    refine w_const i67_72 kc_1 ?_
    refine w_goto i67_73 g67_73 ?_
    refine w_ri i67_77 r67 ?_
    first | (rw [show V (6 + 4 * j + 0) = nI 0 from h69]; exact ⟨rfl, rfl⟩) | (rw [show V (6 + 4 * j + 0) = nI 1 from opV_t ho hj h69]; exact ⟨rfl, rfl⟩)
set_option maxHeartbeats 100000 in
theorem K_houseOf_1 {d : Nat} {D : Mm} {n : Nat} {V : Nat → Int32} (R : Rel D n V) (h12 : n ≤ 12) (ho : opV V) {j : Nat} (hj : j < 6) : Ct (d + 6) 67 [.ref 0, .int (nI j), .int (nI 1)] D (Ex (some (.int (V (6 + 4 * j + 1)))) D) := by
  refine ent m67 rfl rfl (ls := [.ref 0, .int (nI j), .int (nI 1)]) rfl ?_
  refine w_ild1 i67_0 ?_
  refine w_sI1 i67_1 c99 rfl  rfl ⟨rfl, Nat.le_of_ble_eq_true rfl⟩ (K_isHouse_t hj) ?_
  refine w_ineNT i67_4 g67_4 (by omega) (by omega) ?_
  refine w_ild2 i67_11 ?_
  refine w_ts (t := 78) i67_12 (by decide) ?_
  refine w_ald0 i67_78 ?_
  refine w_gfR i67_79 (by decide) s_0 rfl ?_
  refine w_gfR i67_82 (by decide) s_1 rfl ?_
  refine w_ild1 i67_85 ?_
  refine w_ial i67_86 s_12 (by decide) (by omega) (R.c12 (by assumption)) ?_
  refine w_ri i67_87 r67 ?_
  exact ⟨rfl, rfl⟩
set_option maxHeartbeats 100000 in
theorem K_houseOf_2 {d : Nat} {D : Mm} {n : Nat} {V : Nat → Int32} (R : Rel D n V) (h12 : n ≤ 12) (ho : opV V) {j : Nat} (hj : j < 6) : Ct (d + 6) 67 [.ref 0, .int (nI j), .int (nI 2)] D (Ex (some (.int (V (6 + 4 * j + 2)))) D) := by
  refine ent m67 rfl rfl (ls := [.ref 0, .int (nI j), .int (nI 2)]) rfl ?_
  refine w_ild1 i67_0 ?_
  refine w_sI1 i67_1 c99 rfl  rfl ⟨rfl, Nat.le_of_ble_eq_true rfl⟩ (K_isHouse_t hj) ?_
  refine w_ineNT i67_4 g67_4 (by omega) (by omega) ?_
  refine w_ild2 i67_11 ?_
  refine w_ts (t := 88) i67_12 (by decide) ?_
  refine w_ald0 i67_88 ?_
  refine w_gfR i67_89 (by decide) s_0 rfl ?_
  refine w_gfR i67_92 (by decide) s_1 rfl ?_
  refine w_ild1 i67_95 ?_
  refine w_ial i67_96 s_13 (by decide) (by omega) (R.c13 (by assumption)) ?_
  refine w_ri i67_97 r67 ?_
  exact ⟨rfl, rfl⟩
set_option maxHeartbeats 100000 in
theorem K_houseOf_3 {d : Nat} {D : Mm} {n : Nat} {V : Nat → Int32} (R : Rel D n V) (h12 : n ≤ 12) (ho : opV V) {j : Nat} (hj : j < 6) : Ct (d + 6) 67 [.ref 0, .int (nI j), .int (nI 3)] D (Ex (some (.int (V (6 + 4 * j + 3)))) D) := by
  refine ent m67 rfl rfl (ls := [.ref 0, .int (nI j), .int (nI 3)]) rfl ?_
  refine w_ild1 i67_0 ?_
  refine w_sI1 i67_1 c99 rfl  rfl ⟨rfl, Nat.le_of_ble_eq_true rfl⟩ (K_isHouse_t hj) ?_
  refine w_ineNT i67_4 g67_4 (by omega) (by omega) ?_
  refine w_ild2 i67_11 ?_
  refine w_ts (t := 98) i67_12 (by decide) ?_
  refine w_ald0 i67_98 ?_
  refine w_gfR i67_99 (by decide) s_0 rfl ?_
  refine w_gfR i67_102 (by decide) s_1 rfl ?_
  refine w_ild1 i67_105 ?_
  refine w_ial i67_106 s_14 (by decide) (by omega) (R.c14 (by assumption)) ?_
  refine w_ri i67_107 r67 ?_
  exact ⟨rfl, rfl⟩
set_option maxHeartbeats 100000 in
theorem K_houseOf_4 {d : Nat} {D : Mm} {n : Nat} {V : Nat → Int32} (R : Rel D n V) (h12 : n ≤ 12) (ho : opV V) {j : Nat} (hj : j < 6) : Ct (d + 6) 67 [.ref 0, .int (nI j), .int (nI 4)] D (Ex (some (.int (mClaim n V j))) D) := by
  refine ent m67 rfl rfl (ls := [.ref 0, .int (nI j), .int (nI 4)]) rfl ?_
  refine w_ild1 i67_0 ?_
  refine w_sI1 i67_1 c99 rfl  rfl ⟨rfl, Nat.le_of_ble_eq_true rfl⟩ (K_isHouse_t hj) ?_
  refine w_ineNT i67_4 g67_4 (by omega) (by omega) ?_
  refine w_ild2 i67_11 ?_
  refine w_ts (t := 108) i67_12 (by decide) ?_
  refine w_ald0 i67_108 ?_
  refine w_gfR i67_109 (by decide) s_0 rfl ?_
  refine w_ild1 i67_112 ?_
  refine w_vI2 i67_113 c21 (Or.inl rfl) ⟨by decide +kernel, by decide⟩ rfl ⟨rfl, Nat.le_of_ble_eq_true rfl⟩ (K_claimOf R h12 ho hj) ?_
  refine w_ri i67_116 r67 ?_
  exact ⟨rfl, rfl⟩
set_option maxHeartbeats 100000 in
theorem K_houseOf_5 {d : Nat} {D : Mm} {n : Nat} {V : Nat → Int32} (R : Rel D n V) (h12 : n ≤ 12) (ho : opV V) {j : Nat} (hj : j < 6) : Ct (d + 6) 67 [.ref 0, .int (nI j), .int (nI 5)] D (Ex (some (.int (mCount n V (nI j)))) D) := by
  refine ent m67 rfl rfl (ls := [.ref 0, .int (nI j), .int (nI 5)]) rfl ?_
  refine w_ild1 i67_0 ?_
  refine w_sI1 i67_1 c99 rfl  rfl ⟨rfl, Nat.le_of_ble_eq_true rfl⟩ (K_isHouse_t hj) ?_
  refine w_ineNT i67_4 g67_4 (by omega) (by omega) ?_
  refine w_ild2 i67_11 ?_
  refine w_ts (t := 117) i67_12 (by decide) ?_
  refine w_ald0 i67_117 ?_
  refine w_gfR i67_118 (by decide) s_0 rfl ?_
  refine w_gfR i67_121 (by decide) s_1 rfl ?_
  refine w_ild1 i67_124 ?_
  refine w_vI2 i67_125 c42 (Or.inl rfl) ⟨by decide +kernel, by decide⟩ rfl ⟨rfl, Nat.le_of_ble_eq_true rfl⟩ (K_countOn R h12) ?_
  refine w_ri i67_128 r67 ?_
  exact ⟨rfl, rfl⟩
set_option maxHeartbeats 100000 in
theorem K_houseOf_6 {d : Nat} {D : Mm} {n : Nat} {V : Nat → Int32} (R : Rel D n V) (h12 : n ≤ 12) (ho : opV V) {j : Nat} (hj : j < 6) : Ct (d + 6) 67 [.ref 0, .int (nI j), .int (nI 6)] D (Ex (some (.int (mWritsH n V (nI j)))) D) := by
  refine ent m67 rfl rfl (ls := [.ref 0, .int (nI j), .int (nI 6)]) rfl ?_
  refine w_ild1 i67_0 ?_
  refine w_sI1 i67_1 c99 rfl  rfl ⟨rfl, Nat.le_of_ble_eq_true rfl⟩ (K_isHouse_t hj) ?_
  refine w_ineNT i67_4 g67_4 (by omega) (by omega) ?_
  refine w_ild2 i67_11 ?_
  refine w_ts (t := 129) i67_12 (by decide) ?_
  refine w_ald0 i67_129 ?_
  refine w_gfR i67_130 (by decide) s_0 rfl ?_
  refine w_gfR i67_133 (by decide) s_1 rfl ?_
  refine w_ild1 i67_136 ?_
  refine w_vI2 i67_137 c46 (Or.inl rfl) ⟨by decide +kernel, by decide⟩ rfl ⟨rfl, Nat.le_of_ble_eq_true rfl⟩ (K_writsBy R h12) ?_
  refine w_ri i67_140 r67 ?_
  exact ⟨rfl, rfl⟩
set_option maxHeartbeats 100000 in
theorem K_houseOf_7 {d : Nat} {D : Mm} {n : Nat} {V : Nat → Int32} (R : Rel D n V) (h12 : n ≤ 12) (ho : opV V) {j : Nat} (hj : j < 6) : Ct (d + 6) 67 [.ref 0, .int (nI j), .int (nI 7)] D (Ex (some (.int (mOwes n V (nI j)))) D) := by
  refine ent m67 rfl rfl (ls := [.ref 0, .int (nI j), .int (nI 7)]) rfl ?_
  refine w_ild1 i67_0 ?_
  refine w_sI1 i67_1 c99 rfl  rfl ⟨rfl, Nat.le_of_ble_eq_true rfl⟩ (K_isHouse_t hj) ?_
  refine w_ineNT i67_4 g67_4 (by omega) (by omega) ?_
  refine w_ild2 i67_11 ?_
  refine w_ts (t := 141) i67_12 (by decide) ?_
  refine w_ald0 i67_141 ?_
  refine w_gfR i67_142 (by decide) s_0 rfl ?_
  refine w_gfR i67_145 (by decide) s_1 rfl ?_
  refine w_ild1 i67_148 ?_
  refine w_vI2 i67_149 c48 (Or.inl rfl) ⟨by decide +kernel, by decide⟩ rfl ⟨rfl, Nat.le_of_ble_eq_true rfl⟩ (K_owedBy R h12) ?_
  refine w_ri i67_152 r67 ?_
  exact ⟨rfl, rfl⟩
set_option maxHeartbeats 100000 in
theorem K_inherits_bad {d : Nat} {D : Mm} {a : Int32} (hb : badH a) : Ct (d + 6) 68 [.ref 0, .int a] D (Ex (some (.int (-1011))) D) := by
  refine ent m68 rfl rfl (ls := [.ref 0, .int a]) rfl ?_
  refine w_ild1 i68_0 ?_
  refine w_sI1 i68_1 c99 rfl  rfl ⟨rfl, Nat.le_of_ble_eq_true rfl⟩ (K_isHouse_f hb) ?_
  refine w_ineNF i68_4 (by omega) (by omega) ?_
  refine w_sip i68_7 ks_m1011 ?_
  refine w_ri i68_10 r68 ?_
  exact ⟨rfl, rfl⟩
set_option maxHeartbeats 100000 in
theorem K_inherits_sh {d : Nat} {D : Mm} {n : Nat} {V : Nat → Int32} (R : Rel D n V) (h12 : n ≤ 12) (ho : opV V) {j : Nat} (hj : j < 6) (hO : ¬ vOpen V j) : Ct (d + 6) 68 [.ref 0, .int (nI j)] D (Ex (some (.int (-1015))) D) := by
  refine ent m68 rfl rfl (ls := [.ref 0, .int (nI j)]) rfl ?_
  refine w_ild1 i68_0 ?_
  refine w_sI1 i68_1 c99 rfl  rfl ⟨rfl, Nat.le_of_ble_eq_true rfl⟩ (K_isHouse_t hj) ?_
  refine w_ineNT i68_4 g68_4 (by omega) (by omega) ?_
  refine w_ald0 i68_11 ?_
  refine w_gfR i68_12 (by decide) s_0 rfl ?_
  refine w_ild1 i68_15 ?_
  refine w_vI2 i68_16 c26 (Or.inl rfl) ⟨by decide +kernel, by decide⟩ rfl ⟨rfl, Nat.le_of_ble_eq_true rfl⟩ (K_succ_no R h12 hj hO ho) ?_
  refine w_sI1 i68_19 c101 rfl  rfl ⟨rfl, Nat.le_of_ble_eq_true rfl⟩ K_orN_t ?_
  refine w_ri i68_22 r68 ?_
  exact ⟨rfl, rfl⟩
set_option maxHeartbeats 100000 in
theorem K_inherits_no {d : Nat} {D : Mm} {n : Nat} {V : Nat → Int32} (R : Rel D n V) (h12 : n ≤ 12) (ho : opV V) (hh : okHr V) {j : Nat} (hj : j < 6) (hO : vOpen V j) (he : vSucc V j = none) : Ct (d + 6) 68 [.ref 0, .int (nI j)] D (Ex (some (.int (-1015))) D) := by
  refine ent m68 rfl rfl (ls := [.ref 0, .int (nI j)]) rfl ?_
  refine w_ild1 i68_0 ?_
  refine w_sI1 i68_1 c99 rfl  rfl ⟨rfl, Nat.le_of_ble_eq_true rfl⟩ (K_isHouse_t hj) ?_
  refine w_ineNT i68_4 g68_4 (by omega) (by omega) ?_
  refine w_ald0 i68_11 ?_
  refine w_gfR i68_12 (by decide) s_0 rfl ?_
  refine w_ild1 i68_15 ?_
  refine w_vG2 i68_16 c26 (Or.inl rfl) ⟨by decide +kernel, by decide⟩ rfl ⟨rfl, Nat.le_of_ble_eq_true rfl⟩ ?_
  refine K_succ R h12 hj hO ho hh ?_
  rw [he]
  refine w_sI1 i68_19 c101 rfl  rfl ⟨rfl, Nat.le_of_ble_eq_true rfl⟩ K_orN_t ?_
  refine w_ri i68_22 r68 ?_
  exact ⟨rfl, rfl⟩
set_option maxHeartbeats 100000 in
theorem K_inherits {d : Nat} {D : Mm} {r : Nat} {n : Nat} {V : Nat → Int32} (R : Rel D n V) (h12 : n ≤ 12) (ho : opV V) (hh : okHr V) {j : Nat} (hj : j < 6) (hO : vOpen V j) (he : vSucc V j = some r) : Ct (d + 6) 68 [.ref 0, .int (nI j)] D (Ex (some (.int (nI r))) D) := by
  have hr := vSucc_lt hh hj he
  refine ent m68 rfl rfl (ls := [.ref 0, .int (nI j)]) rfl ?_
  refine w_ild1 i68_0 ?_
  refine w_sI1 i68_1 c99 rfl  rfl ⟨rfl, Nat.le_of_ble_eq_true rfl⟩ (K_isHouse_t hj) ?_
  refine w_ineNT i68_4 g68_4 (by omega) (by omega) ?_
  refine w_ald0 i68_11 ?_
  refine w_gfR i68_12 (by decide) s_0 rfl ?_
  refine w_ild1 i68_15 ?_
  refine w_vG2 i68_16 c26 (Or.inl rfl) ⟨by decide +kernel, by decide⟩ rfl ⟨rfl, Nat.le_of_ble_eq_true rfl⟩ ?_
  refine K_succ R h12 hj hO ho hh ?_
  rw [he]
  refine w_sI1 i68_19 c101 rfl  rfl ⟨rfl, Nat.le_of_ble_eq_true rfl⟩ (K_orN_f (fun e => ne1 (by omega) e.symm)) ?_
  refine w_ri i68_22 r68 ?_
  exact ⟨rfl, rfl⟩
set_option maxHeartbeats 100000 in
theorem K_weight_bad {d : Nat} {D : Mm} {a : Int32} (hb : badH a) : Ct (d + 6) 70 [.ref 0, .int a] D (Ex (some (.int (-1011))) D) := by
  refine ent m70 rfl rfl (ls := [.ref 0, .int a]) rfl ?_
  refine w_ild1 i70_0 ?_
  refine w_sI1 i70_1 c99 rfl  rfl ⟨rfl, Nat.le_of_ble_eq_true rfl⟩ (K_isHouse_f hb) ?_
  refine w_ieqNT i70_4 g70_4 (by omega) (by omega) ?_
  refine w_sip i70_21 ks_m1011 ?_
  refine w_ri i70_24 r70 ?_
  exact ⟨rfl, rfl⟩
set_option maxHeartbeats 100000 in
theorem K_weight {d : Nat} {D : Mm} {n : Nat} {V : Nat → Int32} (R : Rel D n V) (h12 : n ≤ 12) {j : Nat} (hj : j < 6) : Ct (d + 6) 70 [.ref 0, .int (nI j)] D (Ex (some (.int (mTray n V (nI j)))) D) := by
  refine ent m70 rfl rfl (ls := [.ref 0, .int (nI j)]) rfl ?_
  refine w_ild1 i70_0 ?_
  refine w_sI1 i70_1 c99 rfl  rfl ⟨rfl, Nat.le_of_ble_eq_true rfl⟩ (K_isHouse_t hj) ?_
  refine w_ieqNF i70_4 (by omega) (by omega) ?_
  refine w_ald0 i70_7 ?_
  refine w_gfR i70_8 (by decide) s_0 rfl ?_
  refine w_gfR i70_11 (by decide) s_1 rfl ?_
  refine w_ild1 i70_14 ?_
  refine w_vI2 i70_15 c43 (Or.inl rfl) ⟨by decide +kernel, by decide⟩ rfl ⟨rfl, Nat.le_of_ble_eq_true rfl⟩ (K_weightOn R h12) ?_
  refine w_goto i70_18 g70_18 ?_
  refine w_ri i70_24 r70 ?_
  exact ⟨rfl, rfl⟩
noncomputable def wbo (n : Nat) (V : Nat → Int32) (h : Int32) : Int32 := subN (mOfAll n V 1 + nI (n * 1)) (fun o => ifp (nI o = h) (nI 0) (mTray n V (nI o))) 6
set_option maxHeartbeats 100000 in
theorem K_wbo {d : Nat} {D : Mm} {n : Nat} {V : Nat → Int32} (R : Rel D n V) (h12 : n ≤ 12) {h : Int32} : Ct (d + 2) 44 [.ref 2, .int h] D (Ex (some (.int (wbo n V h))) D) := by
  refine ent m44 rfl rfl (ls := [.ref 2, .int h, .retAddr 0, .retAddr 0]) rfl ?_
  refine w_ald0 i44_0 ?_
  refine w_vI1 i44_1 c50 (Or.inl rfl) ⟨by decide +kernel, by decide⟩ rfl ⟨rfl, Nat.le_of_ble_eq_true rfl⟩ (K_allWax R h12) ?_
  refine w_ald0 i44_4 ?_
  refine w_gfI i44_5 (by decide) s_2 rfl R.ct ?_
  refine w_const i44_8 kc_1 ?_
  refine w_imul i44_9 (nI_mul _ _) ?_
  refine w_iadd i44_10 rfl ?_
  refine w_ist2 i44_11 ?_
  refine w_const i44_12 kc_0 ?_
  refine w_ist3 i44_13 ?_
  refine down0 (n := 6) (P := fun i => Wp _ _ _ 14 [.ref 2, .int h, .int (subN (mOfAll n V 1 + nI (n * 1)) (fun o => ifp (nI o = h) (nI 0) (mTray n V (nI o))) i), .int (nI i)] [] D) ?_ ?_
  · skip
    refine w_ild3 i44_14 ?_
    refine w_bip i44_15 kb_6 ?_
    refine w_cgeNT i44_17 g44_17 (by omega) (by omega) (by omega) ?_
    refine w_ild2 i44_43 ?_
    refine w_ri i44_44 r44 ?_
    exact ⟨rfl, rfl⟩
  · intro i hi ih
    refine w_ild3 i44_14 ?_
    refine w_bip i44_15 kb_6 ?_
    refine w_cgeNF i44_17 (by omega) (by omega) (by omega) ?_
    refine w_ild2 i44_20 ?_
    refine w_ild3 i44_21 ?_
    refine w_ild1 i44_22 ?_
    refine w_cne i44_23 g44_23  (fun h23 => ?_) (fun h23 => ?_)
    · skip
      refine w_ald0 i44_30 ?_
      refine w_ild3 i44_31 ?_
      refine w_vI2 i44_32 c43 (Or.inl rfl) ⟨by decide +kernel, by decide⟩ rfl ⟨rfl, Nat.le_of_ble_eq_true rfl⟩ (K_weightOn R h12) ?_
      refine w_isub i44_35 rfl ?_
      refine w_ist2 i44_36 ?_
      refine w_inc3 i44_37 (inc1 _) ?_
      refine w_goto i44_40 g44_40 ?_
      rw [subN] at ih
      first | (rw [ifp_t h23] at ih; exact ih) | (rw [ifp_f h23] at ih; exact ih)
    · skip
      refine w_const i44_26 kc_0 ?_
      refine w_goto i44_27 g44_27 ?_
      refine w_isub i44_35 rfl ?_
      refine w_ist2 i44_36 ?_
      refine w_inc3 i44_37 (inc1 _) ?_
      refine w_goto i44_40 g44_40 ?_
      rw [subN] at ih
      first | (rw [ifp_t h23] at ih; exact ih) | (rw [ifp_f h23] at ih; exact ih)
set_option maxHeartbeats 100000 in
theorem K_weightA_bad {d : Nat} {D : Mm} {a : Int32} (hb : badH a) : Ct (d + 7) 71 [.ref 0, .int a] D (Ex (some (.int (-1011))) D) := by
  refine ent m71 rfl rfl (ls := [.ref 0, .int a]) rfl ?_
  refine w_ild1 i71_0 ?_
  refine w_sI1 i71_1 c99 rfl  rfl ⟨rfl, Nat.le_of_ble_eq_true rfl⟩ (K_isHouse_f hb) ?_
  refine w_ieqNT i71_4 g71_4 (by omega) (by omega) ?_
  refine w_sip i71_21 ks_m1011 ?_
  refine w_ri i71_24 r71 ?_
  exact ⟨rfl, rfl⟩
set_option maxHeartbeats 100000 in
theorem K_weightA {d : Nat} {D : Mm} {n : Nat} {V : Nat → Int32} (R : Rel D n V) (h12 : n ≤ 12) {j : Nat} (hj : j < 6) : Ct (d + 7) 71 [.ref 0, .int (nI j)] D (Ex (some (.int (wbo n V (nI j)))) D) := by
  refine ent m71 rfl rfl (ls := [.ref 0, .int (nI j)]) rfl ?_
  refine w_ild1 i71_0 ?_
  refine w_sI1 i71_1 c99 rfl  rfl ⟨rfl, Nat.le_of_ble_eq_true rfl⟩ (K_isHouse_t hj) ?_
  refine w_ieqNF i71_4 (by omega) (by omega) ?_
  refine w_ald0 i71_7 ?_
  refine w_gfR i71_8 (by decide) s_0 rfl ?_
  refine w_gfR i71_11 (by decide) s_1 rfl ?_
  refine w_ild1 i71_14 ?_
  refine w_vI2 i71_15 c44 (Or.inl rfl) ⟨by decide +kernel, by decide⟩ rfl ⟨rfl, Nat.le_of_ble_eq_true rfl⟩ (K_wbo R h12) ?_
  refine w_goto i71_18 g71_18 ?_
  refine w_ri i71_24 r71 ?_
  exact ⟨rfl, rfl⟩
noncomputable def tmS (V : Nat → Int32) (h : Int32) (w : Int32) : Nat → Int32 × Nat
  | 0 => (w, 0)
  | s + 1 => ifp (V (30 + 8 * s + 0) = h) (ifp ((tmS V h w s).1 + (V (30 + 8 * s + 1) + nI 1) ≤ nI 60) ((tmS V h w s).1 + (V (30 + 8 * s + 1) + nI 1), (tmS V h w s).2) ((tmS V h w s).1, (tmS V h w s).2 + 1)) (tmS V h w s)
theorem tmS_s {V : Nat → Int32} {h w : Int32} {s : Nat} : tmS V h w (s + 1) = ifp (V (30 + 8 * s + 0) = h) (ifp ((tmS V h w s).1 + (V (30 + 8 * s + 1) + nI 1) ≤ nI 60) ((tmS V h w s).1 + (V (30 + 8 * s + 1) + nI 1), (tmS V h w s).2) ((tmS V h w s).1, (tmS V h w s).2 + 1)) (tmS V h w s) := rfl
set_option maxHeartbeats 100000 in
theorem K_tooMany {d : Nat} {D : Mm} {n : Nat} {V : Nat → Int32} (R : Rel D n V) (h12 : n ≤ 12) {h r : Int32} : Ct (d + 2) 45 [.ref 2, .int h, .int r] D (Ex (some (.int (nI (tmS V h (mTray n V r) n).2))) D) := by
  refine ent m45 rfl rfl (ls := [.ref 2, .int h, .int r, .retAddr 0, .retAddr 0, .retAddr 0, .retAddr 0]) rfl ?_
  refine w_ald0 i45_0 ?_
  refine w_ild2 i45_1 ?_
  refine w_vI2 i45_2 c43 (Or.inl rfl) ⟨by decide +kernel, by decide⟩ (by repeat (first | exact nv_nil | refine nv_cons (by first | rfl | assumption) ?_)) ⟨rfl, Nat.le_of_ble_eq_true rfl⟩ (K_weightOn R h12) ?_
  refine w_ist3 i45_5 ?_
  refine w_const i45_6 kc_0 ?_
  refine w_ist4 i45_7 ?_
  refine w_const i45_9 kc_0 ?_
  refine w_ist5 i45_10 ?_
  refine down0 (n := n) (P := fun i => ∀ (x : Value), nvB x = true → Wp _ _ _ 12 [.ref 2, .int h, .int r, .int (tmS V h (mTray n V r) i).1, .int (nI (tmS V h (mTray n V r) i).2), .int (nI i), x] [] D) ?_ ?_ _ (by first | rfl | assumption)
  · intro x hx
    refine w_ild5 i45_12 ?_
    refine w_ald0 i45_14 ?_
    refine w_gfI i45_15 (by decide) s_2 rfl R.ct ?_
    refine w_cgeNT i45_18 g45_18 (by omega) (by omega) (by omega) ?_
    refine w_ild4 i45_69 ?_
    refine w_ri i45_71 r45 ?_
    exact ⟨rfl, rfl⟩
  · intro i hi ih x hx
    refine w_ild5 i45_12 ?_
    refine w_ald0 i45_14 ?_
    refine w_gfI i45_15 (by decide) s_2 rfl R.ct ?_
    refine w_cgeNF i45_18 (by omega) (by omega) (by omega) ?_
    refine w_ald0 i45_21 ?_
    refine w_gfR i45_22 (by decide) s_2 rfl ?_
    refine w_ild5 i45_25 ?_
    refine w_ial i45_27 s_3 (by decide) (by omega) (R.c3 (by assumption)) ?_
    refine w_ild1 i45_28 ?_
    refine w_cne i45_29 g45_29  (fun h29 => ?_) (fun h29 => ?_)
    · skip
      refine w_inc5 i45_63 (inc1 _) ?_
      refine w_goto i45_66 g45_66 ?_
      rw [tmS_s] at ih
      first | (rw [ifp_f h29] at ih; exact ih _ (by first | rfl | assumption)) | (rw [ifp_t h29, ifp_t h49] at ih; exact ih _ (by first | rfl | assumption)) | (rw [ifp_t h29, ifp_f (Int32.not_le.mpr h49)] at ih; exact ih _ (by first | rfl | assumption))
    · skip
      refine w_ald0 i45_32 ?_
      refine w_gfR i45_33 (by decide) s_2 rfl ?_
      refine w_ild5 i45_36 ?_
      refine w_ial i45_38 s_4 (by decide) (by omega) (R.c4 (by assumption)) ?_
      refine w_const i45_39 kc_1 ?_
      refine w_iadd i45_40 rfl ?_
      refine w_ist6 i45_41 ?_
      refine w_ild3 i45_43 ?_
      refine w_ild6 i45_44 ?_
      refine w_iadd i45_46 rfl ?_
      refine w_bip i45_47 kb_60 ?_
      refine w_cgt i45_49 g45_49  (fun h49 => ?_) (fun h49 => ?_)
      · skip
        refine w_inc4 i45_60 (inc1 _) ?_
        refine w_inc5 i45_63 (inc1 _) ?_
        refine w_goto i45_66 g45_66 ?_
        rw [tmS_s] at ih
        first | (rw [ifp_f h29] at ih; exact ih _ (by first | rfl | assumption)) | (rw [ifp_t h29, ifp_t h49] at ih; exact ih _ (by first | rfl | assumption)) | (rw [ifp_t h29, ifp_f (Int32.not_le.mpr h49)] at ih; exact ih _ (by first | rfl | assumption))
      · skip
        refine w_ild3 i45_52 ?_
        refine w_ild6 i45_53 ?_
        refine w_iadd i45_55 rfl ?_
        refine w_ist3 i45_56 ?_
        refine w_goto i45_57 g45_57 ?_
        refine w_inc5 i45_63 (inc1 _) ?_
        refine w_goto i45_66 g45_66 ?_
        rw [tmS_s] at ih
        first | (rw [ifp_f h29] at ih; exact ih _ (by first | rfl | assumption)) | (rw [ifp_t h29, ifp_t h49] at ih; exact ih _ (by first | rfl | assumption)) | (rw [ifp_t h29, ifp_f (Int32.not_le.mpr h49)] at ih; exact ih _ (by first | rfl | assumption))
set_option maxHeartbeats 100000 in
theorem K_melt_bad {d : Nat} {D : Mm} {a : Int32} (hb : badH a) : Ct (d + 6) 69 [.ref 0, .int a] D (Ex (some (.int (-1011))) D) := by
  refine ent m69 rfl rfl (ls := [.ref 0, .int a, .retAddr 0]) rfl ?_
  refine w_ild1 i69_0 ?_
  refine w_sI1 i69_1 c99 rfl  rfl ⟨rfl, Nat.le_of_ble_eq_true rfl⟩ (K_isHouse_f hb) ?_
  refine w_ineNF i69_4 (by omega) (by omega) ?_
  refine w_sip i69_7 ks_m1011 ?_
  refine w_ri i69_10 r69 ?_
  exact ⟨rfl, rfl⟩
set_option maxHeartbeats 100000 in
theorem K_melt_sh {d : Nat} {D : Mm} {n : Nat} {V : Nat → Int32} (R : Rel D n V) (h12 : n ≤ 12) (ho : opV V) {j : Nat} (hj : j < 6) (hO : ¬ vOpen V j) : Ct (d + 6) 69 [.ref 0, .int (nI j)] D (Ex (some (.int (-1015))) D) := by
  refine ent m69 rfl rfl (ls := [.ref 0, .int (nI j), .retAddr 0]) rfl ?_
  refine w_ild1 i69_0 ?_
  refine w_sI1 i69_1 c99 rfl  rfl ⟨rfl, Nat.le_of_ble_eq_true rfl⟩ (K_isHouse_t hj) ?_
  refine w_ineNT i69_4 g69_4 (by omega) (by omega) ?_
  refine w_ald0 i69_11 ?_
  refine w_gfR i69_12 (by decide) s_0 rfl ?_
  refine w_ild1 i69_15 ?_
  refine w_vI2 i69_16 c26 (Or.inl rfl) ⟨by decide +kernel, by decide⟩ rfl ⟨rfl, Nat.le_of_ble_eq_true rfl⟩ (K_succ_no R h12 hj hO ho) ?_
  refine w_ist2 i69_19 ?_
  refine w_ild2 i69_20 ?_
  refine w_const i69_21 kc_m1 ?_
  refine w_cneF i69_22  rfl ?_
  refine w_sip i69_25 ks_m1015 ?_
  refine w_goto i69_28 g69_28 ?_
  refine w_ri i69_43 r69 ?_
  exact ⟨rfl, rfl⟩
set_option maxHeartbeats 100000 in
theorem K_melt_no {d : Nat} {D : Mm} {n : Nat} {V : Nat → Int32} (R : Rel D n V) (h12 : n ≤ 12) (ho : opV V) (hh : okHr V) {j : Nat} (hj : j < 6) (hO : vOpen V j) (he : vSucc V j = none) : Ct (d + 6) 69 [.ref 0, .int (nI j)] D (Ex (some (.int (-1015))) D) := by
  refine ent m69 rfl rfl (ls := [.ref 0, .int (nI j), .retAddr 0]) rfl ?_
  refine w_ild1 i69_0 ?_
  refine w_sI1 i69_1 c99 rfl  rfl ⟨rfl, Nat.le_of_ble_eq_true rfl⟩ (K_isHouse_t hj) ?_
  refine w_ineNT i69_4 g69_4 (by omega) (by omega) ?_
  refine w_ald0 i69_11 ?_
  refine w_gfR i69_12 (by decide) s_0 rfl ?_
  refine w_ild1 i69_15 ?_
  refine w_vG2 i69_16 c26 (Or.inl rfl) ⟨by decide +kernel, by decide⟩ rfl ⟨rfl, Nat.le_of_ble_eq_true rfl⟩ ?_
  refine K_succ R h12 hj hO ho hh ?_
  rw [he]
  refine w_ist2 i69_19 ?_
  refine w_ild2 i69_20 ?_
  refine w_const i69_21 kc_m1 ?_
  refine w_cneF i69_22  rfl ?_
  refine w_sip i69_25 ks_m1015 ?_
  refine w_goto i69_28 g69_28 ?_
  refine w_ri i69_43 r69 ?_
  exact ⟨rfl, rfl⟩
set_option maxHeartbeats 100000 in
theorem K_melt {d : Nat} {D : Mm} {r : Nat} {n : Nat} {V : Nat → Int32} (R : Rel D n V) (h12 : n ≤ 12) (ho : opV V) (hh : okHr V) {j : Nat} (hj : j < 6) (hO : vOpen V j) (he : vSucc V j = some r) : Ct (d + 6) 69 [.ref 0, .int (nI j)] D (Ex (some (.int (nI (tmS V (nI j) (mTray n V (nI r)) n).2))) D) := by
  have hr := vSucc_lt hh hj he
  refine ent m69 rfl rfl (ls := [.ref 0, .int (nI j), .retAddr 0]) rfl ?_
  refine w_ild1 i69_0 ?_
  refine w_sI1 i69_1 c99 rfl  rfl ⟨rfl, Nat.le_of_ble_eq_true rfl⟩ (K_isHouse_t hj) ?_
  refine w_ineNT i69_4 g69_4 (by omega) (by omega) ?_
  refine w_ald0 i69_11 ?_
  refine w_gfR i69_12 (by decide) s_0 rfl ?_
  refine w_ild1 i69_15 ?_
  refine w_vG2 i69_16 c26 (Or.inl rfl) ⟨by decide +kernel, by decide⟩ rfl ⟨rfl, Nat.le_of_ble_eq_true rfl⟩ ?_
  refine K_succ R h12 hj hO ho hh ?_
  rw [he]
  refine w_ist2 i69_19 ?_
  refine w_ild2 i69_20 ?_
  refine w_const i69_21 kc_m1 ?_
  refine w_cneT i69_22 g69_22  (fun e => ne1 (by omega) e.symm) ?_
  refine w_ald0 i69_31 ?_
  refine w_gfR i69_32 (by decide) s_0 rfl ?_
  refine w_gfR i69_35 (by decide) s_1 rfl ?_
  refine w_ild1 i69_38 ?_
  refine w_ild2 i69_39 ?_
  refine w_vI3 i69_40 c45 (Or.inl rfl) ⟨by decide +kernel, by decide⟩ rfl ⟨rfl, Nat.le_of_ble_eq_true rfl⟩ (K_tooMany R h12) ?_
  refine w_ri i69_43 r69 ?_
  exact ⟨rfl, rfl⟩
