/-! the law's parts -/
theorem FrS.trr {D D2 D3 : Mm} (h : FrS D D2) (g : FrS D2 D3) : FrS D D3 := fun q a b c => (g q a b c).trans (h q a b c)
theorem shD_clm {n B : Nat} {V : Nat → Int32} (H : IV n V B) (hB : B ≤ 20000) : shD n V (sN6 6 (poc V)) (clmN n V) := by
  obtain ⟨c, h⟩ := H.shD hB
  have e : ∀ i, i < 6 → c i = clmN n V i := fun i hi => by
    have hc : c i < 2147483648 := Nat.lt_of_le_of_lt (c_le hi) h.2.2.2.1
    unfold clmN
    rw [h.2.1 i hi, cl_nI hc]
  have e2 : sN6 6 (clmN n V) = sN6 6 c := (sN6_congr 6 e).symm
  refine ⟨h.1, fun i hi => by rw [h.2.1 i hi, e i hi], ?_, ?_, h.2.2.2.2⟩
  · rw [e2]; exact h.2.2.1
  · rw [e2]; exact h.2.2.2.1
theorem part_0 {n : Nat} {V : Nat → Int32} {h : Nat} (e : mClaims n V = 0) : vParts n V h = nI 0 := ifp_t e
theorem badH6 : badH (nI 6) := Or.inr (by decide)
def nvQ (v : Value) : Prop := (∃ x, v = .int x) ∨ ∃ x, v = .retAddr x
theorem nvQ.i (x : Int32) : nvQ (.int x) := Or.inl ⟨x, rfl⟩
theorem nvQ.r (x : Nat) : nvQ (.retAddr x) := Or.inr ⟨x, rfl⟩
theorem nvQ.nv {v : Value} {D : Mm} (h : nvQ v) : nvV D v := by
  rcases h with ⟨x, rfl⟩ | ⟨x, rfl⟩ <;> exact True.intro
set_option maxHeartbeats 1000000 in
theorem K_parts0 {d : Nat} {D : Mm} {Q : Option Value → Mm → Prop} {n B P : Nat} {V : Nat → Int32} (R : Rel D n V) (H : IV n V B) (hB : B ≤ 20000) (hP : P = sN6 6 (poc V)) (hC : mClaims n V = 0) (hq : ∀ D2, FrS D D2 → Q (some (.int (nI 1))) D2) : Ct (d + 8) 115 [.ref 0, .int (nI P), .int (nI 0)] D Q := by
  obtain ⟨Db, eDb⟩ : ∃ Db, Db = D := ⟨_, rfl⟩
  have R0 : Rel Db n V := by rw [eDb]; exact R
  have hq : ∀ D2, FrS Db D2 → Q (some (.int (nI 1))) D2 := fun D2 f => hq D2 (by rw [← eDb]; exact f)
  have h12 := H.2.1
  have ho := H.op
  have hS := (H.hc (by omega)).2.2.2.2.2.2.1
  have HD := shD_clm H hB
  rw [← hP] at HD
  have hcl : ∀ {D : Mm} {j : Nat}, Rel D n V → j < 6 → Ct (d + 7) 67 [.ref 0, .int (nI j), .int (nI 4)] D (Ex (some (.int (nI (clmN n V j)))) D) := fun {D} {j} R hj => by
    rw [← HD.2.1 j hj]
    exact K_houseOf_4 (d := d + 1) R h12 ho hj
  
  refine ent m115 rfl rfl (ls := [.ref 0, .int (nI P), .int (nI 0), .retAddr 0, .retAddr 0, .retAddr 0, .retAddr 0, .retAddr 0, .retAddr 0, .retAddr 0, .retAddr 0]) rfl ?_
  refine w_const i115_0 kc_0 ?_
  refine w_ist3 i115_1 ?_
  refine w_const i115_2 kc_0 ?_
  refine w_ist4 i115_3 ?_
  have L5 : ∀ k h, h + k = 6 → ∀ (D2 : Mm) (u5 u6 u7 u8 u9 u10 : Value), nvQ u5 → nvQ u6 → nvQ u7 → nvQ u8 → nvQ u9 → nvQ u10 → FrS Db D2 → Wp (d + 7) 115 Q 5 [.ref 0, .int (nI P), .int (nI 0), .int (nI 0), .int (nI h), u5, u6, u7, u8, u9, u10] [] D2 := by
    intro k
    induction k with
    | zero =>
      intro h hk D u5 u6 u7 u8 u9 u10 n5 n6 n7 n8 n9 n10 F
      have hu5 := n5.nv (D := D)
      have hu6 := n6.nv (D := D)
      have hu7 := n7.nv (D := D)
      have hu8 := n8.nv (D := D)
      have hu9 := n9.nv (D := D)
      have hu10 := n10.nv (D := D)
      have R := R0.frS F
      have e6 : h = 6 := hk
      subst e6
      refine w_ild4 i115_5 ?_
      refine w_bip i115_7 kb_6 ?_
      refine w_cgeNT i115_9 g115_9 (by omega) (by omega) (Nat.le_refl _) ?_
      refine w_ild3 i115_205 ?_
      refine w_ild2 i115_206 ?_
      refine w_ineNF i115_207 (by omega) rfl ?_
      refine w_const i115_210 kc_0 ?_
      refine w_goto i115_211 g115_211 ?_
      refine w_cneNF i115_215 (by omega) (by omega) rfl ?_
      refine w_ald0 i115_218 ?_
      refine w_bip i115_219 kb_6 ?_
      refine w_VD2 i115_221 c61 (Or.inl rfl) (Or.inl ⟨by decide +kernel, by decide⟩) (by repeat (first | exact nvL_nil | refine nvL_cons (by first | exact True.intro | exact nvSt (by decide) | exact n5.nv | exact n6.nv | exact n7.nv | exact n8.nv | exact n9.nv | exact n10.nv | exact nvK (by omega) (by omega)) ?_)) ⟨(by repeat (first | exact nvL_nil | refine nvL_cons (by first | exact True.intro | exact nvSt (by decide) | exact n5.nv | exact n6.nv | exact n7.nv | exact n8.nv | exact n9.nv | exact n10.nv | exact nvK (by omega) (by omega)) ?_)), rfl, Nat.le_of_ble_eq_true rfl⟩ (Ex_go (K_part_bad badH6) ?_)
      refine w_sip i115_224 ks_m1011 ?_
      refine w_cneF i115_227  rfl ?_
      refine w_const i115_230 kc_1 ?_
      refine w_goto i115_231 g115_231 ?_
      refine w_rz i115_235 r115 nar_z1 ?_
      exact hq _ F
    | succ k ih =>
      intro h hk D u5 u6 u7 u8 u9 u10 n5 n6 n7 n8 n9 n10 F
      have hu5 := n5.nv (D := D)
      have hu6 := n6.nv (D := D)
      have hu7 := n7.nv (D := D)
      have hu8 := n8.nv (D := D)
      have hu9 := n9.nv (D := D)
      have hu10 := n10.nv (D := D)
      have R := R0.frS F
      have hh : h < 6 := by omega
      have ih5 := ih
      
      refine w_ild4 i115_5 ?_
      refine w_bip i115_7 kb_6 ?_
      refine w_cgeNF i115_9 (by omega) (by omega) (by omega) ?_
      refine w_ald0 i115_12 ?_
      refine w_ild4 i115_13 ?_
      refine w_VD2 i115_15 c61 (Or.inl rfl) (Or.inl ⟨by decide +kernel, by decide⟩) (by repeat (first | exact nvL_nil | refine nvL_cons (by first | exact True.intro | exact nvSt (by decide) | exact n5.nv | exact n6.nv | exact n7.nv | exact n8.nv | exact n9.nv | exact n10.nv | exact nvK (by omega) (by omega)) ?_)) ⟨(by repeat (first | exact nvL_nil | refine nvL_cons (by first | exact True.intro | exact nvSt (by decide) | exact n5.nv | exact n6.nv | exact n7.nv | exact n8.nv | exact n9.nv | exact n10.nv | exact nvK (by omega) (by omega)) ?_)), rfl, Nat.le_of_ble_eq_true rfl⟩ ?_
      refine K_part R h12 ho hS hh (fun D2 f => ?_)
      have F := F.trr f
      have R := R.frS f
      rw [part_0 hC]
      refine w_ist5 i115_18 ?_
      refine w_ild2 i115_20 ?_
      refine w_ineNF i115_21 (by omega) rfl ?_
      refine w_const i115_24 kc_0 ?_
      refine w_goto i115_25 g115_25 ?_
      refine w_ist6 i115_39 ?_
      refine w_ild2 i115_41 ?_
      refine w_ineNF i115_42 (by omega) rfl ?_
      refine w_const i115_45 kc_0 ?_
      refine w_goto i115_46 g115_46 ?_
      refine w_ist7 i115_60 ?_
      refine w_ild3 i115_62 ?_
      refine w_ild5 i115_63 ?_
      refine w_iadd i115_65 (nI_add _ _) ?_
      refine w_ist3 i115_66 ?_
      refine w_ald0 i115_67 ?_
      refine w_ild4 i115_68 ?_
      refine w_VD2 i115_70 c62 (Or.inl rfl) (Or.inl ⟨by decide +kernel, by decide⟩) (by repeat (first | exact nvL_nil | refine nvL_cons (by first | exact True.intro | exact nvSt (by decide) | exact n5.nv | exact n6.nv | exact n7.nv | exact n8.nv | exact n9.nv | exact n10.nv | exact nvK (by omega) (by omega)) ?_)) ⟨(by repeat (first | exact nvL_nil | refine nvL_cons (by first | exact True.intro | exact nvSt (by decide) | exact n5.nv | exact n6.nv | exact n7.nv | exact n8.nv | exact n9.nv | exact n10.nv | exact nvK (by omega) (by omega)) ?_)), rfl, Nat.le_of_ble_eq_true rfl⟩ ?_
      refine K_partA R h12 ho hS hh (fun D2 f => ?_)
      have F := F.trr f
      have R := R.frS f
      rw [part_0 hC]
      refine w_ild5 i115_73 ?_
      refine w_cneNF i115_75 (by omega) (by omega) rfl ?_
      refine w_ild5 i115_78 ?_
      refine w_ild6 i115_80 ?_
      refine w_cltNF i115_82 (by omega) (by omega) (by omega) ?_
      refine w_ild5 i115_85 ?_
      refine w_ild6 i115_87 ?_
      refine w_const i115_89 kc_1 ?_
      refine w_iadd i115_90 (nI_add _ _) ?_
      refine w_cleNT i115_91 g115_91 (by omega) (by omega) (by omega) ?_
      refine w_const i115_96 kc_0 ?_
      refine w_ist8 i115_97 ?_
      have L99 : ∀ k j, j + k = 6 → ∀ (D2 : Mm) (u9 u10 : Value), nvQ u9 → nvQ u10 → FrS Db D2 → Wp (d + 7) 115 Q 99 [.ref 0, .int (nI P), .int (nI 0), .int (nI 0), .int (nI h), .int (nI 0), .int (nI 0), .int (nI 0), .int (nI j), u9, u10] [] D2 := by
        intro k
        induction k with
        | zero =>
          intro j hj D u9 u10 n9 n10 F
          have hu9 := n9.nv (D := D)
          have hu10 := n10.nv (D := D)
          have R := R0.frS F
          have e6 : j = 6 := hj
          subst e6
          refine w_ild8 i115_99 ?_
          refine w_bip i115_101 kb_6 ?_
          refine w_cgeNT i115_103 g115_103 (by omega) (by omega) (Nat.le_refl _) ?_
          refine w_inc4 i115_199 (inc1 _) ?_
          refine w_goto i115_202 g115_202 ?_
          exact ih5 (h + 1) (by omega) D _ _ _ _ _ _ (nvQ.i _) (nvQ.i _) (nvQ.i _) (nvQ.i _) (by assumption) (by assumption) F
        | succ k ih =>
          intro j hj D u9 u10 n9 n10 F
          have hu9 := n9.nv (D := D)
          have hu10 := n10.nv (D := D)
          have R := R0.frS F
          have hj6 : j < 6 := by omega
          
          refine w_ild8 i115_99 ?_
          refine w_bip i115_101 kb_6 ?_
          refine w_cgeNF i115_103 (by omega) (by omega) (by omega) ?_
          refine w_ild5 i115_106 ?_
          refine w_ild6 i115_108 ?_
          refine w_cneNF i115_110 (by omega) (by omega) rfl ?_
          refine w_ild2 i115_113 ?_
          refine w_ineNF i115_114 (by omega) rfl ?_
          refine w_const i115_117 kc_0 ?_
          refine w_goto i115_118 g115_118 ?_
          refine w_ist9 i115_132 ?_
          refine w_ild2 i115_134 ?_
          refine w_ileNT i115_135 g115_135 (by omega) (by omega) ?_
          refine w_const i115_162 kc_0 ?_
          refine w_ist10 i115_163 ?_
          refine w_ild10 i115_165 ?_
          refine w_ieqNT i115_167 g115_167 (by omega) rfl ?_
          refine w_inc8 i115_193 (inc1 _) ?_
          refine w_goto i115_196 g115_196 ?_
          exact ih (j + 1) (by omega) _ _ _ (nvQ.i _) (nvQ.i _) F
      exact L99 6 0 (Nat.zero_add _) _ _ _ n9 n10 F
  exact L5 6 0 (Nat.zero_add _) D (.retAddr 0) (.retAddr 0) (.retAddr 0) (.retAddr 0) (.retAddr 0) (.retAddr 0) (nvQ.r _) (nvQ.r _) (nvQ.r _) (nvQ.r _) (nvQ.r _) (nvQ.r _) (by rw [eDb]; exact fun _ _ _ _ => rfl)
set_option maxHeartbeats 1000000 in
theorem K_parts1 {d : Nat} {D : Mm} {Q : Option Value → Mm → Prop} {n B P : Nat} {V : Nat → Int32} (R : Rel D n V) (H : IV n V B) (hB : B ≤ 20000) (hP : P = sN6 6 (poc V)) {C : Nat} (hC : 0 < C) (hCe : C = sN6 6 (clmN n V)) (hq : ∀ D2, FrS D D2 → Q (some (.int (nI 1))) D2) : Ct (d + 8) 115 [.ref 0, .int (nI P), .int (nI C)] D Q := by
  obtain ⟨Db, eDb⟩ : ∃ Db, Db = D := ⟨_, rfl⟩
  have R0 : Rel Db n V := by rw [eDb]; exact R
  have hq : ∀ D2, FrS Db D2 → Q (some (.int (nI 1))) D2 := fun D2 f => hq D2 (by rw [← eDb]; exact f)
  have h12 := H.2.1
  have ho := H.op
  have hS := (H.hc (by omega)).2.2.2.2.2.2.1
  have HD := shD_clm H hB
  rw [← hP] at HD
  have hcl : ∀ {D : Mm} {j : Nat}, Rel D n V → j < 6 → Ct (d + 7) 67 [.ref 0, .int (nI j), .int (nI 4)] D (Ex (some (.int (nI (clmN n V j)))) D) := fun {D} {j} R hj => by
    rw [← HD.2.1 j hj]
    exact K_houseOf_4 (d := d + 1) R h12 ho hj
  have hCs : C = sN6 6 (clmN n V) := hCe
  have hC0 : 0 < sN6 6 (clmN n V) := by rw [← hCs]; exact hC
  have hCl : C < 2147483648 := by rw [hCs]; exact HD.2.2.2.1
  obtain ⟨g, g1, g2, g3⟩ := parts_char HD hC0
  rw [← hCs] at g1 g2 g3
  obtain ⟨ex, hex⟩ : ∃ ex : Nat → Nat, ∀ h, ex h = P * clmN n V h / C := ⟨_, fun _ => rfl⟩
  obtain ⟨re, hre⟩ : ∃ re : Nat → Nat, ∀ h, re h = P * clmN n V h % C := ⟨_, fun _ => rfl⟩
  obtain ⟨z, hz⟩ : ∃ z : Nat → Nat, ∀ h, z h = ex h + g h := ⟨_, fun _ => rfl⟩
  have hpc : ∀ h, h < 6 → P * clmN n V h < 2147483648 := fun h hh => HD.a hh
  have hzv : ∀ h, h < 6 → vParts n V h = nI (z h) := fun h hh => by rw [(g1 h hh).2, hz h, hex h]
  have hPB : P ≤ 20000 := by have := SM_le H; omega
  have exl : ∀ h, h < 6 → ex h ≤ P ∧ re h < 2147483648 := fun h hh => by
    rw [hex, hre]
    have := Nat.mod_lt (P * clmN n V h) hC
    refine ⟨Nat.div_le_of_le_mul ?_, by omega⟩
    rw [Nat.mul_comm C P, hCs]
    exact Nat.mul_le_mul_left P (c_le hh)
  have hzs : sN6 6 z = P := by
    obtain ⟨z2, q1, q2⟩ := HD.sum hC0
    rw [← q2]
    refine sN6_congr 6 (fun i hi => ?_)
    have e := (hzv i hi).symm.trans (q1 i hi)
    have l1 := sN6_elt (f := z2) 6 hi
    have l2 := exl i hi
    have l3 := (g1 i hi).1
    have l4 := hz i
    have l5 := HD.2.2.2.2
    exact (nI_inj (by omega) (by omega) e).symm
  have dv0 : ¬ nI C = 0 := fun e => by have := (nI_eq0 hCl).mp e; omega
  have hdv : ∀ h, h < 6 → nI (P * clmN n V h) / nI C = nI (ex h) := fun h hh => by rw [nI_div (hpc h hh) hCl, hex]
  have hrm : ∀ h, h < 6 → nI (P * clmN n V h) - nI (P * clmN n V h) / nI C * nI C = nI (re h) := fun h hh => by rw [nI_mod (hpc h hh) hCl, hre]
  
  refine ent m115 rfl rfl (ls := [.ref 0, .int (nI P), .int (nI C), .retAddr 0, .retAddr 0, .retAddr 0, .retAddr 0, .retAddr 0, .retAddr 0, .retAddr 0, .retAddr 0]) rfl ?_
  refine w_const i115_0 kc_0 ?_
  refine w_ist3 i115_1 ?_
  refine w_const i115_2 kc_0 ?_
  refine w_ist4 i115_3 ?_
  have L5 : ∀ k h, h + k = 6 → ∀ (D2 : Mm) (u5 u6 u7 u8 u9 u10 : Value), nvQ u5 → nvQ u6 → nvQ u7 → nvQ u8 → nvQ u9 → nvQ u10 → FrS Db D2 → Wp (d + 7) 115 Q 5 [.ref 0, .int (nI P), .int (nI C), .int (nI (sN6 h z)), .int (nI h), u5, u6, u7, u8, u9, u10] [] D2 := by
    intro k
    induction k with
    | zero =>
      intro h hk D u5 u6 u7 u8 u9 u10 n5 n6 n7 n8 n9 n10 F
      have hu5 := n5.nv (D := D)
      have hu6 := n6.nv (D := D)
      have hu7 := n7.nv (D := D)
      have hu8 := n8.nv (D := D)
      have hu9 := n9.nv (D := D)
      have hu10 := n10.nv (D := D)
      have R := R0.frS F
      have e6 : h = 6 := hk
      subst e6
      refine w_ild4 i115_5 ?_
      refine w_bip i115_7 kb_6 ?_
      refine w_cgeNT i115_9 g115_9 (by omega) (by omega) (Nat.le_refl _) ?_
      refine w_ild3 i115_205 ?_
      refine w_ild2 i115_206 ?_
      refine w_ineNT i115_207 g115_207 (by omega) (by omega) ?_
      refine w_ild1 i115_214 ?_
      refine w_cneF i115_215  (by rw [hzs]) ?_
      refine w_ald0 i115_218 ?_
      refine w_bip i115_219 kb_6 ?_
      refine w_VD2 i115_221 c61 (Or.inl rfl) (Or.inl ⟨by decide +kernel, by decide⟩) (by repeat (first | exact nvL_nil | refine nvL_cons (by first | exact True.intro | exact nvSt (by decide) | exact n5.nv | exact n6.nv | exact n7.nv | exact n8.nv | exact n9.nv | exact n10.nv | exact nvK (by omega) (by omega)) ?_)) ⟨(by repeat (first | exact nvL_nil | refine nvL_cons (by first | exact True.intro | exact nvSt (by decide) | exact n5.nv | exact n6.nv | exact n7.nv | exact n8.nv | exact n9.nv | exact n10.nv | exact nvK (by omega) (by omega)) ?_)), rfl, Nat.le_of_ble_eq_true rfl⟩ (Ex_go (K_part_bad badH6) ?_)
      refine w_sip i115_224 ks_m1011 ?_
      refine w_cneF i115_227  rfl ?_
      refine w_const i115_230 kc_1 ?_
      refine w_goto i115_231 g115_231 ?_
      refine w_rz i115_235 r115 nar_z1 ?_
      exact hq _ F
    | succ k ih =>
      intro h hk D u5 u6 u7 u8 u9 u10 n5 n6 n7 n8 n9 n10 F
      have hu5 := n5.nv (D := D)
      have hu6 := n6.nv (D := D)
      have hu7 := n7.nv (D := D)
      have hu8 := n8.nv (D := D)
      have hu9 := n9.nv (D := D)
      have hu10 := n10.nv (D := D)
      have R := R0.frS F
      have hh : h < 6 := by omega
      have ih5 := ih
      have zh := hz h
      have gh := (g1 h hh).1
      have el := exl h hh
      have zl : z h < 2147483648 := by
        have := sN6_elt (f := z) 6 hh
        have := HD.2.2.2.2
        omega
      
      refine w_ild4 i115_5 ?_
      refine w_bip i115_7 kb_6 ?_
      refine w_cgeNF i115_9 (by omega) (by omega) (by omega) ?_
      refine w_ald0 i115_12 ?_
      refine w_ild4 i115_13 ?_
      refine w_VD2 i115_15 c61 (Or.inl rfl) (Or.inl ⟨by decide +kernel, by decide⟩) (by repeat (first | exact nvL_nil | refine nvL_cons (by first | exact True.intro | exact nvSt (by decide) | exact n5.nv | exact n6.nv | exact n7.nv | exact n8.nv | exact n9.nv | exact n10.nv | exact nvK (by omega) (by omega)) ?_)) ⟨(by repeat (first | exact nvL_nil | refine nvL_cons (by first | exact True.intro | exact nvSt (by decide) | exact n5.nv | exact n6.nv | exact n7.nv | exact n8.nv | exact n9.nv | exact n10.nv | exact nvK (by omega) (by omega)) ?_)), rfl, Nat.le_of_ble_eq_true rfl⟩ ?_
      refine K_part R h12 ho hS hh (fun D2 f => ?_)
      have F := F.trr f
      have R := R.frS f
      rw [hzv _ hh]
      refine w_ist5 i115_18 ?_
      refine w_ild2 i115_20 ?_
      refine w_ineNT i115_21 g115_21 (by omega) (by omega) ?_
      refine w_ild1 i115_28 ?_
      refine w_ald0 i115_29 ?_
      refine w_ild4 i115_30 ?_
      refine w_const i115_32 kc_4 ?_
      refine w_VD3 i115_33 c67 (Or.inl rfl) (Or.inl ⟨by decide +kernel, by decide⟩) (by repeat (first | exact nvL_nil | refine nvL_cons (by first | exact True.intro | exact nvSt (by decide) | exact n5.nv | exact n6.nv | exact n7.nv | exact n8.nv | exact n9.nv | exact n10.nv | exact nvK (by omega) (by omega)) ?_)) ⟨(by repeat (first | exact nvL_nil | refine nvL_cons (by first | exact True.intro | exact nvSt (by decide) | exact n5.nv | exact n6.nv | exact n7.nv | exact n8.nv | exact n9.nv | exact n10.nv | exact nvK (by omega) (by omega)) ?_)), rfl, Nat.le_of_ble_eq_true rfl⟩ (Ex_go (hcl R hh) ?_)
      refine w_imul i115_36 (nI_mul _ _) ?_
      refine w_ild2 i115_37 ?_
      refine w_idiv i115_38 dv0 (hdv _ hh) ?_
      refine w_ist6 i115_39 ?_
      refine w_ild2 i115_41 ?_
      refine w_ineNT i115_42 g115_42 (by omega) (by omega) ?_
      refine w_ild1 i115_49 ?_
      refine w_ald0 i115_50 ?_
      refine w_ild4 i115_51 ?_
      refine w_const i115_53 kc_4 ?_
      refine w_VD3 i115_54 c67 (Or.inl rfl) (Or.inl ⟨by decide +kernel, by decide⟩) (by repeat (first | exact nvL_nil | refine nvL_cons (by first | exact True.intro | exact nvSt (by decide) | exact n5.nv | exact n6.nv | exact n7.nv | exact n8.nv | exact n9.nv | exact n10.nv | exact nvK (by omega) (by omega)) ?_)) ⟨(by repeat (first | exact nvL_nil | refine nvL_cons (by first | exact True.intro | exact nvSt (by decide) | exact n5.nv | exact n6.nv | exact n7.nv | exact n8.nv | exact n9.nv | exact n10.nv | exact nvK (by omega) (by omega)) ?_)), rfl, Nat.le_of_ble_eq_true rfl⟩ (Ex_go (hcl R hh) ?_)
      refine w_imul i115_57 (nI_mul _ _) ?_
      refine w_ild2 i115_58 ?_
      refine w_irem i115_59 dv0 (hrm _ hh) ?_
      refine w_ist7 i115_60 ?_
      refine w_ild3 i115_62 ?_
      refine w_ild5 i115_63 ?_
      refine w_iadd i115_65 (nI_add _ _) ?_
      refine w_ist3 i115_66 ?_
      refine w_ald0 i115_67 ?_
      refine w_ild4 i115_68 ?_
      refine w_VD2 i115_70 c62 (Or.inl rfl) (Or.inl ⟨by decide +kernel, by decide⟩) (by repeat (first | exact nvL_nil | refine nvL_cons (by first | exact True.intro | exact nvSt (by decide) | exact n5.nv | exact n6.nv | exact n7.nv | exact n8.nv | exact n9.nv | exact n10.nv | exact nvK (by omega) (by omega)) ?_)) ⟨(by repeat (first | exact nvL_nil | refine nvL_cons (by first | exact True.intro | exact nvSt (by decide) | exact n5.nv | exact n6.nv | exact n7.nv | exact n8.nv | exact n9.nv | exact n10.nv | exact nvK (by omega) (by omega)) ?_)), rfl, Nat.le_of_ble_eq_true rfl⟩ ?_
      refine K_partA R h12 ho hS hh (fun D2 f => ?_)
      have F := F.trr f
      have R := R.frS f
      rw [hzv _ hh]
      refine w_ild5 i115_73 ?_
      refine w_cneNF i115_75 (by omega) (by omega) rfl ?_
      refine w_ild5 i115_78 ?_
      refine w_ild6 i115_80 ?_
      refine w_cltNF i115_82 (by omega) (by omega) (by omega) ?_
      refine w_ild5 i115_85 ?_
      refine w_ild6 i115_87 ?_
      refine w_const i115_89 kc_1 ?_
      refine w_iadd i115_90 (nI_add _ _) ?_
      refine w_cleNT i115_91 g115_91 (by omega) (by omega) (by omega) ?_
      refine w_const i115_96 kc_0 ?_
      refine w_ist8 i115_97 ?_
      have L99 : ∀ k j, j + k = 6 → ∀ (D2 : Mm) (u9 u10 : Value), nvQ u9 → nvQ u10 → FrS Db D2 → Wp (d + 7) 115 Q 99 [.ref 0, .int (nI P), .int (nI C), .int (nI (sN6 (h + 1) z)), .int (nI h), .int (nI (z h)), .int (nI (ex h)), .int (nI (re h)), .int (nI j), u9, u10] [] D2 := by
        intro k
        induction k with
        | zero =>
          intro j hj D u9 u10 n9 n10 F
          have hu9 := n9.nv (D := D)
          have hu10 := n10.nv (D := D)
          have R := R0.frS F
          have e6 : j = 6 := hj
          subst e6
          refine w_ild8 i115_99 ?_
          refine w_bip i115_101 kb_6 ?_
          refine w_cgeNT i115_103 g115_103 (by omega) (by omega) (Nat.le_refl _) ?_
          refine w_inc4 i115_199 (inc1 _) ?_
          refine w_goto i115_202 g115_202 ?_
          exact ih5 (h + 1) (by omega) D _ _ _ _ _ _ (nvQ.i _) (nvQ.i _) (nvQ.i _) (nvQ.i _) (by assumption) (by assumption) F
        | succ k ih =>
          intro j hj D u9 u10 n9 n10 F
          have hu9 := n9.nv (D := D)
          have hu10 := n10.nv (D := D)
          have R := R0.frS F
          have hj6 : j < 6 := by omega
          have zj := hz j
          have gj := (g1 j hj6).1
          have el9 := exl j hj6
          have zl9 : z j < 2147483648 := by
            have := sN6_elt (f := z) 6 hj6
            have := HD.2.2.2.2
            omega
          have q3 := fun a b => g3 h j hh hj6 a b
          rw [← hre, ← hre] at q3
          
          refine w_ild8 i115_99 ?_
          refine w_bip i115_101 kb_6 ?_
          refine w_cgeNF i115_103 (by omega) (by omega) (by omega) ?_
          refine w_ild5 i115_106 ?_
          refine w_ild6 i115_108 ?_
          refine w_cneN i115_110 g115_110 (by omega) (by omega) (fun h110 => ?_) (fun h110 => ?_)
          · skip
            refine w_inc4 i115_199 (inc1 _) ?_
            refine w_goto i115_202 g115_202 ?_
            exact ih5 (h + 1) (by omega) D _ _ _ _ _ _ (nvQ.i _) (nvQ.i _) (nvQ.i _) (nvQ.i _) (by assumption) (by assumption) F
          · skip
            refine w_ild2 i115_113 ?_
            refine w_ineNT i115_114 g115_114 (by omega) (by omega) ?_
            refine w_ild1 i115_121 ?_
            refine w_ald0 i115_122 ?_
            refine w_ild8 i115_123 ?_
            refine w_const i115_125 kc_4 ?_
            refine w_VD3 i115_126 c67 (Or.inl rfl) (Or.inl ⟨by decide +kernel, by decide⟩) (by repeat (first | exact nvL_nil | refine nvL_cons (by first | exact True.intro | exact nvSt (by decide) | exact n5.nv | exact n6.nv | exact n7.nv | exact n8.nv | exact n9.nv | exact n10.nv | exact nvK (by omega) (by omega)) ?_)) ⟨(by repeat (first | exact nvL_nil | refine nvL_cons (by first | exact True.intro | exact nvSt (by decide) | exact n5.nv | exact n6.nv | exact n7.nv | exact n8.nv | exact n9.nv | exact n10.nv | exact nvK (by omega) (by omega)) ?_)), rfl, Nat.le_of_ble_eq_true rfl⟩ (Ex_go (hcl R hj6) ?_)
            refine w_imul i115_129 (nI_mul _ _) ?_
            refine w_ild2 i115_130 ?_
            refine w_irem i115_131 dv0 (hrm _ hj6) ?_
            refine w_ist9 i115_132 ?_
            refine w_ild2 i115_134 ?_
            refine w_ileNF i115_135 (by omega) (by omega) ?_
            refine w_ald0 i115_138 ?_
            refine w_ild8 i115_139 ?_
            refine w_VD2 i115_141 c61 (Or.inl rfl) (Or.inl ⟨by decide +kernel, by decide⟩) (by repeat (first | exact nvL_nil | refine nvL_cons (by first | exact True.intro | exact nvSt (by decide) | exact n5.nv | exact n6.nv | exact n7.nv | exact n8.nv | exact n9.nv | exact n10.nv | exact nvK (by omega) (by omega)) ?_)) ⟨(by repeat (first | exact nvL_nil | refine nvL_cons (by first | exact True.intro | exact nvSt (by decide) | exact n5.nv | exact n6.nv | exact n7.nv | exact n8.nv | exact n9.nv | exact n10.nv | exact nvK (by omega) (by omega)) ?_)), rfl, Nat.le_of_ble_eq_true rfl⟩ ?_
            refine K_part R h12 ho hS hj6 (fun D2 f => ?_)
            have F := F.trr f
            have R := R.frS f
            rw [hzv _ hj6]
            refine w_ild1 i115_144 ?_
            refine w_ald0 i115_145 ?_
            refine w_ild8 i115_146 ?_
            refine w_const i115_148 kc_4 ?_
            refine w_VD3 i115_149 c67 (Or.inl rfl) (Or.inl ⟨by decide +kernel, by decide⟩) (by repeat (first | exact nvL_nil | refine nvL_cons (by first | exact True.intro | exact nvSt (by decide) | exact n5.nv | exact n6.nv | exact n7.nv | exact n8.nv | exact n9.nv | exact n10.nv | exact nvK (by omega) (by omega)) ?_)) ⟨(by repeat (first | exact nvL_nil | refine nvL_cons (by first | exact True.intro | exact nvSt (by decide) | exact n5.nv | exact n6.nv | exact n7.nv | exact n8.nv | exact n9.nv | exact n10.nv | exact nvK (by omega) (by omega)) ?_)), rfl, Nat.le_of_ble_eq_true rfl⟩ (Ex_go (hcl R hj6) ?_)
            refine w_imul i115_152 (nI_mul _ _) ?_
            refine w_ild2 i115_153 ?_
            refine w_idiv i115_154 dv0 (hdv _ hj6) ?_
            refine w_cleN i115_155 g115_155 (by omega) (by omega) (fun h155 => ?_) (fun h155 => ?_)
            · skip
              refine w_const i115_162 kc_0 ?_
              refine w_ist10 i115_163 ?_
              refine w_ild10 i115_165 ?_
              refine w_ieqNT i115_167 g115_167 (by omega) (by omega) ?_
              refine w_inc8 i115_193 (inc1 _) ?_
              refine w_goto i115_196 g115_196 ?_
              exact ih (j + 1) (by omega) _ _ _ (nvQ.i _) (nvQ.i _) F
            · skip
              refine w_const i115_158 kc_1 ?_
              refine w_goto i115_159 g115_159 ?_
              refine w_ist10 i115_163 ?_
              refine w_ild10 i115_165 ?_
              refine w_ieqNF i115_167 (by omega) (by omega) ?_
              refine w_ild9 i115_170 ?_
              refine w_ild7 i115_172 ?_
              refine w_cltNF i115_174 (by omega) (by omega) (by have := q3 (by omega) (by omega); omega) ?_
              refine w_ild9 i115_177 ?_
              refine w_ild7 i115_179 ?_
              refine w_cneN i115_181 g115_181 (by omega) (by omega) (fun h181 => ?_) (fun h181 => ?_)
              · skip
                refine w_inc8 i115_193 (inc1 _) ?_
                refine w_goto i115_196 g115_196 ?_
                exact ih (j + 1) (by omega) _ _ _ (nvQ.i _) (nvQ.i _) F
              · skip
                refine w_ild8 i115_184 ?_
                refine w_ild4 i115_186 ?_
                refine w_cleNT i115_188 g115_188 (by omega) (by omega) (by have := q3 (by omega) (by omega); omega) ?_
                refine w_inc8 i115_193 (inc1 _) ?_
                refine w_goto i115_196 g115_196 ?_
                exact ih (j + 1) (by omega) _ _ _ (nvQ.i _) (nvQ.i _) F
      exact L99 6 0 (Nat.zero_add _) _ _ _ n9 n10 F
  exact L5 6 0 (Nat.zero_add _) D (.retAddr 0) (.retAddr 0) (.retAddr 0) (.retAddr 0) (.retAddr 0) (.retAddr 0) (nvQ.r _) (nvQ.r _) (nvQ.r _) (nvQ.r _) (nvQ.r _) (nvQ.r _) (by rw [eDb]; exact fun _ _ _ _ => rfl)
theorem K_parts {d : Nat} {D : Mm} {Q : Option Value → Mm → Prop} {n B : Nat} {V : Nat → Int32} (R : Rel D n V) (H : IV n V B) (hB : B ≤ 20000) (hq : ∀ D2, FrS D D2 → Q (some (.int (nI 1))) D2) : Ct (d + 8) 115 [.ref 0, .int (nI (sN6 6 (poc V))), .int (nI (sN6 6 (clmN n V)))] D Q := by
  have HD := shD_clm H hB
  rcases Nat.eq_zero_or_pos (sN6 6 (clmN n V)) with e | e
  · rw [e]
    refine K_parts0 R H hB rfl ?_ hq
    rw [HD.cl, e]; rfl
  · exact K_parts1 R H hB rfl e rfl hq
