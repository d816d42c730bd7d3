/-! the law's body: a fresh statute -/
/-! what a fresh statute answers -/
theorem lw_s1 : oS 0 (vF 6) (nI 6) (nI 1) (nI 1) = .inl (-1011, []) := ifp_t badH6
theorem lw_s2 : oS 0 (vF 6) (nI 0) (nI 31) (nI 1) = .inl (-1012, []) := by
  unfold oS
  rw [ifp_f (nbH (by decide)), cl_nI (by decide)]
  exact ifp_t (Or.inl (Or.inr (by decide)))
theorem lw_b1 : oB 0 (vF 6) (nI 0) (nI 1) = .inl (-1011, []) := ifp_t (Or.inr ile_rf)
theorem lw_d1 : vShares 0 (vF 6) = .inl (-1014, [(nI 11, nI 0)]) := sh_no (by
  show sumN 6 (fun h => vF 6 (6 + 4 * h + 3)) = 0
  decide +kernel)
theorem lw_op0 : vOpen (vF 6) 0 := by
  show vF 6 (6 + 4 * 0 + 0) = nI 1
  decide +kernel
theorem lw_m1 : oM 0 (vF 6) (nI 0) (nI 1) (nI 1) = .inl (-1014, [(nI 13, vF 6 (6 + 4 * 0 + 2))]) := by
  unfold oM
  rw [ifp_f (nbH (by decide)), cl_nI (by decide)]
  unfold vMoulds
  rw [ifp_f (fun q => q.elim (nI_inR (a := 1) (b := 30) (by decide) (by decide) (by decide)) (nI_inR (a := 1) (b := 9) (by decide) (by decide) (by decide))), ifp_t lw_op0, ifp_f (by decide +kernel)]
theorem lw_h1 : oH (vF 6) (nI 5) (nI 0) = .inl (-1014, [(nI 14, nI 0)]) := by
  unfold oH
  rw [ifp_f (fun q => q.elim (nbH (by decide)) (nbH (by decide))), cl_nI (by decide), cl_nI (by decide)]
  unfold vTells
  rw [ifp_t (by decide +kernel)]
theorem lw_h2 : oH (vF 6) (nI 6) (nI 0) = .inl (-1011, []) := ifp_t (Or.inl badH6)
theorem lw_t1 : vPasses 0 (vF 6) (nI 25) = .inl (-1012, []) := ifp_t (Or.inr (by decide))
theorem lw_op5 : vOpen (vF 6) 5 := by
  show vF 6 (6 + 4 * 5 + 0) = nI 1
  decide +kernel
theorem lw_sc : vSucc (vF 6) 5 = some 0 := by
  have e : hrV (vF 6) 5 = 0 := by decide +kernel
  unfold vSucc
  rw [e]
  unfold chase
  rw [ifp_f (by decide), ifp_t lw_op0]
  rfl
theorem lw_run : pRun (fun i => ([] : List Nat).getD i 0) 0 61 0 = (0, 1, []) := by decide +kernel
theorem CJ.ru {D D2 : Mm} {n B nx : Nat} {V : Nat → Int32} {hs : HsT} (J : CJ D n V B hs nx) (s : SbR D2 169 []) (f : ∀ q, (q < 160 ∨ 164 < q) → q ≠ 169 → q ≠ 181 → D2 q = D q) : CJ D2 n V B hs nx := by
  obtain ⟨R, S, ⟨a1, a2, a3, a4, a5⟩, b⟩ := J
  refine ⟨R.fr (fun q x y => f q (by omega) (by omega) (by omega)), S, ⟨a1, a2, by rw [f 155 (by omega) (by omega) (by omega)]; exact a3, by rw [f 155 (by omega) (by omega) (by omega)]; exact a4, fun i hi => ⟨(a5 i hi).1, (a5 i hi).2.fr (fun q x y => ?_)⟩⟩, s⟩
  have := rowb_b (r := (nx + 8 - i) % 9) (by omega)
  exact f q (by omega) (by omega) (by omega)
theorem J_run0 {d : Nat} {D : Mm} {Q : Option Value → Mm → Prop} {n B nx : Nat} {V : Nat → Int32} {hs : HsT} (J : CJ D n V B hs nx) (hq : ∀ D2, CJ D2 n V B hs nx → (∀ q, (q = 170 ∨ 182 ≤ q) → D2 q = D q) → Q (some (.int (-2000))) D2) : Ct (d + 10) 75 [.ref 0] D Q := by
  have e1 : (pRun (fun i => ([] : List Nat).getD i 0) 0 61 0).1 = 0 := by rw [lw_run]
  have e2 : (pRun (fun i => ([] : List Nat).getD i 0) 0 61 0).2.1 = 1 := by rw [lw_run]
  have e3 : (pRun (fun i => ([] : List Nat).getD i 0) 0 61 0).2.2 = [] := by rw [lw_run]
  refine K_run (tx := []) J.R J.iv.1 J.h12 J.op J.2.2.1.2.2.1 J.2.2.1.2.1 J.2.2.1.2.2.2.1 J.2.2.1.1 J.2.2.2 (Nat.zero_le _) ?_ (fun _ D2 s f => ?_) (fun q => ?_) (fun q => ?_)
  · show hAllC (pRun (fun i => ([] : List Nat).getD i 0) 0 61 0).2.2 V
    rw [e3]; trivial
  · have k := hq D2 (J.ru s f) (fun q a => f q (by omega) (by omega) (by omega))
    show Q (some (.int (-2000 - nI (pRun (fun i => ([] : List Nat).getD i 0) 0 61 0).1))) D2
    rw [e1]; exact k
  · have q : (pRun (fun i => ([] : List Nat).getD i 0) 0 61 0).2.1 = 0 := q
    rw [e2] at q; exact absurd q (by decide)
  · have q : (pRun (fun i => ([] : List Nat).getD i 0) 0 61 0).2.1 = 0 := q
    rw [e2] at q; exact absurd q (by decide)
set_option maxHeartbeats 2000000 in
theorem la_0 {d : Nat} {D : Mm} {Q : Option Value → Mm → Prop} (J : CJ D 0 (vF 6) 0 [] 0) (S : SbR D 170 []) (h0 : D 0 2 = nI 0) (hr : RsC D []) (hk : ∀ D2, CJ D2 0 (vF 6) 0 [] 0 → (∀ q, (q = 170 ∨ 182 ≤ q) → D2 q = D q) → Wp (d + 11) 218 Q 263 [.ref 4000, .ref 0, .int (nI 0), .retAddr 0, .retAddr 0, .retAddr 0, .retAddr 0, .retAddr 0, .retAddr 0, .retAddr 0] [] D2) : Wp (d + 11) 218 Q 7 [.ref 4000, .retAddr 0, .retAddr 0, .retAddr 0, .retAddr 0, .retAddr 0, .retAddr 0, .retAddr 0, .retAddr 0, .retAddr 0] [.ref 0] D := by
  refine w_ast1 i218_7 ?_
  refine w_const i218_8 kc_0 ?_
  refine w_ist2 i218_9 ?_
  refine w_ald1 i218_10 ?_
  refine w_VD1 i218_11 c82 (Or.inl rfl) (Or.inl ⟨by decide +kernel, by decide⟩) (by repeat (first | exact nvL_nil | refine nvL_cons (by first | exact True.intro | exact nvSt (by decide) | exact nvK (by omega) (by omega)) ?_)) ⟨(by repeat (first | exact nvL_nil | refine nvL_cons (by first | exact True.intro | exact nvSt (by decide) | exact nvK (by omega) (by omega)) ?_)), rfl, Nat.le_of_ble_eq_true rfl⟩ (Ex_go (K_undo_no J.2.2.1.2.2.2.1) ?_)
  refine w_sip i218_14 ks_m1015 ?_
  refine w_cneF i218_17  rfl ?_
  refine w_ald1 i218_20 ?_
  refine w_VD1 i218_21 c84 (Or.inl rfl) (Or.inl ⟨by decide +kernel, by decide⟩) (by repeat (first | exact nvL_nil | refine nvL_cons (by first | exact True.intro | exact nvSt (by decide) | exact nvK (by omega) (by omega)) ?_)) ⟨(by repeat (first | exact nvL_nil | refine nvL_cons (by first | exact True.intro | exact nvSt (by decide) | exact nvK (by omega) (by omega)) ?_)), rfl, Nat.le_of_ble_eq_true rfl⟩ (Ex_go (K_restore_no h0) ?_)
  refine w_sip i218_24 ks_m1015 ?_
  refine w_cneF i218_27  rfl ?_
  refine w_ald1 i218_30 ?_
  refine w_const i218_31 kc_0 ?_
  refine w_const i218_32 kc_0 ?_
  refine w_VD3 i218_33 c79 (Or.inl rfl) (Or.inl ⟨by decide +kernel, by decide⟩) (by repeat (first | exact nvL_nil | refine nvL_cons (by first | exact True.intro | exact nvSt (by decide) | exact nvK (by omega) (by omega)) ?_)) ⟨(by repeat (first | exact nvL_nil | refine nvL_cons (by first | exact True.intro | exact nvSt (by decide) | exact nvK (by omega) (by omega)) ?_)), rfl, Nat.le_of_ble_eq_true rfl⟩ (Ex_go (K_reason hr (Nat.zero_le _) (w := 0) (by decide)) ?_)
  rw [show resR [] 0 (nI 0) = -1015 from resR_no (Nat.le_refl _)]
  refine w_sip i218_36 ks_m1015 ?_
  refine w_cneF i218_39  rfl ?_
  refine w_ald1 i218_42 ?_
  refine w_const i218_43 kc_3 ?_
  refine w_const i218_44 kc_0 ?_
  refine w_VD3 i218_45 c79 (Or.inl rfl) (Or.inl ⟨by decide +kernel, by decide⟩) (by repeat (first | exact nvL_nil | refine nvL_cons (by first | exact True.intro | exact nvSt (by decide) | exact nvK (by omega) (by omega)) ?_)) ⟨(by repeat (first | exact nvL_nil | refine nvL_cons (by first | exact True.intro | exact nvSt (by decide) | exact nvK (by omega) (by omega)) ?_)), rfl, Nat.le_of_ble_eq_true rfl⟩ (Ex_go (K_reason_bad (Or.inr (by decide))) ?_)
  refine w_sip i218_48 ks_m1012 ?_
  refine w_cneF i218_51  rfl ?_
  refine w_ald1 i218_54 ?_
  refine w_VD1 i218_55 c75 (Or.inl rfl) (Or.inl ⟨by decide +kernel, by decide⟩) (by repeat (first | exact nvL_nil | refine nvL_cons (by first | exact True.intro | exact nvSt (by decide) | exact nvK (by omega) (by omega)) ?_)) ⟨(by repeat (first | exact nvL_nil | refine nvL_cons (by first | exact True.intro | exact nvSt (by decide) | exact nvK (by omega) (by omega)) ?_)), rfl, Nat.le_of_ble_eq_true rfl⟩ ?_
  refine J_run0 J (fun D J f => ?_)
  have S := S.fr (f 170 (Or.inl rfl)) (f 182 (Or.inr (Nat.le_refl _)))
  have F := f
  refine w_sip i218_58 ks_m2000 ?_
  refine w_cneF i218_61  rfl ?_
  refine w_ald1 i218_64 ?_
  refine w_const i218_65 kc_0 ?_
  refine w_VD2 i218_66 c78 (Or.inl rfl) (Or.inl ⟨by decide +kernel, by decide⟩) (by repeat (first | exact nvL_nil | refine nvL_cons (by first | exact True.intro | exact nvSt (by decide) | exact nvK (by omega) (by omega)) ?_)) ⟨(by repeat (first | exact nvL_nil | refine nvL_cons (by first | exact True.intro | exact nvSt (by decide) | exact nvK (by omega) (by omega)) ?_)), rfl, Nat.le_of_ble_eq_true rfl⟩ (Ex_go (K_char_bad S (Or.inr (by decide))) ?_)
  refine w_sip i218_69 ks_m1011 ?_
  refine w_cneF i218_72  rfl ?_
  refine w_ald1 i218_75 ?_
  refine w_bip i218_76 kb_6 ?_
  refine w_const i218_78 kc_1 ?_
  refine w_const i218_79 kc_1 ?_
  refine w_VD4 i218_80 c54 (Or.inl rfl) (Or.inl ⟨by decide +kernel, by decide⟩) (by repeat (first | exact nvL_nil | refine nvL_cons (by first | exact True.intro | exact nvSt (by decide) | exact nvK (by omega) (by omega)) ?_)) ⟨(by repeat (first | exact nvL_nil | refine nvL_cons (by first | exact True.intro | exact nvSt (by decide) | exact nvK (by omega) (by omega)) ?_)), rfl, Nat.le_of_ble_eq_true rfl⟩ ?_
  refine J_S J (Nat.zero_le _) (fun x rs e D J f rc => ?_) (fun y V2 e => (inr_ne lw_s1 e).elim)
  obtain ⟨rfl, rfl⟩ := inl_eq lw_s1 e
  have F := fun q (a : q = 170 ∨ 182 ≤ q) => (f q (by omega)).trans (F q a)
  refine w_sip i218_83 ks_m1011 ?_
  refine w_cneF i218_86  rfl ?_
  refine w_ald1 i218_89 ?_
  refine w_const i218_90 kc_0 ?_
  refine w_bip i218_91 kb_31 ?_
  refine w_const i218_93 kc_1 ?_
  refine w_VD4 i218_94 c54 (Or.inl rfl) (Or.inl ⟨by decide +kernel, by decide⟩) (by repeat (first | exact nvL_nil | refine nvL_cons (by first | exact True.intro | exact nvSt (by decide) | exact nvK (by omega) (by omega)) ?_)) ⟨(by repeat (first | exact nvL_nil | refine nvL_cons (by first | exact True.intro | exact nvSt (by decide) | exact nvK (by omega) (by omega)) ?_)), rfl, Nat.le_of_ble_eq_true rfl⟩ ?_
  refine J_S J (Nat.zero_le _) (fun x rs e D J f rc => ?_) (fun y V2 e => (inr_ne lw_s2 e).elim)
  obtain ⟨rfl, rfl⟩ := inl_eq lw_s2 e
  have F := fun q (a : q = 170 ∨ 182 ≤ q) => (f q (by omega)).trans (F q a)
  refine w_sip i218_97 ks_m1012 ?_
  refine w_cneF i218_100  rfl ?_
  refine w_ald1 i218_103 ?_
  refine w_const i218_104 kc_0 ?_
  refine w_const i218_105 kc_1 ?_
  refine w_VD3 i218_106 c55 (Or.inl rfl) (Or.inl ⟨by decide +kernel, by decide⟩) (by repeat (first | exact nvL_nil | refine nvL_cons (by first | exact True.intro | exact nvSt (by decide) | exact nvK (by omega) (by omega)) ?_)) ⟨(by repeat (first | exact nvL_nil | refine nvL_cons (by first | exact True.intro | exact nvSt (by decide) | exact nvK (by omega) (by omega)) ?_)), rfl, Nat.le_of_ble_eq_true rfl⟩ ?_
  refine J_B J (Nat.zero_le _) (fun x rs e D J f rc => ?_) (fun y V2 e => (inr_ne lw_b1 e).elim)
  obtain ⟨rfl, rfl⟩ := inl_eq lw_b1 e
  have F := fun q (a : q = 170 ∨ 182 ≤ q) => (f q (by omega)).trans (F q a)
  refine w_sip i218_109 ks_m1011 ?_
  refine w_cneF i218_112  rfl ?_
  refine w_ald1 i218_115 ?_
  refine w_VD1 i218_116 c60 (Or.inl rfl) (Or.inl ⟨by decide +kernel, by decide⟩) (by repeat (first | exact nvL_nil | refine nvL_cons (by first | exact True.intro | exact nvSt (by decide) | exact nvK (by omega) (by omega)) ?_)) ⟨(by repeat (first | exact nvL_nil | refine nvL_cons (by first | exact True.intro | exact nvSt (by decide) | exact nvK (by omega) (by omega)) ?_)), rfl, Nat.le_of_ble_eq_true rfl⟩ ?_
  refine J_D J (Nat.zero_le _) (fun x rs e D J f rc => ?_) (fun y V2 e => (inr_ne lw_d1 e).elim)
  obtain ⟨rfl, rfl⟩ := inl_eq lw_d1 e
  have F := fun q (a : q = 170 ∨ 182 ≤ q) => (f q (by omega)).trans (F q a)
  refine w_sip i218_119 ks_m1014 ?_
  refine w_cneF i218_122  rfl ?_
  refine w_ald1 i218_125 ?_
  refine w_const i218_126 kc_0 ?_
  refine w_const i218_127 kc_0 ?_
  refine w_VD3 i218_128 c79 (Or.inl rfl) (Or.inl ⟨by decide +kernel, by decide⟩) (by repeat (first | exact nvL_nil | refine nvL_cons (by first | exact True.intro | exact nvSt (by decide) | exact nvK (by omega) (by omega)) ?_)) ⟨(by repeat (first | exact nvL_nil | refine nvL_cons (by first | exact True.intro | exact nvSt (by decide) | exact nvK (by omega) (by omega)) ?_)), rfl, Nat.le_of_ble_eq_true rfl⟩ (Ex_go (K_reason (rc (List.cons_ne_nil _ _)) (Nat.le_of_ble_eq_true rfl) (w := 0) (by decide)) ?_)
  rw [rs_0]
  refine w_bip i218_131 kb_11 ?_
  refine w_cneNF i218_133 (by omega) (by omega) (by omega) ?_
  refine w_ald1 i218_136 ?_
  refine w_const i218_137 kc_0 ?_
  refine w_const i218_138 kc_1 ?_
  refine w_VD3 i218_139 c79 (Or.inl rfl) (Or.inl ⟨by decide +kernel, by decide⟩) (by repeat (first | exact nvL_nil | refine nvL_cons (by first | exact True.intro | exact nvSt (by decide) | exact nvK (by omega) (by omega)) ?_)) ⟨(by repeat (first | exact nvL_nil | refine nvL_cons (by first | exact True.intro | exact nvSt (by decide) | exact nvK (by omega) (by omega)) ?_)), rfl, Nat.le_of_ble_eq_true rfl⟩ (Ex_go (K_reason (rc (List.cons_ne_nil _ _)) (Nat.le_of_ble_eq_true rfl) (w := 0) (by decide)) ?_)
  rw [rs_1]
  refine w_ineNF i218_142 (by omega) (by omega) ?_
  refine w_ald1 i218_145 ?_
  refine w_const i218_146 kc_0 ?_
  refine w_const i218_147 kc_1 ?_
  refine w_const i218_148 kc_1 ?_
  refine w_VD4 i218_149 c63 (Or.inl rfl) (Or.inl ⟨by decide +kernel, by decide⟩) (by repeat (first | exact nvL_nil | refine nvL_cons (by first | exact True.intro | exact nvSt (by decide) | exact nvK (by omega) (by omega)) ?_)) ⟨(by repeat (first | exact nvL_nil | refine nvL_cons (by first | exact True.intro | exact nvSt (by decide) | exact nvK (by omega) (by omega)) ?_)), rfl, Nat.le_of_ble_eq_true rfl⟩ ?_
  refine J_M J (Nat.zero_le _) (fun x rs e D J f rc => ?_) (fun y V2 e => (inr_ne lw_m1 e).elim)
  obtain ⟨rfl, rfl⟩ := inl_eq lw_m1 e
  have F := fun q (a : q = 170 ∨ 182 ≤ q) => (f q (by omega)).trans (F q a)
  refine w_sip i218_152 ks_m1014 ?_
  refine w_cneF i218_155  rfl ?_
  refine w_ald1 i218_158 ?_
  refine w_const i218_159 kc_0 ?_
  refine w_const i218_160 kc_0 ?_
  refine w_VD3 i218_161 c79 (Or.inl rfl) (Or.inl ⟨by decide +kernel, by decide⟩) (by repeat (first | exact nvL_nil | refine nvL_cons (by first | exact True.intro | exact nvSt (by decide) | exact nvK (by omega) (by omega)) ?_)) ⟨(by repeat (first | exact nvL_nil | refine nvL_cons (by first | exact True.intro | exact nvSt (by decide) | exact nvK (by omega) (by omega)) ?_)), rfl, Nat.le_of_ble_eq_true rfl⟩ (Ex_go (K_reason (rc (List.cons_ne_nil _ _)) (Nat.le_of_ble_eq_true rfl) (w := 0) (by decide)) ?_)
  rw [rs_0]
  refine w_bip i218_164 kb_13 ?_
  refine w_cneNF i218_166 (by omega) (by omega) (by omega) ?_
  refine w_ald1 i218_169 ?_
  refine w_const i218_170 kc_5 ?_
  refine w_const i218_171 kc_0 ?_
  refine w_VD3 i218_172 c64 (Or.inl rfl) (Or.inl ⟨by decide +kernel, by decide⟩) (by repeat (first | exact nvL_nil | refine nvL_cons (by first | exact True.intro | exact nvSt (by decide) | exact nvK (by omega) (by omega)) ?_)) ⟨(by repeat (first | exact nvL_nil | refine nvL_cons (by first | exact True.intro | exact nvSt (by decide) | exact nvK (by omega) (by omega)) ?_)), rfl, Nat.le_of_ble_eq_true rfl⟩ ?_
  refine J_H J (Nat.zero_le _) (fun x rs e D J f rc => ?_) (fun y V2 e => (inr_ne lw_h1 e).elim)
  obtain ⟨rfl, rfl⟩ := inl_eq lw_h1 e
  have F := fun q (a : q = 170 ∨ 182 ≤ q) => (f q (by omega)).trans (F q a)
  refine w_sip i218_175 ks_m1014 ?_
  refine w_cneF i218_178  rfl ?_
  refine w_ald1 i218_181 ?_
  refine w_const i218_182 kc_0 ?_
  refine w_const i218_183 kc_1 ?_
  refine w_VD3 i218_184 c79 (Or.inl rfl) (Or.inl ⟨by decide +kernel, by decide⟩) (by repeat (first | exact nvL_nil | refine nvL_cons (by first | exact True.intro | exact nvSt (by decide) | exact nvK (by omega) (by omega)) ?_)) ⟨(by repeat (first | exact nvL_nil | refine nvL_cons (by first | exact True.intro | exact nvSt (by decide) | exact nvK (by omega) (by omega)) ?_)), rfl, Nat.le_of_ble_eq_true rfl⟩ (Ex_go (K_reason (rc (List.cons_ne_nil _ _)) (Nat.le_of_ble_eq_true rfl) (w := 0) (by decide)) ?_)
  rw [rs_1]
  refine w_ineNF i218_187 (by omega) (by omega) ?_
  refine w_ald1 i218_190 ?_
  refine w_bip i218_191 kb_6 ?_
  refine w_const i218_193 kc_0 ?_
  refine w_VD3 i218_194 c64 (Or.inl rfl) (Or.inl ⟨by decide +kernel, by decide⟩) (by repeat (first | exact nvL_nil | refine nvL_cons (by first | exact True.intro | exact nvSt (by decide) | exact nvK (by omega) (by omega)) ?_)) ⟨(by repeat (first | exact nvL_nil | refine nvL_cons (by first | exact True.intro | exact nvSt (by decide) | exact nvK (by omega) (by omega)) ?_)), rfl, Nat.le_of_ble_eq_true rfl⟩ ?_
  refine J_H J (Nat.zero_le _) (fun x rs e D J f rc => ?_) (fun y V2 e => (inr_ne lw_h2 e).elim)
  obtain ⟨rfl, rfl⟩ := inl_eq lw_h2 e
  have F := fun q (a : q = 170 ∨ 182 ≤ q) => (f q (by omega)).trans (F q a)
  refine w_sip i218_197 ks_m1011 ?_
  refine w_cneF i218_200  rfl ?_
  refine w_ald1 i218_203 ?_
  refine w_bip i218_204 kb_25 ?_
  refine w_VD2 i218_206 c66 (Or.inl rfl) (Or.inl ⟨by decide +kernel, by decide⟩) (by repeat (first | exact nvL_nil | refine nvL_cons (by first | exact True.intro | exact nvSt (by decide) | exact nvK (by omega) (by omega)) ?_)) ⟨(by repeat (first | exact nvL_nil | refine nvL_cons (by first | exact True.intro | exact nvSt (by decide) | exact nvK (by omega) (by omega)) ?_)), rfl, Nat.le_of_ble_eq_true rfl⟩ ?_
  refine J_T J (Nat.zero_le _) (fun x rs e D J f rc => ?_) (fun y V2 e => (inr_ne lw_t1 e).elim)
  obtain ⟨rfl, rfl⟩ := inl_eq lw_t1 e
  have F := fun q (a : q = 170 ∨ 182 ≤ q) => (f q (by omega)).trans (F q a)
  refine w_sip i218_209 ks_m1012 ?_
  refine w_cneF i218_212  rfl ?_
  refine w_ald1 i218_215 ?_
  refine w_const i218_216 kc_5 ?_
  refine w_VD2 i218_217 c68 (Or.inl rfl) (Or.inl ⟨by decide +kernel, by decide⟩) (by repeat (first | exact nvL_nil | refine nvL_cons (by first | exact True.intro | exact nvSt (by decide) | exact nvK (by omega) (by omega)) ?_)) ⟨(by repeat (first | exact nvL_nil | refine nvL_cons (by first | exact True.intro | exact nvSt (by decide) | exact nvK (by omega) (by omega)) ?_)), rfl, Nat.le_of_ble_eq_true rfl⟩ (Ex_go (K_inherits J.R J.h12 J.op J.iv.hr (by decide) lw_op5 lw_sc) ?_)
  refine w_ineNF i218_220 (by omega) (by omega) ?_
  refine w_ald1 i218_223 ?_
  refine w_VD1 i218_224 c120 (Or.inl rfl) (Or.inl ⟨by decide +kernel, by decide⟩) (by repeat (first | exact nvL_nil | refine nvL_cons (by first | exact True.intro | exact nvSt (by decide) | exact nvK (by omega) (by omega)) ?_)) ⟨(by repeat (first | exact nvL_nil | refine nvL_cons (by first | exact True.intro | exact nvSt (by decide) | exact nvK (by omega) (by omega)) ?_)), rfl, Nat.le_of_ble_eq_true rfl⟩ (Ex_go (K_mean (a := 0) J.R J.h12 (Nat.zero_le _) rfl) ?_)
  refine w_dconst i218_227 ?_
  rw [show FP.dconst0 = mnD 0 0 from (if_pos rfl).symm]
  refine w_dcmp i218_228 (mnD_eq (Nat.zero_le _) (Nat.zero_le _)) ?_
  refine w_ineNF i218_229 (by omega) (by omega) ?_
  refine w_ald1 i218_232 ?_
  refine w_VD1 i218_233 c121 (Or.inl rfl) (Or.inl ⟨by decide +kernel, by decide⟩) (by repeat (first | exact nvL_nil | refine nvL_cons (by first | exact True.intro | exact nvSt (by decide) | exact nvK (by omega) (by omega)) ?_)) ⟨(by repeat (first | exact nvL_nil | refine nvL_cons (by first | exact True.intro | exact nvSt (by decide) | exact nvK (by omega) (by omega)) ?_)), rfl, Nat.le_of_ble_eq_true rfl⟩ (Ex_go (K_share (a := 0) J.R J.h12 (J.by_ (Nat.zero_le _)) (Nat.zero_le _) rfl) ?_)
  refine w_fconst i218_236 ?_
  rw [show FP.fconst0 = mnF 0 0 from (if_pos rfl).symm]
  refine w_fcmp i218_237 (mnF_eq (Nat.zero_le _) (Nat.zero_le _)) ?_
  refine w_ineNF i218_238 (by omega) (by omega) ?_
  refine w_ald1 i218_241 ?_
  refine w_bip i218_242 kb_14 ?_
  refine w_VD2 i218_244 c80 (Or.inl rfl) (Or.inl ⟨by decide +kernel, by decide⟩) (by repeat (first | exact nvL_nil | refine nvL_cons (by first | exact True.intro | exact nvSt (by decide) | exact nvK (by omega) (by omega)) ?_)) ⟨(by repeat (first | exact nvL_nil | refine nvL_cons (by first | exact True.intro | exact nvSt (by decide) | exact nvK (by omega) (by omega)) ?_)), rfl, Nat.le_of_ble_eq_true rfl⟩ (Ex_go (K_acc_bad (Or.inr (by decide))) ?_)
  refine w_sip i218_247 ks_m1012 ?_
  refine w_cneF i218_250  rfl ?_
  refine w_ald1 i218_253 ?_
  refine w_VD1 i218_254 c81 (Or.inl rfl) (Or.inl ⟨by decide +kernel, by decide⟩) (by repeat (first | exact nvL_nil | refine nvL_cons (by first | exact True.intro | exact nvSt (by decide) | exact nvK (by omega) (by omega)) ?_)) ⟨(by repeat (first | exact nvL_nil | refine nvL_cons (by first | exact True.intro | exact nvSt (by decide) | exact nvK (by omega) (by omega)) ?_)), rfl, Nat.le_of_ble_eq_true rfl⟩ ?_
  refine K_isBal J.R J.h12 J.op (J.iv.hc (Nat.zero_le _)).2.2.2.2.2.2.1 J.iv.bal J.iv.wb (fun D f => ?_)
  have J := J.frH f.h
  have F := fun q (a : q = 170 ∨ 182 ≤ q) => (f q (by omega) (by omega) (by omega)).trans (F q a)
  refine w_const i218_257 kc_1 ?_
  refine w_ceqNT i218_258 g218_258 (by omega) (by omega) (by omega) ?_
  exact hk D J F
