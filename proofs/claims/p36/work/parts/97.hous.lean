/-! the law's houses: what their stubs give, piece by piece -/
theorem nvQ.ok {v : Value} {D : Mm} (h : nvQ v) : nvV D v := h.nv
set_option maxHeartbeats 1000000 in
theorem hs_a1 {d : Nat} {D : Mm} {Q : Option Value → Mm → Prop} {n s h o W M X O C : Nat} {V : Nat → Int32} {l1 l2 l3 l4 l5 : Int32} {u14 u15 u16 : Value} (n14 : nvQ u14) (n15 : nvQ u15) (n16 : nvQ u16) (R : Rel D n V) (hle : n ≤ 12) (hs : s < n) (hdo : dv D o) {w u : Nat} (e0 : vStubOf V s 0 = nI h) (hv1 : vStubOf V s 1 = nI w) (hv4 : vStubOf V s 4 = nI u) (hk : Wp (d + 10) 114 Q 158 [.ref 0, .int l1, .int l2, .int l3, .int l4, .int l5, .ref o, .int (nI h), .int (nI (W + (1 + w))), .int (nI (M + 1)), .int (nI X), .int (nI (O + u)), .int (nI C), .int (nI s), .int (nI 1), u15, u16] [] D) : Wp (d + 10) 114 Q 80 [.ref 0, .int l1, .int l2, .int l3, .int l4, .int l5, .ref o, .int (nI h), .int (nI W), .int (nI M), .int (nI X), .int (nI O), .int (nI C), .int (nI s), u14, u15, u16] [] D := by
  refine w_ald0 i114_80 ?_
  refine w_ild13 i114_81 ?_
  refine w_const i114_83 kc_0 ?_
  refine w_VD3 i114_84 c58 (Or.inl rfl) (Or.inl ⟨by decide +kernel, by decide⟩) (by repeat (first | exact nvL_nil | refine nvL_cons (by first | exact True.intro | exact nvSt (by decide) | exact nvD hdo | exact n14.nv | exact n15.nv | exact n16.nv | exact nvK (by omega) (by omega)) ?_)) ⟨(by repeat (first | exact nvL_nil | refine nvL_cons (by first | exact True.intro | exact nvSt (by decide) | exact nvD hdo | exact n14.nv | exact n15.nv | exact n16.nv | exact nvK (by omega) (by omega)) ?_)), rfl, Nat.le_of_ble_eq_true rfl⟩ (Ex_go (K_stubOf_0 R hle hs) ?_)
  refine w_ild7 i114_87 ?_
  refine w_cneF i114_89  e0 ?_
  refine w_const i114_92 kc_1 ?_
  refine w_goto i114_93 g114_93 ?_
  refine w_ist14 i114_97 ?_
  refine w_ild8 i114_99 ?_
  refine w_ild14 i114_101 ?_
  refine w_ieqNF i114_103 (by omega) (by omega) ?_
  refine w_const i114_106 kc_1 ?_
  refine w_ald0 i114_107 ?_
  refine w_ild13 i114_108 ?_
  refine w_const i114_110 kc_1 ?_
  refine w_VD3 i114_111 c58 (Or.inl rfl) (Or.inl ⟨by decide +kernel, by decide⟩) (by repeat (first | exact nvL_nil | refine nvL_cons (by first | exact True.intro | exact nvSt (by decide) | exact nvD hdo | exact n14.nv | exact n15.nv | exact n16.nv | exact nvK (by omega) (by omega)) ?_)) ⟨(by repeat (first | exact nvL_nil | refine nvL_cons (by first | exact True.intro | exact nvSt (by decide) | exact nvD hdo | exact n14.nv | exact n15.nv | exact n16.nv | exact nvK (by omega) (by omega)) ?_)), rfl, Nat.le_of_ble_eq_true rfl⟩ (Ex_go (K_stubOf_1 R hle hs) ?_)
  rw [hv1]
  refine w_iadd i114_114 (nI_add _ _) ?_
  refine w_goto i114_115 g114_115 ?_
  refine w_iadd i114_119 (nI_add _ _) ?_
  refine w_ist8 i114_120 ?_
  refine w_ild9 i114_122 ?_
  refine w_ild14 i114_124 ?_
  refine w_ieqNF i114_126 (by omega) (by omega) ?_
  refine w_const i114_129 kc_1 ?_
  refine w_goto i114_130 g114_130 ?_
  refine w_iadd i114_134 (nI_add _ _) ?_
  refine w_ist9 i114_135 ?_
  refine w_ild11 i114_137 ?_
  refine w_ild14 i114_139 ?_
  refine w_ieqNF i114_141 (by omega) (by omega) ?_
  refine w_ald0 i114_144 ?_
  refine w_ild13 i114_145 ?_
  refine w_const i114_147 kc_4 ?_
  refine w_VD3 i114_148 c58 (Or.inl rfl) (Or.inl ⟨by decide +kernel, by decide⟩) (by repeat (first | exact nvL_nil | refine nvL_cons (by first | exact True.intro | exact nvSt (by decide) | exact nvD hdo | exact n14.nv | exact n15.nv | exact n16.nv | exact nvK (by omega) (by omega)) ?_)) ⟨(by repeat (first | exact nvL_nil | refine nvL_cons (by first | exact True.intro | exact nvSt (by decide) | exact nvD hdo | exact n14.nv | exact n15.nv | exact n16.nv | exact nvK (by omega) (by omega)) ?_)), rfl, Nat.le_of_ble_eq_true rfl⟩ (Ex_go (K_stubOf_4 R hle hs) ?_)
  rw [hv4]
  refine w_goto i114_151 g114_151 ?_
  refine w_iadd i114_155 (nI_add _ _) ?_
  refine w_ist11 i114_156 ?_
  exact hk
set_option maxHeartbeats 1000000 in
theorem hs_a0 {d : Nat} {D : Mm} {Q : Option Value → Mm → Prop} {n s h o W M X O C : Nat} {V : Nat → Int32} {l1 l2 l3 l4 l5 : Int32} {u14 u15 u16 : Value} (n14 : nvQ u14) (n15 : nvQ u15) (n16 : nvQ u16) (R : Rel D n V) (hle : n ≤ 12) (hs : s < n) (hdo : dv D o) (e0 : ¬ vStubOf V s 0 = nI h) (hk : Wp (d + 10) 114 Q 158 [.ref 0, .int l1, .int l2, .int l3, .int l4, .int l5, .ref o, .int (nI h), .int (nI (W + 0)), .int (nI (M + 0)), .int (nI X), .int (nI (O + 0)), .int (nI C), .int (nI s), .int (nI 0), u15, u16] [] D) : Wp (d + 10) 114 Q 80 [.ref 0, .int l1, .int l2, .int l3, .int l4, .int l5, .ref o, .int (nI h), .int (nI W), .int (nI M), .int (nI X), .int (nI O), .int (nI C), .int (nI s), u14, u15, u16] [] D := by
  refine w_ald0 i114_80 ?_
  refine w_ild13 i114_81 ?_
  refine w_const i114_83 kc_0 ?_
  refine w_VD3 i114_84 c58 (Or.inl rfl) (Or.inl ⟨by decide +kernel, by decide⟩) (by repeat (first | exact nvL_nil | refine nvL_cons (by first | exact True.intro | exact nvSt (by decide) | exact nvD hdo | exact n14.nv | exact n15.nv | exact n16.nv | exact nvK (by omega) (by omega)) ?_)) ⟨(by repeat (first | exact nvL_nil | refine nvL_cons (by first | exact True.intro | exact nvSt (by decide) | exact nvD hdo | exact n14.nv | exact n15.nv | exact n16.nv | exact nvK (by omega) (by omega)) ?_)), rfl, Nat.le_of_ble_eq_true rfl⟩ (Ex_go (K_stubOf_0 R hle hs) ?_)
  refine w_ild7 i114_87 ?_
  refine w_cneT i114_89 g114_89  e0 ?_
  refine w_const i114_96 kc_0 ?_
  refine w_ist14 i114_97 ?_
  refine w_ild8 i114_99 ?_
  refine w_ild14 i114_101 ?_
  refine w_ieqNT i114_103 g114_103 (by omega) (by omega) ?_
  refine w_const i114_118 kc_0 ?_
  refine w_iadd i114_119 (nI_add _ _) ?_
  refine w_ist8 i114_120 ?_
  refine w_ild9 i114_122 ?_
  refine w_ild14 i114_124 ?_
  refine w_ieqNT i114_126 g114_126 (by omega) (by omega) ?_
  refine w_const i114_133 kc_0 ?_
  refine w_iadd i114_134 (nI_add _ _) ?_
  refine w_ist9 i114_135 ?_
  refine w_ild11 i114_137 ?_
  refine w_ild14 i114_139 ?_
  refine w_ieqNT i114_141 g114_141 (by omega) (by omega) ?_
  refine w_const i114_154 kc_0 ?_
  refine w_iadd i114_155 (nI_add _ _) ?_
  refine w_ist11 i114_156 ?_
  exact hk
set_option maxHeartbeats 1000000 in
theorem hs_b1 {d : Nat} {D : Mm} {Q : Option Value → Mm → Prop} {n s h o W M X O C : Nat} {V : Nat → Int32} {l1 l2 l3 l4 l5 : Int32} {u14 u15 u16 : Value} (n14 : nvQ u14) (n15 : nvQ u15) (n16 : nvQ u16) (R : Rel D n V) (hle : n ≤ 12) (hs : s < n) (hdo : dv D o) (e0 : vStubOf V s 6 = nI h) (hk : Wp (d + 10) 114 Q 181 [.ref 0, .int l1, .int l2, .int l3, .int l4, .int l5, .ref o, .int (nI h), .int (nI W), .int (nI M), .int (nI (X + 1)), .int (nI O), .int (nI C), .int (nI s), u14, u15, u16] [] D) : Wp (d + 10) 114 Q 158 [.ref 0, .int l1, .int l2, .int l3, .int l4, .int l5, .ref o, .int (nI h), .int (nI W), .int (nI M), .int (nI X), .int (nI O), .int (nI C), .int (nI s), u14, u15, u16] [] D := by
  refine w_ild10 i114_158 ?_
  refine w_ald0 i114_160 ?_
  refine w_ild13 i114_161 ?_
  refine w_bip i114_163 kb_6 ?_
  refine w_VD3 i114_165 c58 (Or.inl rfl) (Or.inl ⟨by decide +kernel, by decide⟩) (by repeat (first | exact nvL_nil | refine nvL_cons (by first | exact True.intro | exact nvSt (by decide) | exact nvD hdo | exact n14.nv | exact n15.nv | exact n16.nv | exact nvK (by omega) (by omega)) ?_)) ⟨(by repeat (first | exact nvL_nil | refine nvL_cons (by first | exact True.intro | exact nvSt (by decide) | exact nvD hdo | exact n14.nv | exact n15.nv | exact n16.nv | exact nvK (by omega) (by omega)) ?_)), rfl, Nat.le_of_ble_eq_true rfl⟩ (Ex_go (K_stubOf_6 R hle hs) ?_)
  refine w_ild7 i114_168 ?_
  refine w_cneF i114_170  e0 ?_
  refine w_const i114_173 kc_1 ?_
  refine w_goto i114_174 g114_174 ?_
  refine w_iadd i114_178 (nI_add _ _) ?_
  refine w_ist10 i114_179 ?_
  exact hk
set_option maxHeartbeats 1000000 in
theorem hs_b0 {d : Nat} {D : Mm} {Q : Option Value → Mm → Prop} {n s h o W M X O C : Nat} {V : Nat → Int32} {l1 l2 l3 l4 l5 : Int32} {u14 u15 u16 : Value} (n14 : nvQ u14) (n15 : nvQ u15) (n16 : nvQ u16) (R : Rel D n V) (hle : n ≤ 12) (hs : s < n) (hdo : dv D o) (e0 : ¬ vStubOf V s 6 = nI h) (hk : Wp (d + 10) 114 Q 181 [.ref 0, .int l1, .int l2, .int l3, .int l4, .int l5, .ref o, .int (nI h), .int (nI W), .int (nI M), .int (nI (X + 0)), .int (nI O), .int (nI C), .int (nI s), u14, u15, u16] [] D) : Wp (d + 10) 114 Q 158 [.ref 0, .int l1, .int l2, .int l3, .int l4, .int l5, .ref o, .int (nI h), .int (nI W), .int (nI M), .int (nI X), .int (nI O), .int (nI C), .int (nI s), u14, u15, u16] [] D := by
  refine w_ild10 i114_158 ?_
  refine w_ald0 i114_160 ?_
  refine w_ild13 i114_161 ?_
  refine w_bip i114_163 kb_6 ?_
  refine w_VD3 i114_165 c58 (Or.inl rfl) (Or.inl ⟨by decide +kernel, by decide⟩) (by repeat (first | exact nvL_nil | refine nvL_cons (by first | exact True.intro | exact nvSt (by decide) | exact nvD hdo | exact n14.nv | exact n15.nv | exact n16.nv | exact nvK (by omega) (by omega)) ?_)) ⟨(by repeat (first | exact nvL_nil | refine nvL_cons (by first | exact True.intro | exact nvSt (by decide) | exact nvD hdo | exact n14.nv | exact n15.nv | exact n16.nv | exact nvK (by omega) (by omega)) ?_)), rfl, Nat.le_of_ble_eq_true rfl⟩ (Ex_go (K_stubOf_6 R hle hs) ?_)
  refine w_ild7 i114_168 ?_
  refine w_cneT i114_170 g114_170  e0 ?_
  refine w_const i114_177 kc_0 ?_
  refine w_iadd i114_178 (nI_add _ _) ?_
  refine w_ist10 i114_179 ?_
  exact hk
set_option maxHeartbeats 1000000 in
theorem hs_c1 {d : Nat} {D : Mm} {Q : Option Value → Mm → Prop} {n s h o W M X O C : Nat} {V : Nat → Int32} {l1 l2 l3 l4 l5 : Int32} {u14 u15 u16 : Value} (n14 : nvQ u14) (n15 : nvQ u15) (n16 : nvQ u16) (R : Rel D n V) (hle : n ≤ 12) (hs : s < n) (hdo : dv D o) {u : Nat} (e0 : vStubOf V s 3 = nI h) (hv4 : vStubOf V s 4 = nI u) (hk : Wp (d + 10) 114 Q 70 [.ref 0, .int l1, .int l2, .int l3, .int l4, .int l5, .ref o, .int (nI h), .int (nI W), .int (nI M), .int (nI X), .int (nI O), .int (nI (C + u)), .int (nI (s + 1)), u14, u15, u16] [] D) : Wp (d + 10) 114 Q 181 [.ref 0, .int l1, .int l2, .int l3, .int l4, .int l5, .ref o, .int (nI h), .int (nI W), .int (nI M), .int (nI X), .int (nI O), .int (nI C), .int (nI s), u14, u15, u16] [] D := by
  refine w_ild12 i114_181 ?_
  refine w_ald0 i114_183 ?_
  refine w_ild13 i114_184 ?_
  refine w_const i114_186 kc_3 ?_
  refine w_VD3 i114_187 c58 (Or.inl rfl) (Or.inl ⟨by decide +kernel, by decide⟩) (by repeat (first | exact nvL_nil | refine nvL_cons (by first | exact True.intro | exact nvSt (by decide) | exact nvD hdo | exact n14.nv | exact n15.nv | exact n16.nv | exact nvK (by omega) (by omega)) ?_)) ⟨(by repeat (first | exact nvL_nil | refine nvL_cons (by first | exact True.intro | exact nvSt (by decide) | exact nvD hdo | exact n14.nv | exact n15.nv | exact n16.nv | exact nvK (by omega) (by omega)) ?_)), rfl, Nat.le_of_ble_eq_true rfl⟩ (Ex_go (K_stubOf_3 R hle hs) ?_)
  refine w_ild7 i114_190 ?_
  refine w_cneF i114_192  e0 ?_
  refine w_ald0 i114_195 ?_
  refine w_ild13 i114_196 ?_
  refine w_const i114_198 kc_4 ?_
  refine w_VD3 i114_199 c58 (Or.inl rfl) (Or.inl ⟨by decide +kernel, by decide⟩) (by repeat (first | exact nvL_nil | refine nvL_cons (by first | exact True.intro | exact nvSt (by decide) | exact nvD hdo | exact n14.nv | exact n15.nv | exact n16.nv | exact nvK (by omega) (by omega)) ?_)) ⟨(by repeat (first | exact nvL_nil | refine nvL_cons (by first | exact True.intro | exact nvSt (by decide) | exact nvD hdo | exact n14.nv | exact n15.nv | exact n16.nv | exact nvK (by omega) (by omega)) ?_)), rfl, Nat.le_of_ble_eq_true rfl⟩ (Ex_go (K_stubOf_4 R hle hs) ?_)
  rw [hv4]
  refine w_goto i114_202 g114_202 ?_
  refine w_iadd i114_206 (nI_add _ _) ?_
  refine w_ist12 i114_207 ?_
  refine w_inc13 i114_209 (inc1 _) ?_
  refine w_goto i114_212 g114_212 ?_
  exact hk
set_option maxHeartbeats 1000000 in
theorem hs_c0 {d : Nat} {D : Mm} {Q : Option Value → Mm → Prop} {n s h o W M X O C : Nat} {V : Nat → Int32} {l1 l2 l3 l4 l5 : Int32} {u14 u15 u16 : Value} (n14 : nvQ u14) (n15 : nvQ u15) (n16 : nvQ u16) (R : Rel D n V) (hle : n ≤ 12) (hs : s < n) (hdo : dv D o) (e0 : ¬ vStubOf V s 3 = nI h) (hk : Wp (d + 10) 114 Q 70 [.ref 0, .int l1, .int l2, .int l3, .int l4, .int l5, .ref o, .int (nI h), .int (nI W), .int (nI M), .int (nI X), .int (nI O), .int (nI (C + 0)), .int (nI (s + 1)), u14, u15, u16] [] D) : Wp (d + 10) 114 Q 181 [.ref 0, .int l1, .int l2, .int l3, .int l4, .int l5, .ref o, .int (nI h), .int (nI W), .int (nI M), .int (nI X), .int (nI O), .int (nI C), .int (nI s), u14, u15, u16] [] D := by
  refine w_ild12 i114_181 ?_
  refine w_ald0 i114_183 ?_
  refine w_ild13 i114_184 ?_
  refine w_const i114_186 kc_3 ?_
  refine w_VD3 i114_187 c58 (Or.inl rfl) (Or.inl ⟨by decide +kernel, by decide⟩) (by repeat (first | exact nvL_nil | refine nvL_cons (by first | exact True.intro | exact nvSt (by decide) | exact nvD hdo | exact n14.nv | exact n15.nv | exact n16.nv | exact nvK (by omega) (by omega)) ?_)) ⟨(by repeat (first | exact nvL_nil | refine nvL_cons (by first | exact True.intro | exact nvSt (by decide) | exact nvD hdo | exact n14.nv | exact n15.nv | exact n16.nv | exact nvK (by omega) (by omega)) ?_)), rfl, Nat.le_of_ble_eq_true rfl⟩ (Ex_go (K_stubOf_3 R hle hs) ?_)
  refine w_ild7 i114_190 ?_
  refine w_cneT i114_192 g114_192  e0 ?_
  refine w_const i114_205 kc_0 ?_
  refine w_iadd i114_206 (nI_add _ _) ?_
  refine w_ist12 i114_207 ?_
  refine w_inc13 i114_209 (inc1 _) ?_
  refine w_goto i114_212 g114_212 ?_
  exact hk
set_option maxHeartbeats 1000000 in
theorem hs_z {d : Nat} {D : Mm} {Q : Option Value → Mm → Prop} {n h o W M X O C : Nat} {V : Nat → Int32} {l1 l2 l3 l4 l5 : Int32} {u14 u15 u16 : Value} (n14 : nvQ u14) (n15 : nvQ u15) (n16 : nvQ u16) (R : Rel D n V) (hle : n ≤ 12) (hdo : dv D o) (hop : opV V) (hby : byV n V) (hk : Wp (d + 10) 114 Q 215 [.ref 0, .int l1, .int l2, .int l3, .int l4, .int l5, .ref o, .int (nI h), .int (nI W), .int (nI M), .int (nI X), .int (nI O), .int (nI C), .int (nI n), u14, u15, u16] [] D) : Wp (d + 10) 114 Q 70 [.ref 0, .int l1, .int l2, .int l3, .int l4, .int l5, .ref o, .int (nI h), .int (nI W), .int (nI M), .int (nI X), .int (nI O), .int (nI C), .int (nI n), u14, u15, u16] [] D := by
  refine w_ild13 i114_70 ?_
  refine w_ald0 i114_72 ?_
  refine w_const i114_73 kc_0 ?_
  refine w_VD2 i114_74 c80 (Or.inl rfl) (Or.inl ⟨by decide +kernel, by decide⟩) (by repeat (first | exact nvL_nil | refine nvL_cons (by first | exact True.intro | exact nvSt (by decide) | exact nvD hdo | exact n14.nv | exact n15.nv | exact n16.nv | exact nvK (by omega) (by omega)) ?_)) ⟨(by repeat (first | exact nvL_nil | refine nvL_cons (by first | exact True.intro | exact nvSt (by decide) | exact nvD hdo | exact n14.nv | exact n15.nv | exact n16.nv | exact nvK (by omega) (by omega)) ?_)), rfl, Nat.le_of_ble_eq_true rfl⟩ (Ex_go (K_acc0 R hle hop hby) ?_)
  refine w_cgeNT i114_77 g114_77 (by omega) (by omega) (Nat.le_refl _) ?_
  exact hk
set_option maxHeartbeats 1000000 in
theorem hs_n {d : Nat} {D : Mm} {Q : Option Value → Mm → Prop} {n s h o W M X O C : Nat} {V : Nat → Int32} {l1 l2 l3 l4 l5 : Int32} {u14 u15 u16 : Value} (n14 : nvQ u14) (n15 : nvQ u15) (n16 : nvQ u16) (R : Rel D n V) (hle : n ≤ 12) (hs : s < n) (hdo : dv D o) (hop : opV V) (hby : byV n V) (hk : Wp (d + 10) 114 Q 80 [.ref 0, .int l1, .int l2, .int l3, .int l4, .int l5, .ref o, .int (nI h), .int (nI W), .int (nI M), .int (nI X), .int (nI O), .int (nI C), .int (nI s), u14, u15, u16] [] D) : Wp (d + 10) 114 Q 70 [.ref 0, .int l1, .int l2, .int l3, .int l4, .int l5, .ref o, .int (nI h), .int (nI W), .int (nI M), .int (nI X), .int (nI O), .int (nI C), .int (nI s), u14, u15, u16] [] D := by
  refine w_ild13 i114_70 ?_
  refine w_ald0 i114_72 ?_
  refine w_const i114_73 kc_0 ?_
  refine w_VD2 i114_74 c80 (Or.inl rfl) (Or.inl ⟨by decide +kernel, by decide⟩) (by repeat (first | exact nvL_nil | refine nvL_cons (by first | exact True.intro | exact nvSt (by decide) | exact nvD hdo | exact n14.nv | exact n15.nv | exact n16.nv | exact nvK (by omega) (by omega)) ?_)) ⟨(by repeat (first | exact nvL_nil | refine nvL_cons (by first | exact True.intro | exact nvSt (by decide) | exact nvD hdo | exact n14.nv | exact n15.nv | exact n16.nv | exact nvK (by omega) (by omega)) ?_)), rfl, Nat.le_of_ble_eq_true rfl⟩ (Ex_go (K_acc0 R hle hop hby) ?_)
  refine w_cgeNF i114_77 (by omega) (by omega) hs ?_
  exact hk
set_option maxHeartbeats 1000000 in
theorem hs_o1 {d : Nat} {D : Mm} {Q : Option Value → Mm → Prop} {n h o : Nat} {V : Nat → Int32} {l1 l2 l3 l4 l5 : Int32} {u8 u9 u10 u11 u12 u13 u14 u15 u16 : Value} (n8 : nvQ u8) (n9 : nvQ u9) (n10 : nvQ u10) (n11 : nvQ u11) (n12 : nvQ u12) (n13 : nvQ u13) (n14 : nvQ u14) (n15 : nvQ u15) (n16 : nvQ u16) (R : Rel D n V) (hle : n ≤ 12) (hop : opV V) (hh : h < 6) (hdo : dv D o) {p : Nat} (hO : V (6 + 4 * h + 0) = nI 1) (hp : V (6 + 4 * h + 3) = nI p) (hk : Wp (d + 10) 114 Q 70 [.ref 0, .int l1, .int l2, .int l3, .int l4, .int l5, .ref o, .int (nI h), .int (nI 0), .int (nI 0), .int (nI 0), .int (nI 0), .int (nI p), .int (nI 0), u14, u15, u16] [] D) : Wp (d + 10) 114 Q 31 [.ref 0, .int l1, .int l2, .int l3, .int l4, .int l5, .ref o, .int (nI h), u8, u9, u10, u11, u12, u13, u14, u15, u16] [] D := by
  refine w_const i114_31 kc_0 ?_
  refine w_ist8 i114_32 ?_
  refine w_const i114_34 kc_0 ?_
  refine w_ist9 i114_35 ?_
  refine w_const i114_37 kc_0 ?_
  refine w_ist10 i114_38 ?_
  refine w_const i114_40 kc_0 ?_
  refine w_ist11 i114_41 ?_
  refine w_ald0 i114_43 ?_
  refine w_ild7 i114_44 ?_
  refine w_const i114_46 kc_0 ?_
  refine w_VD3 i114_47 c67 (Or.inl rfl) (Or.inl ⟨by decide +kernel, by decide⟩) (by repeat (first | exact nvL_nil | refine nvL_cons (by first | exact True.intro | exact nvSt (by decide) | exact nvD hdo | exact n8.nv | exact n9.nv | exact n10.nv | exact n11.nv | exact n12.nv | exact n13.nv | exact n14.nv | exact n15.nv | exact n16.nv | exact nvK (by omega) (by omega)) ?_)) ⟨(by repeat (first | exact nvL_nil | refine nvL_cons (by first | exact True.intro | exact nvSt (by decide) | exact nvD hdo | exact n8.nv | exact n9.nv | exact n10.nv | exact n11.nv | exact n12.nv | exact n13.nv | exact n14.nv | exact n15.nv | exact n16.nv | exact nvK (by omega) (by omega)) ?_)), rfl, Nat.le_of_ble_eq_true rfl⟩ (Ex_go (K_houseOf_0 R hle hop hh) ?_)
  rw [hO]
  refine w_const i114_50 kc_1 ?_
  refine w_cneNF i114_51 (by omega) (by omega) rfl ?_
  refine w_ald0 i114_54 ?_
  refine w_ild7 i114_55 ?_
  refine w_const i114_57 kc_3 ?_
  refine w_VD3 i114_58 c67 (Or.inl rfl) (Or.inl ⟨by decide +kernel, by decide⟩) (by repeat (first | exact nvL_nil | refine nvL_cons (by first | exact True.intro | exact nvSt (by decide) | exact nvD hdo | exact n8.nv | exact n9.nv | exact n10.nv | exact n11.nv | exact n12.nv | exact n13.nv | exact n14.nv | exact n15.nv | exact n16.nv | exact nvK (by omega) (by omega)) ?_)) ⟨(by repeat (first | exact nvL_nil | refine nvL_cons (by first | exact True.intro | exact nvSt (by decide) | exact nvD hdo | exact n8.nv | exact n9.nv | exact n10.nv | exact n11.nv | exact n12.nv | exact n13.nv | exact n14.nv | exact n15.nv | exact n16.nv | exact nvK (by omega) (by omega)) ?_)), rfl, Nat.le_of_ble_eq_true rfl⟩ (Ex_go (K_houseOf_3 R hle hop hh) ?_)
  rw [hp]
  refine w_goto i114_61 g114_61 ?_
  refine w_ist12 i114_65 ?_
  refine w_const i114_67 kc_0 ?_
  refine w_ist13 i114_68 ?_
  exact hk
set_option maxHeartbeats 1000000 in
theorem hs_o0 {d : Nat} {D : Mm} {Q : Option Value → Mm → Prop} {n h o : Nat} {V : Nat → Int32} {l1 l2 l3 l4 l5 : Int32} {u8 u9 u10 u11 u12 u13 u14 u15 u16 : Value} (n8 : nvQ u8) (n9 : nvQ u9) (n10 : nvQ u10) (n11 : nvQ u11) (n12 : nvQ u12) (n13 : nvQ u13) (n14 : nvQ u14) (n15 : nvQ u15) (n16 : nvQ u16) (R : Rel D n V) (hle : n ≤ 12) (hop : opV V) (hh : h < 6) (hdo : dv D o) (hO : V (6 + 4 * h + 0) = nI 0) (hk : Wp (d + 10) 114 Q 70 [.ref 0, .int l1, .int l2, .int l3, .int l4, .int l5, .ref o, .int (nI h), .int (nI 0), .int (nI 0), .int (nI 0), .int (nI 0), .int (nI 0), .int (nI 0), u14, u15, u16] [] D) : Wp (d + 10) 114 Q 31 [.ref 0, .int l1, .int l2, .int l3, .int l4, .int l5, .ref o, .int (nI h), u8, u9, u10, u11, u12, u13, u14, u15, u16] [] D := by
  refine w_const i114_31 kc_0 ?_
  refine w_ist8 i114_32 ?_
  refine w_const i114_34 kc_0 ?_
  refine w_ist9 i114_35 ?_
  refine w_const i114_37 kc_0 ?_
  refine w_ist10 i114_38 ?_
  refine w_const i114_40 kc_0 ?_
  refine w_ist11 i114_41 ?_
  refine w_ald0 i114_43 ?_
  refine w_ild7 i114_44 ?_
  refine w_const i114_46 kc_0 ?_
  refine w_VD3 i114_47 c67 (Or.inl rfl) (Or.inl ⟨by decide +kernel, by decide⟩) (by repeat (first | exact nvL_nil | refine nvL_cons (by first | exact True.intro | exact nvSt (by decide) | exact nvD hdo | exact n8.nv | exact n9.nv | exact n10.nv | exact n11.nv | exact n12.nv | exact n13.nv | exact n14.nv | exact n15.nv | exact n16.nv | exact nvK (by omega) (by omega)) ?_)) ⟨(by repeat (first | exact nvL_nil | refine nvL_cons (by first | exact True.intro | exact nvSt (by decide) | exact nvD hdo | exact n8.nv | exact n9.nv | exact n10.nv | exact n11.nv | exact n12.nv | exact n13.nv | exact n14.nv | exact n15.nv | exact n16.nv | exact nvK (by omega) (by omega)) ?_)), rfl, Nat.le_of_ble_eq_true rfl⟩ (Ex_go (K_houseOf_0 R hle hop hh) ?_)
  rw [hO]
  refine w_const i114_50 kc_1 ?_
  refine w_cneNT i114_51 g114_51 (by omega) (by omega) (by decide) ?_
  refine w_const i114_64 kc_0 ?_
  refine w_ist12 i114_65 ?_
  refine w_const i114_67 kc_0 ?_
  refine w_ist13 i114_68 ?_
  exact hk
