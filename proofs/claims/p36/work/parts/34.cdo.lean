/-! the class, one order -/
/-- what the class's steps need of the row -/
def HC (n : Nat) (V : Nat → Int32) : Prop := HV n V ∧ opV V ∧ byV n V ∧ crV n V ∧ wrN n V ∧ sdN n V ∧ shE n V ∧ (∀ j, j < 6 → ∀ r, vSucc V j = some r → ownN (n - (vInh j r n 0 n 0 (itr (vRt j r) n (vCl0 V j r))).1) (vInh j r n 0 n 0 (itr (vRt j r) n (vCl0 V j r))).2 r)
theorem HC.hv {n : Nat} {V : Nat → Int32} (H : HC n V) : HV n V := H.1
theorem HC.h12 {n : Nat} {V : Nat → Int32} (H : HC n V) : n ≤ 12 := H.1.h12
theorem HC.hn {n : Nat} {V : Nat → Int32} (H : HC n V) : V 0 = nI n := H.1.hn
theorem HC.ho {n : Nat} {V : Nat → Int32} (H : HC n V) : opV V := H.2.1
theorem HC.by_ {n : Nat} {V : Nat → Int32} (H : HC n V) : byV n V := H.2.2.1
theorem HC.cr {n : Nat} {V : Nat → Int32} (H : HC n V) : crV n V := H.2.2.2.1
theorem HC.wr {n : Nat} {V : Nat → Int32} (H : HC n V) : wrN n V := H.2.2.2.2.1
theorem HC.sd {n : Nat} {V : Nat → Int32} (H : HC n V) : sdN n V := H.2.2.2.2.2.1
theorem HC.sh {n : Nat} {V : Nat → Int32} (H : HC n V) : shE n V := H.2.2.2.2.2.2.1
theorem HC.ow {n : Nat} {V : Nat → Int32} (H : HC n V) : ∀ j, j < 6 → ∀ r, vSucc V j = some r → ownN (n - (vInh j r n 0 n 0 (itr (vRt j r) n (vCl0 V j r))).1) (vInh j r n 0 n 0 (itr (vRt j r) n (vCl0 V j r))).2 r := H.2.2.2.2.2.2.2
theorem K_oS {d : Nat} {D : Mm} {Q : Option Value → Mm → Prop} {n : Nat} {V : Nat → Int32} (R : Rel D n V) (H : HC n V) {a b c : Int32} (h : OutX (oS n V a b c) D Q) : Ct (d + 4) 86 [.ref 0, .int a, .int b, .int c] D Q := by
  unfold oS at h
  rcases caseH a with hb | ⟨j, hj, rfl⟩
  · rw [ifp_t hb] at h
    exact K_S_bad hb h
  · rw [ifp_f (okH hj), cl_nI (by first | omega | (have := H.h12; omega))] at h
    exact K_S R H.h12 H.hn H.ho hj h
theorem K_oM {d : Nat} {D : Mm} {Q : Option Value → Mm → Prop} {n : Nat} {V : Nat → Int32} (R : Rel D n V) (H : HC n V) {a b c : Int32} (h : OutX (oM n V a b c) D Q) : Ct (d + 4) 87 [.ref 0, .int a, .int b, .int c] D Q := by
  unfold oM at h
  rcases caseH a with hb | ⟨j, hj, rfl⟩
  · rw [ifp_t hb] at h
    exact K_M_bad hb h
  · rw [ifp_f (okH hj), cl_nI (by first | omega | (have := H.h12; omega))] at h
    exact K_M R H.h12 H.hn H.ho hj h
theorem K_oB {d : Nat} {D : Mm} {Q : Option Value → Mm → Prop} {n : Nat} {V : Nat → Int32} (R : Rel D n V) (H : HC n V) {a b : Int32} (h : OutX (oB n V a b) D Q) : Ct (d + 6) 89 [.ref 0, .int a, .int b] D Q := by
  unfold oB at h
  rcases caseS (n := n) (by have := H.h12; omega) a with hb | ⟨j, hj, rfl⟩
  · rw [ifp_t hb] at h
    exact K_B_bad R H.h12 hb h
  · rw [ifp_f (okS hj (by have := H.h12; omega)), cl_nI (by first | omega | (have := H.h12; omega))] at h
    exact K_B R H.h12 H.hn H.by_ hj h
theorem K_oP {d : Nat} {D : Mm} {Q : Option Value → Mm → Prop} {n : Nat} {V : Nat → Int32} (R : Rel D n V) (H : HC n V) {a b : Int32} (h : OutX (oP n V a b) D Q) : Ct (d + 4) 92 [.ref 0, .int a, .int b] D Q := by
  unfold oP at h
  rcases caseS (n := n) (by have := H.h12; omega) a with hb | ⟨j, hj, rfl⟩
  · rw [ifp_t hb] at h
    exact K_P_bad R H.h12 hb h
  · rw [ifp_f (okS hj (by have := H.h12; omega)), cl_nI (by first | omega | (have := H.h12; omega))] at h
    obtain ⟨o, ho6, ho⟩ := H.hv.hof j hj
    rw [ho, cl_nI (by omega)] at h
    exact K_P R H.h12 H.hn hj ho ho6 h
theorem K_oE {d : Nat} {D : Mm} {Q : Option Value → Mm → Prop} {n : Nat} {V : Nat → Int32} (R : Rel D n V) (H : HC n V) {a : Int32} (h : OutX (oE n V a) D Q) : Ct (d + 7) 95 [.ref 0, .int a] D Q := by
  unfold oE at h
  rcases caseH a with hb | ⟨j, hj, rfl⟩
  · rw [ifp_t hb] at h
    exact K_E_bad hb h
  · rw [ifp_f (okH hj), cl_nI (by first | omega | (have := H.h12; omega))] at h
    exact K_E R H.h12 H.hn H.ho H.hv.hr hj (H.ow _ hj) h
theorem K_oO {d : Nat} {D : Mm} {Q : Option Value → Mm → Prop} {n : Nat} {V : Nat → Int32} (R : Rel D n V) (H : HC n V) {a b c : Int32} (h : OutX (oO n V a b c) D Q) : Ct (d + 4) 90 [.ref 0, .int a, .int b, .int c] D Q := by
  unfold oO at h
  rcases caseS (n := n) (by have := H.h12; omega) a with hb | ⟨j, hj, rfl⟩
  · rw [ifp_t (Or.inl hb)] at h
    exact K_O_bad1 R H.h12 hb h
  · rcases caseH b with hb | ⟨i, hi, rfl⟩
    · rw [ifp_t (Or.inr hb)] at h
      exact K_O_bad2 R H.h12 hj hb h
    · rw [ifp_f (fun q => q.elim (okS hj (by have := H.h12; omega)) (okH hi)), cl_nI (by first | omega | (have := H.h12; omega)), cl_nI (by first | omega | (have := H.h12; omega))] at h
      exact K_O R H.h12 H.hn H.ho H.cr hj hi h
theorem K_oW {d : Nat} {D : Mm} {Q : Option Value → Mm → Prop} {n : Nat} {V : Nat → Int32} (R : Rel D n V) (H : HC n V) {a b c : Int32} (h : OutX (oW n V a b c) D Q) : Ct (d + 4) 91 [.ref 0, .int a, .int b, .int c] D Q := by
  unfold oW at h
  rcases caseH a with hb | ⟨j, hj, rfl⟩
  · rw [ifp_t (Or.inl hb)] at h
    exact K_W_bad1 hb h
  · rcases caseS (n := n) (by have := H.h12; omega) b with hb | ⟨i, hi, rfl⟩
    · rw [ifp_t (Or.inr hb)] at h
      exact K_W_bad2 R H.h12 hb hj h
    · rw [ifp_f (fun q => q.elim (okH hj) (okS hi (by have := H.h12; omega))), cl_nI (by first | omega | (have := H.h12; omega)), cl_nI (by first | omega | (have := H.h12; omega))] at h
      exact K_W R H.h12 H.hn H.ho H.by_ H.wr hi hj h
theorem K_oH {d : Nat} {D : Mm} {Q : Option Value → Mm → Prop} {n : Nat} {V : Nat → Int32} (R : Rel D n V) (H : HC n V) {a b : Int32} (h : OutX (oH V a b) D Q) : Ct (d + 4) 94 [.ref 0, .int a, .int b] D Q := by
  unfold oH at h
  rcases caseH a with hb | ⟨j, hj, rfl⟩
  · rw [ifp_t (Or.inl hb)] at h
    exact K_H_bad1 hb h
  · rcases caseH b with hb | ⟨i, hi, rfl⟩
    · rw [ifp_t (Or.inr hb)] at h
      exact K_H_bad2 hj hb h
    · rw [ifp_f (fun q => q.elim (okH hj) (okH hi)), cl_nI (by first | omega | (have := H.h12; omega)), cl_nI (by first | omega | (have := H.h12; omega))] at h
      exact K_H R H.h12 H.hn hj hi h
set_option maxHeartbeats 100000 in
theorem K_carry115 {d : Nat} {D : Mm} {Q : Option Value → Mm → Prop} {n : Nat} {V : Nat → Int32} (R : Rel D n V) (H : HC n V) {i : Nat} {a b c : Int32} (hi : i < 60) (h0 : D 161 i = nI 115) (h1 : D 162 i = a) (h2 : D 163 i = b) (h3 : D 164 i = c) (h : OutX (oDo n V 115 a b c) D Q) : Ct (d + 8) 97 [.ref 0, .int (nI i)] D Q := by
  rw [oDo115] at h
  refine ent m97 rfl rfl (ls := [.ref 0, .int (nI i), .retAddr 0, .retAddr 0, .retAddr 0]) rfl ?_
  refine w_ald0 i97_0 ?_
  refine w_gfR i97_1 (by decide) s_0 rfl ?_
  refine w_gfR i97_4 (by decide) s_160 rfl ?_
  refine w_ild1 i97_7 ?_
  refine w_ial i97_8 s_162 (by decide) (by omega) h1 ?_
  refine w_ist2 i97_9 ?_
  refine w_ald0 i97_10 ?_
  refine w_gfR i97_11 (by decide) s_0 rfl ?_
  refine w_gfR i97_14 (by decide) s_160 rfl ?_
  refine w_ild1 i97_17 ?_
  refine w_ial i97_18 s_163 (by decide) (by omega) h2 ?_
  refine w_ist3 i97_19 ?_
  refine w_ald0 i97_20 ?_
  refine w_gfR i97_21 (by decide) s_0 rfl ?_
  refine w_gfR i97_24 (by decide) s_160 rfl ?_
  refine w_ild1 i97_27 ?_
  refine w_ial i97_28 s_164 (by decide) (by omega) h3 ?_
  refine w_ist4 i97_29 ?_
  refine w_ald0 i97_31 ?_
  refine w_gfR i97_32 (by decide) s_0 rfl ?_
  refine w_gfR i97_35 (by decide) s_160 rfl ?_
  refine w_ild1 i97_38 ?_
  refine w_ial i97_39 s_161 (by decide) (by omega) h0 ?_
  refine w_ts (t := 144) i97_40 (by decide) ?_
  refine w_ald0 i97_144 ?_
  refine w_ild2 i97_145 ?_
  refine w_ild3 i97_146 ?_
  refine w_ild4 i97_147 ?_
  refine w_vG4 i97_149 c86 (Or.inl rfl) ⟨by decide +kernel, by decide⟩ rfl ⟨rfl, Nat.le_of_ble_eq_true rfl⟩ ?_
  exact K_oS R H (OutXr h (fun x D2 hq => w_ri i97_152 r97 hq))
set_option maxHeartbeats 100000 in
theorem K_carry98 {d : Nat} {D : Mm} {Q : Option Value → Mm → Prop} {n : Nat} {V : Nat → Int32} (R : Rel D n V) (H : HC n V) {i : Nat} {a b c : Int32} (hi : i < 60) (h0 : D 161 i = nI 98) (h1 : D 162 i = a) (h2 : D 163 i = b) (h3 : D 164 i = c) (h : OutX (oDo n V 98 a b c) D Q) : Ct (d + 8) 97 [.ref 0, .int (nI i)] D Q := by
  rw [oDo98] at h
  refine ent m97 rfl rfl (ls := [.ref 0, .int (nI i), .retAddr 0, .retAddr 0, .retAddr 0]) rfl ?_
  refine w_ald0 i97_0 ?_
  refine w_gfR i97_1 (by decide) s_0 rfl ?_
  refine w_gfR i97_4 (by decide) s_160 rfl ?_
  refine w_ild1 i97_7 ?_
  refine w_ial i97_8 s_162 (by decide) (by omega) h1 ?_
  refine w_ist2 i97_9 ?_
  refine w_ald0 i97_10 ?_
  refine w_gfR i97_11 (by decide) s_0 rfl ?_
  refine w_gfR i97_14 (by decide) s_160 rfl ?_
  refine w_ild1 i97_17 ?_
  refine w_ial i97_18 s_163 (by decide) (by omega) h2 ?_
  refine w_ist3 i97_19 ?_
  refine w_ald0 i97_20 ?_
  refine w_gfR i97_21 (by decide) s_0 rfl ?_
  refine w_gfR i97_24 (by decide) s_160 rfl ?_
  refine w_ild1 i97_27 ?_
  refine w_ial i97_28 s_164 (by decide) (by omega) h3 ?_
  refine w_ist4 i97_29 ?_
  refine w_ald0 i97_31 ?_
  refine w_gfR i97_32 (by decide) s_0 rfl ?_
  refine w_gfR i97_35 (by decide) s_160 rfl ?_
  refine w_ild1 i97_38 ?_
  refine w_ial i97_39 s_161 (by decide) (by omega) h0 ?_
  refine w_ts (t := 153) i97_40 (by decide) ?_
  refine w_ald0 i97_153 ?_
  refine w_ild2 i97_154 ?_
  refine w_ild3 i97_155 ?_
  refine w_vG3 i97_156 c89 (Or.inl rfl) ⟨by decide +kernel, by decide⟩ rfl ⟨rfl, Nat.le_of_ble_eq_true rfl⟩ ?_
  exact K_oB R H (OutXr h (fun x D2 hq => w_ri i97_159 r97 hq))
set_option maxHeartbeats 100000 in
theorem K_carry111 {d : Nat} {D : Mm} {Q : Option Value → Mm → Prop} {n : Nat} {V : Nat → Int32} (R : Rel D n V) (H : HC n V) {i : Nat} {a b c : Int32} (hi : i < 60) (h0 : D 161 i = nI 111) (h1 : D 162 i = a) (h2 : D 163 i = b) (h3 : D 164 i = c) (h : OutX (oDo n V 111 a b c) D Q) : Ct (d + 8) 97 [.ref 0, .int (nI i)] D Q := by
  rw [oDo111] at h
  refine ent m97 rfl rfl (ls := [.ref 0, .int (nI i), .retAddr 0, .retAddr 0, .retAddr 0]) rfl ?_
  refine w_ald0 i97_0 ?_
  refine w_gfR i97_1 (by decide) s_0 rfl ?_
  refine w_gfR i97_4 (by decide) s_160 rfl ?_
  refine w_ild1 i97_7 ?_
  refine w_ial i97_8 s_162 (by decide) (by omega) h1 ?_
  refine w_ist2 i97_9 ?_
  refine w_ald0 i97_10 ?_
  refine w_gfR i97_11 (by decide) s_0 rfl ?_
  refine w_gfR i97_14 (by decide) s_160 rfl ?_
  refine w_ild1 i97_17 ?_
  refine w_ial i97_18 s_163 (by decide) (by omega) h2 ?_
  refine w_ist3 i97_19 ?_
  refine w_ald0 i97_20 ?_
  refine w_gfR i97_21 (by decide) s_0 rfl ?_
  refine w_gfR i97_24 (by decide) s_160 rfl ?_
  refine w_ild1 i97_27 ?_
  refine w_ial i97_28 s_164 (by decide) (by omega) h3 ?_
  refine w_ist4 i97_29 ?_
  refine w_ald0 i97_31 ?_
  refine w_gfR i97_32 (by decide) s_0 rfl ?_
  refine w_gfR i97_35 (by decide) s_160 rfl ?_
  refine w_ild1 i97_38 ?_
  refine w_ial i97_39 s_161 (by decide) (by omega) h0 ?_
  refine w_ts (t := 160) i97_40 (by decide) ?_
  refine w_ald0 i97_160 ?_
  refine w_ild2 i97_161 ?_
  refine w_ild3 i97_162 ?_
  refine w_ild4 i97_163 ?_
  refine w_vG4 i97_165 c90 (Or.inl rfl) ⟨by decide +kernel, by decide⟩ rfl ⟨rfl, Nat.le_of_ble_eq_true rfl⟩ ?_
  exact K_oO R H (OutXr h (fun x D2 hq => w_ri i97_168 r97 hq))
set_option maxHeartbeats 100000 in
theorem K_carry119 {d : Nat} {D : Mm} {Q : Option Value → Mm → Prop} {n : Nat} {V : Nat → Int32} (R : Rel D n V) (H : HC n V) {i : Nat} {a b c : Int32} (hi : i < 60) (h0 : D 161 i = nI 119) (h1 : D 162 i = a) (h2 : D 163 i = b) (h3 : D 164 i = c) (h : OutX (oDo n V 119 a b c) D Q) : Ct (d + 8) 97 [.ref 0, .int (nI i)] D Q := by
  rw [oDo119] at h
  refine ent m97 rfl rfl (ls := [.ref 0, .int (nI i), .retAddr 0, .retAddr 0, .retAddr 0]) rfl ?_
  refine w_ald0 i97_0 ?_
  refine w_gfR i97_1 (by decide) s_0 rfl ?_
  refine w_gfR i97_4 (by decide) s_160 rfl ?_
  refine w_ild1 i97_7 ?_
  refine w_ial i97_8 s_162 (by decide) (by omega) h1 ?_
  refine w_ist2 i97_9 ?_
  refine w_ald0 i97_10 ?_
  refine w_gfR i97_11 (by decide) s_0 rfl ?_
  refine w_gfR i97_14 (by decide) s_160 rfl ?_
  refine w_ild1 i97_17 ?_
  refine w_ial i97_18 s_163 (by decide) (by omega) h2 ?_
  refine w_ist3 i97_19 ?_
  refine w_ald0 i97_20 ?_
  refine w_gfR i97_21 (by decide) s_0 rfl ?_
  refine w_gfR i97_24 (by decide) s_160 rfl ?_
  refine w_ild1 i97_27 ?_
  refine w_ial i97_28 s_164 (by decide) (by omega) h3 ?_
  refine w_ist4 i97_29 ?_
  refine w_ald0 i97_31 ?_
  refine w_gfR i97_32 (by decide) s_0 rfl ?_
  refine w_gfR i97_35 (by decide) s_160 rfl ?_
  refine w_ild1 i97_38 ?_
  refine w_ial i97_39 s_161 (by decide) (by omega) h0 ?_
  refine w_ts (t := 169) i97_40 (by decide) ?_
  refine w_ald0 i97_169 ?_
  refine w_ild2 i97_170 ?_
  refine w_ild3 i97_171 ?_
  refine w_ild4 i97_172 ?_
  refine w_vG4 i97_174 c91 (Or.inl rfl) ⟨by decide +kernel, by decide⟩ rfl ⟨rfl, Nat.le_of_ble_eq_true rfl⟩ ?_
  exact K_oW R H (OutXr h (fun x D2 hq => w_ri i97_177 r97 hq))
set_option maxHeartbeats 100000 in
theorem K_carry112 {d : Nat} {D : Mm} {Q : Option Value → Mm → Prop} {n : Nat} {V : Nat → Int32} (R : Rel D n V) (H : HC n V) {i : Nat} {a b c : Int32} (hi : i < 60) (h0 : D 161 i = nI 112) (h1 : D 162 i = a) (h2 : D 163 i = b) (h3 : D 164 i = c) (h : OutX (oDo n V 112 a b c) D Q) : Ct (d + 8) 97 [.ref 0, .int (nI i)] D Q := by
  rw [oDo112] at h
  refine ent m97 rfl rfl (ls := [.ref 0, .int (nI i), .retAddr 0, .retAddr 0, .retAddr 0]) rfl ?_
  refine w_ald0 i97_0 ?_
  refine w_gfR i97_1 (by decide) s_0 rfl ?_
  refine w_gfR i97_4 (by decide) s_160 rfl ?_
  refine w_ild1 i97_7 ?_
  refine w_ial i97_8 s_162 (by decide) (by omega) h1 ?_
  refine w_ist2 i97_9 ?_
  refine w_ald0 i97_10 ?_
  refine w_gfR i97_11 (by decide) s_0 rfl ?_
  refine w_gfR i97_14 (by decide) s_160 rfl ?_
  refine w_ild1 i97_17 ?_
  refine w_ial i97_18 s_163 (by decide) (by omega) h2 ?_
  refine w_ist3 i97_19 ?_
  refine w_ald0 i97_20 ?_
  refine w_gfR i97_21 (by decide) s_0 rfl ?_
  refine w_gfR i97_24 (by decide) s_160 rfl ?_
  refine w_ild1 i97_27 ?_
  refine w_ial i97_28 s_164 (by decide) (by omega) h3 ?_
  refine w_ist4 i97_29 ?_
  refine w_ald0 i97_31 ?_
  refine w_gfR i97_32 (by decide) s_0 rfl ?_
  refine w_gfR i97_35 (by decide) s_160 rfl ?_
  refine w_ild1 i97_38 ?_
  refine w_ial i97_39 s_161 (by decide) (by omega) h0 ?_
  refine w_ts (t := 178) i97_40 (by decide) ?_
  refine w_ald0 i97_178 ?_
  refine w_ild2 i97_179 ?_
  refine w_ild3 i97_180 ?_
  refine w_vG3 i97_181 c92 (Or.inl rfl) ⟨by decide +kernel, by decide⟩ rfl ⟨rfl, Nat.le_of_ble_eq_true rfl⟩ ?_
  exact K_oP R H (OutXr h (fun x D2 hq => w_ri i97_184 r97 hq))
set_option maxHeartbeats 100000 in
theorem K_carry100 {d : Nat} {D : Mm} {Q : Option Value → Mm → Prop} {n : Nat} {V : Nat → Int32} (R : Rel D n V) (H : HC n V) {i : Nat} {a b c : Int32} (hi : i < 60) (h0 : D 161 i = nI 100) (h1 : D 162 i = a) (h2 : D 163 i = b) (h3 : D 164 i = c) (h : OutX (oDo n V 100 a b c) D Q) : Ct (d + 8) 97 [.ref 0, .int (nI i)] D Q := by
  rw [oDo100] at h
  refine ent m97 rfl rfl (ls := [.ref 0, .int (nI i), .retAddr 0, .retAddr 0, .retAddr 0]) rfl ?_
  refine w_ald0 i97_0 ?_
  refine w_gfR i97_1 (by decide) s_0 rfl ?_
  refine w_gfR i97_4 (by decide) s_160 rfl ?_
  refine w_ild1 i97_7 ?_
  refine w_ial i97_8 s_162 (by decide) (by omega) h1 ?_
  refine w_ist2 i97_9 ?_
  refine w_ald0 i97_10 ?_
  refine w_gfR i97_11 (by decide) s_0 rfl ?_
  refine w_gfR i97_14 (by decide) s_160 rfl ?_
  refine w_ild1 i97_17 ?_
  refine w_ial i97_18 s_163 (by decide) (by omega) h2 ?_
  refine w_ist3 i97_19 ?_
  refine w_ald0 i97_20 ?_
  refine w_gfR i97_21 (by decide) s_0 rfl ?_
  refine w_gfR i97_24 (by decide) s_160 rfl ?_
  refine w_ild1 i97_27 ?_
  refine w_ial i97_28 s_164 (by decide) (by omega) h3 ?_
  refine w_ist4 i97_29 ?_
  refine w_ald0 i97_31 ?_
  refine w_gfR i97_32 (by decide) s_0 rfl ?_
  refine w_gfR i97_35 (by decide) s_160 rfl ?_
  refine w_ild1 i97_38 ?_
  refine w_ial i97_39 s_161 (by decide) (by omega) h0 ?_
  refine w_ts (t := 185) i97_40 (by decide) ?_
  refine w_ald0 i97_185 ?_
  refine w_vG1 i97_186 c93 (Or.inl rfl) ⟨by decide +kernel, by decide⟩ rfl ⟨rfl, Nat.le_of_ble_eq_true rfl⟩ ?_
  exact K_D R H.h12 H.hn H.ho H.sh (OutXr h (fun x D2 hq => w_ri i97_189 r97 hq))
set_option maxHeartbeats 100000 in
theorem K_carry109 {d : Nat} {D : Mm} {Q : Option Value → Mm → Prop} {n : Nat} {V : Nat → Int32} (R : Rel D n V) (H : HC n V) {i : Nat} {a b c : Int32} (hi : i < 60) (h0 : D 161 i = nI 109) (h1 : D 162 i = a) (h2 : D 163 i = b) (h3 : D 164 i = c) (h : OutX (oDo n V 109 a b c) D Q) : Ct (d + 8) 97 [.ref 0, .int (nI i)] D Q := by
  rw [oDo109] at h
  refine ent m97 rfl rfl (ls := [.ref 0, .int (nI i), .retAddr 0, .retAddr 0, .retAddr 0]) rfl ?_
  refine w_ald0 i97_0 ?_
  refine w_gfR i97_1 (by decide) s_0 rfl ?_
  refine w_gfR i97_4 (by decide) s_160 rfl ?_
  refine w_ild1 i97_7 ?_
  refine w_ial i97_8 s_162 (by decide) (by omega) h1 ?_
  refine w_ist2 i97_9 ?_
  refine w_ald0 i97_10 ?_
  refine w_gfR i97_11 (by decide) s_0 rfl ?_
  refine w_gfR i97_14 (by decide) s_160 rfl ?_
  refine w_ild1 i97_17 ?_
  refine w_ial i97_18 s_163 (by decide) (by omega) h2 ?_
  refine w_ist3 i97_19 ?_
  refine w_ald0 i97_20 ?_
  refine w_gfR i97_21 (by decide) s_0 rfl ?_
  refine w_gfR i97_24 (by decide) s_160 rfl ?_
  refine w_ild1 i97_27 ?_
  refine w_ial i97_28 s_164 (by decide) (by omega) h3 ?_
  refine w_ist4 i97_29 ?_
  refine w_ald0 i97_31 ?_
  refine w_gfR i97_32 (by decide) s_0 rfl ?_
  refine w_gfR i97_35 (by decide) s_160 rfl ?_
  refine w_ild1 i97_38 ?_
  refine w_ial i97_39 s_161 (by decide) (by omega) h0 ?_
  refine w_ts (t := 190) i97_40 (by decide) ?_
  refine w_ald0 i97_190 ?_
  refine w_ild2 i97_191 ?_
  refine w_ild3 i97_192 ?_
  refine w_ild4 i97_193 ?_
  refine w_vG4 i97_195 c87 (Or.inl rfl) ⟨by decide +kernel, by decide⟩ rfl ⟨rfl, Nat.le_of_ble_eq_true rfl⟩ ?_
  exact K_oM R H (OutXr h (fun x D2 hq => w_ri i97_198 r97 hq))
set_option maxHeartbeats 100000 in
theorem K_carry104 {d : Nat} {D : Mm} {Q : Option Value → Mm → Prop} {n : Nat} {V : Nat → Int32} (R : Rel D n V) (H : HC n V) {i : Nat} {a b c : Int32} (hi : i < 60) (h0 : D 161 i = nI 104) (h1 : D 162 i = a) (h2 : D 163 i = b) (h3 : D 164 i = c) (h : OutX (oDo n V 104 a b c) D Q) : Ct (d + 8) 97 [.ref 0, .int (nI i)] D Q := by
  rw [oDo104] at h
  refine ent m97 rfl rfl (ls := [.ref 0, .int (nI i), .retAddr 0, .retAddr 0, .retAddr 0]) rfl ?_
  refine w_ald0 i97_0 ?_
  refine w_gfR i97_1 (by decide) s_0 rfl ?_
  refine w_gfR i97_4 (by decide) s_160 rfl ?_
  refine w_ild1 i97_7 ?_
  refine w_ial i97_8 s_162 (by decide) (by omega) h1 ?_
  refine w_ist2 i97_9 ?_
  refine w_ald0 i97_10 ?_
  refine w_gfR i97_11 (by decide) s_0 rfl ?_
  refine w_gfR i97_14 (by decide) s_160 rfl ?_
  refine w_ild1 i97_17 ?_
  refine w_ial i97_18 s_163 (by decide) (by omega) h2 ?_
  refine w_ist3 i97_19 ?_
  refine w_ald0 i97_20 ?_
  refine w_gfR i97_21 (by decide) s_0 rfl ?_
  refine w_gfR i97_24 (by decide) s_160 rfl ?_
  refine w_ild1 i97_27 ?_
  refine w_ial i97_28 s_164 (by decide) (by omega) h3 ?_
  refine w_ist4 i97_29 ?_
  refine w_ald0 i97_31 ?_
  refine w_gfR i97_32 (by decide) s_0 rfl ?_
  refine w_gfR i97_35 (by decide) s_160 rfl ?_
  refine w_ild1 i97_38 ?_
  refine w_ial i97_39 s_161 (by decide) (by omega) h0 ?_
  refine w_ts (t := 199) i97_40 (by decide) ?_
  refine w_ald0 i97_199 ?_
  refine w_ild2 i97_200 ?_
  refine w_ild3 i97_201 ?_
  refine w_vG3 i97_202 c94 (Or.inl rfl) ⟨by decide +kernel, by decide⟩ rfl ⟨rfl, Nat.le_of_ble_eq_true rfl⟩ ?_
  exact K_oH R H (OutXr h (fun x D2 hq => w_ri i97_205 r97 hq))
set_option maxHeartbeats 100000 in
theorem K_carry101 {d : Nat} {D : Mm} {Q : Option Value → Mm → Prop} {n : Nat} {V : Nat → Int32} (R : Rel D n V) (H : HC n V) {i : Nat} {a b c : Int32} (hi : i < 60) (h0 : D 161 i = nI 101) (h1 : D 162 i = a) (h2 : D 163 i = b) (h3 : D 164 i = c) (h : OutX (oDo n V 101 a b c) D Q) : Ct (d + 8) 97 [.ref 0, .int (nI i)] D Q := by
  rw [oDo101] at h
  refine ent m97 rfl rfl (ls := [.ref 0, .int (nI i), .retAddr 0, .retAddr 0, .retAddr 0]) rfl ?_
  refine w_ald0 i97_0 ?_
  refine w_gfR i97_1 (by decide) s_0 rfl ?_
  refine w_gfR i97_4 (by decide) s_160 rfl ?_
  refine w_ild1 i97_7 ?_
  refine w_ial i97_8 s_162 (by decide) (by omega) h1 ?_
  refine w_ist2 i97_9 ?_
  refine w_ald0 i97_10 ?_
  refine w_gfR i97_11 (by decide) s_0 rfl ?_
  refine w_gfR i97_14 (by decide) s_160 rfl ?_
  refine w_ild1 i97_17 ?_
  refine w_ial i97_18 s_163 (by decide) (by omega) h2 ?_
  refine w_ist3 i97_19 ?_
  refine w_ald0 i97_20 ?_
  refine w_gfR i97_21 (by decide) s_0 rfl ?_
  refine w_gfR i97_24 (by decide) s_160 rfl ?_
  refine w_ild1 i97_27 ?_
  refine w_ial i97_28 s_164 (by decide) (by omega) h3 ?_
  refine w_ist4 i97_29 ?_
  refine w_ald0 i97_31 ?_
  refine w_gfR i97_32 (by decide) s_0 rfl ?_
  refine w_gfR i97_35 (by decide) s_160 rfl ?_
  refine w_ild1 i97_38 ?_
  refine w_ial i97_39 s_161 (by decide) (by omega) h0 ?_
  refine w_ts (t := 206) i97_40 (by decide) ?_
  refine w_ald0 i97_206 ?_
  refine w_ild2 i97_207 ?_
  refine w_vG2 i97_208 c95 (Or.inl rfl) ⟨by decide +kernel, by decide⟩ rfl ⟨rfl, Nat.le_of_ble_eq_true rfl⟩ ?_
  exact K_oE R H (OutXr h (fun x D2 hq => w_ri i97_211 r97 hq))
set_option maxHeartbeats 100000 in
theorem K_carry116 {d : Nat} {D : Mm} {Q : Option Value → Mm → Prop} {n : Nat} {V : Nat → Int32} (R : Rel D n V) (H : HC n V) {i : Nat} {a b c : Int32} (hi : i < 60) (h0 : D 161 i = nI 116) (h1 : D 162 i = a) (h2 : D 163 i = b) (h3 : D 164 i = c) (h : OutX (oDo n V 116 a b c) D Q) : Ct (d + 8) 97 [.ref 0, .int (nI i)] D Q := by
  rw [oDo116] at h
  refine ent m97 rfl rfl (ls := [.ref 0, .int (nI i), .retAddr 0, .retAddr 0, .retAddr 0]) rfl ?_
  refine w_ald0 i97_0 ?_
  refine w_gfR i97_1 (by decide) s_0 rfl ?_
  refine w_gfR i97_4 (by decide) s_160 rfl ?_
  refine w_ild1 i97_7 ?_
  refine w_ial i97_8 s_162 (by decide) (by omega) h1 ?_
  refine w_ist2 i97_9 ?_
  refine w_ald0 i97_10 ?_
  refine w_gfR i97_11 (by decide) s_0 rfl ?_
  refine w_gfR i97_14 (by decide) s_160 rfl ?_
  refine w_ild1 i97_17 ?_
  refine w_ial i97_18 s_163 (by decide) (by omega) h2 ?_
  refine w_ist3 i97_19 ?_
  refine w_ald0 i97_20 ?_
  refine w_gfR i97_21 (by decide) s_0 rfl ?_
  refine w_gfR i97_24 (by decide) s_160 rfl ?_
  refine w_ild1 i97_27 ?_
  refine w_ial i97_28 s_164 (by decide) (by omega) h3 ?_
  refine w_ist4 i97_29 ?_
  refine w_ald0 i97_31 ?_
  refine w_gfR i97_32 (by decide) s_0 rfl ?_
  refine w_gfR i97_35 (by decide) s_160 rfl ?_
  refine w_ild1 i97_38 ?_
  refine w_ial i97_39 s_161 (by decide) (by omega) h0 ?_
  refine w_ts (t := 212) i97_40 (by decide) ?_
  refine w_ald0 i97_212 ?_
  refine w_ild2 i97_213 ?_
  refine w_vG2 i97_214 c96 (Or.inl rfl) ⟨by decide +kernel, by decide⟩ rfl ⟨rfl, Nat.le_of_ble_eq_true rfl⟩ ?_
  exact K_T R H.h12 H.hn H.sd (OutXr h (fun x D2 hq => w_ri i97_217 r97 hq))
