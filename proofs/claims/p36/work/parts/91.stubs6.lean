/-! the law's stubs: one by one -/
set_option maxHeartbeats 1000000 in
theorem su_g {d : Nat} {D : Mm} {Q : Option Value → Mm → Prop} {n s ar : Nat} {V : Nat → Int32} {l3 v0 v3 v6 : Int32} {l5 l6 l7 l8 l9 l10 l11 : Value} (n5 : nvV D l5) (n6 : nvV D l6) (n7 : nvV D l7) (n8 : nvV D l8) (n9 : nvV D l9) (n10 : nvV D l10) (n11 : nvV D l11) (R : Rel D n V) (hle : n ≤ 12) (hs : s < n) (hda : dv D ar) (hv0 : vStubOf V s 0 = v0) (hv3 : vStubOf V s 3 = v3) (hv6 : vStubOf V s 6 = v6) (hk : Wp (d + 10) 113 Q 49 [.ref 0, .int (nI n), .ref ar, .int l3, .int (nI s), .int v0, .int v3, .int v6, l8, l9, l10, l11] [] D) : Wp (d + 10) 113 Q 15 [.ref 0, .int (nI n), .ref ar, .int l3, .int (nI s), l5, l6, l7, l8, l9, l10, l11] [] D := by
  refine w_ild4 i113_15 ?_
  refine w_ild1 i113_17 ?_
  refine w_cgeNF i113_18 (by omega) (by omega) (by omega) ?_
  refine w_ald0 i113_21 ?_
  refine w_ild4 i113_22 ?_
  refine w_const i113_24 kc_0 ?_
  refine w_VD3 i113_25 c58 (Or.inl rfl) (Or.inl ⟨by decide +kernel, by decide⟩) (by repeat (first | exact nvL_nil | refine nvL_cons (by first | exact True.intro | exact nvSt (by decide) | exact nvD hda | exact n5 | exact n6 | exact n7 | exact n8 | exact n9 | exact n10 | exact n11 | exact nvK (by omega) (by omega)) ?_)) ⟨(by repeat (first | exact nvL_nil | refine nvL_cons (by first | exact True.intro | exact nvSt (by decide) | exact nvD hda | exact n5 | exact n6 | exact n7 | exact n8 | exact n9 | exact n10 | exact n11 | exact nvK (by omega) (by omega)) ?_)), rfl, Nat.le_of_ble_eq_true rfl⟩ (Ex_go (K_stubOf_0 R hle hs) ?_)
  rw [hv0]
  refine w_ist5 i113_28 ?_
  refine w_ald0 i113_30 ?_
  refine w_ild4 i113_31 ?_
  refine w_const i113_33 kc_3 ?_
  refine w_VD3 i113_34 c58 (Or.inl rfl) (Or.inl ⟨by decide +kernel, by decide⟩) (by repeat (first | exact nvL_nil | refine nvL_cons (by first | exact True.intro | exact nvSt (by decide) | exact nvD hda | exact n5 | exact n6 | exact n7 | exact n8 | exact n9 | exact n10 | exact n11 | exact nvK (by omega) (by omega)) ?_)) ⟨(by repeat (first | exact nvL_nil | refine nvL_cons (by first | exact True.intro | exact nvSt (by decide) | exact nvD hda | exact n5 | exact n6 | exact n7 | exact n8 | exact n9 | exact n10 | exact n11 | exact nvK (by omega) (by omega)) ?_)), rfl, Nat.le_of_ble_eq_true rfl⟩ (Ex_go (K_stubOf_3 R hle hs) ?_)
  rw [hv3]
  refine w_ist6 i113_37 ?_
  refine w_ald0 i113_39 ?_
  refine w_ild4 i113_40 ?_
  refine w_bip i113_42 kb_6 ?_
  refine w_VD3 i113_44 c58 (Or.inl rfl) (Or.inl ⟨by decide +kernel, by decide⟩) (by repeat (first | exact nvL_nil | refine nvL_cons (by first | exact True.intro | exact nvSt (by decide) | exact nvD hda | exact n5 | exact n6 | exact n7 | exact n8 | exact n9 | exact n10 | exact n11 | exact nvK (by omega) (by omega)) ?_)) ⟨(by repeat (first | exact nvL_nil | refine nvL_cons (by first | exact True.intro | exact nvSt (by decide) | exact nvD hda | exact n5 | exact n6 | exact n7 | exact n8 | exact n9 | exact n10 | exact n11 | exact nvK (by omega) (by omega)) ?_)), rfl, Nat.le_of_ble_eq_true rfl⟩ (Ex_go (K_stubOf_6 R hle hs) ?_)
  rw [hv6]
  refine w_ist7 i113_47 ?_
  exact hk
