/-! the law's arms of the two means -/
def dzB (a n : Nat) : Bool := decide (Op.cmpValue (FP.dcmp (mnD n a) (mnD n a)) .l = 0) && decide (Op.cmpValue (FP.dcmp (FP.f2d (mnF n a)) (FP.f2d (mnF n a))) .l = 0) && decide (FP.f2d (mnF n a) &&& 0x7fffffffffffffff ≤ 0x7ff0000000000000)
theorem dzB_all : ((List.range 361).all fun a => (List.range 13).all fun n => dzB a n) = true := by decide +kernel
theorem dz_ok {a n : Nat} (ha : a ≤ 360) (hn : n ≤ 12) : Op.cmpValue (FP.dcmp (mnD n a) (mnD n a)) .l = 0 ∧ Op.cmpValue (FP.dcmp (FP.f2d (mnF n a)) (FP.f2d (mnF n a))) .l = 0 ∧ vf_n64 (FP.f2d (mnF n a)) := by
  have h := List.all_eq_true.mp dzB_all a (List.mem_range.mpr (by omega))
  have h2 := List.all_eq_true.mp h n (List.mem_range.mpr (by omega))
  unfold dzB at h2
  rw [Bool.and_eq_true, Bool.and_eq_true] at h2
  exact ⟨of_decide_eq_true h2.1.1, of_decide_eq_true h2.1.2, by unfold vf_n64; exact of_decide_eq_true h2.2⟩
theorem zml_yX6_meanWax : Cond.methodLink R_law 130 yX6_meanWax ∈ Tall := atT_in (i := 9232) (by decide +kernel)
theorem zmi_yX6_meanWax : Cond.instanceMethod yX6_meanWax ∈ Tall := atT_in (i := 9233) (by decide +kernel)
theorem zms_yX6_meanWax : Cond.selects yX6_meanWax.cls yX6_meanWax yX6_meanWax ∈ Tall := atT_in (i := 9234) (by decide +kernel)
theorem zmn_yX6_meanWax : Cond.initialized yX6_meanWax.cls ∈ Tall := atT_in (i := 6001) (by decide +kernel)
theorem zmc_yX6_meanWax : Cond.code yX6_meanWax cX6_meanWax 2 (some .double) ∈ Tall := atT_in (i := 9235) (by decide +kernel)
theorem zml_yX7_meanWax : Cond.methodLink R_law 134 yX7_meanWax ∈ Tall := atT_in (i := 11171) (by decide +kernel)
theorem zmi_yX7_meanWax : Cond.instanceMethod yX7_meanWax ∈ Tall := atT_in (i := 11172) (by decide +kernel)
theorem zms_yX7_meanWax : Cond.selects yX7_meanWax.cls yX7_meanWax yX7_meanWax ∈ Tall := atT_in (i := 11173) (by decide +kernel)
theorem zmn_yX7_meanWax : Cond.initialized yX7_meanWax.cls ∈ Tall := atT_in (i := 6012) (by decide +kernel)
theorem zmc_yX7_meanWax : Cond.code yX7_meanWax cX7_meanWax 1 (some .double) ∈ Tall := atT_in (i := 11174) (by decide +kernel)
theorem zml_yX6_snuffedShare : Cond.methodLink R_law 135 yX6_snuffedShare ∈ Tall := atT_in (i := 9236) (by decide +kernel)
theorem zmi_yX6_snuffedShare : Cond.instanceMethod yX6_snuffedShare ∈ Tall := atT_in (i := 9237) (by decide +kernel)
theorem zms_yX6_snuffedShare : Cond.selects yX6_snuffedShare.cls yX6_snuffedShare yX6_snuffedShare ∈ Tall := atT_in (i := 9238) (by decide +kernel)
theorem zmn_yX6_snuffedShare : Cond.initialized yX6_snuffedShare.cls ∈ Tall := atT_in (i := 6001) (by decide +kernel)
theorem zmc_yX6_snuffedShare : Cond.code yX6_snuffedShare cX6_snuffedShare 2 (some .float) ∈ Tall := atT_in (i := 9239) (by decide +kernel)
theorem zml_yX7_snuffedShare : Cond.methodLink R_law 139 yX7_snuffedShare ∈ Tall := atT_in (i := 11175) (by decide +kernel)
theorem zmi_yX7_snuffedShare : Cond.instanceMethod yX7_snuffedShare ∈ Tall := atT_in (i := 11176) (by decide +kernel)
theorem zms_yX7_snuffedShare : Cond.selects yX7_snuffedShare.cls yX7_snuffedShare yX7_snuffedShare ∈ Tall := atT_in (i := 11177) (by decide +kernel)
theorem zmn_yX7_snuffedShare : Cond.initialized yX7_snuffedShare.cls ∈ Tall := atT_in (i := 6012) (by decide +kernel)
theorem zmc_yX7_snuffedShare : Cond.code yX7_snuffedShare cX7_snuffedShare 1 (some .float) ∈ Tall := atT_in (i := 11178) (by decide +kernel)
section
variable {p : Program} {l : Launch} {e : Env} {s : State} {m : MethodId} {below : List Frame} {meth : Method} {c : Code} {b L : Nat} {xs : Nat → Int32} {G : Gp} {ad0 ad : Nat → Nat} {D : Mm} {H : Heap} {locs : List Loc} {Q : State → Prop} {ls : Array Slot} {i V : Nat}
set_option maxHeartbeats 1000000 in
theorem arm_28 (hX : LX p s m c b L xs G ad0) (hH : LH s G ad0 ad D H locs) (hJ : J D V) (hV : V ≤ 18000) (hi : i + 4 ≤ L) (hl : lv_has ls 8 (lwv b i ad0))
    (tail : ∀ (ad3 : Nat → Nat) (D3 : Mm) (H3 : Heap) (locs3 : List Loc) (ls3 : Array Slot), LH s G ad0 ad3 D3 H3 locs3 → J D3 (V + 30) → lv_has ls3 8 (lwv b i ad0) → W p l e room_1 s m #[Value.ref b] below meth c H3 locs3 (151 + pot D3) (3562 + 2 * pot D3) Q (F0 m 1063 ls3 [])) :
    W p l e room_1 s m #[Value.ref b] below meth c H locs (151 + pot D) (3562 + 2 * pot D) Q (F0 m 940 ls []) := by
  have h6 := J_pot hJ
  obtain ⟨B, n, cc, nx, rs, tx, ln, HJ⟩ := id hJ
  have jI := HJ.2.1.1
  have jR := HJ.2.1.2
  have hB := HJ.1
  have hC := jI.hc (show B ≤ 20000 by omega)
  have h12 := jI.2.1
  obtain ⟨a, ha, ea⟩ := ofAll_bd jI
  have hz := dz_ok ha h12
  have hx := hX.1
  have hb := hX.2.1
  have e0 : ad 0 = ad0 0 := hH.1 0 (by decide) (by decide)
  refine lv_aload_n hx hb zl_940 rfl (lv_at hl 1 rfl) ?_
  refine law_call (y := yX6_meanWax) (rest := []) (As := []) (n := 0) (v := .double (mnD n a)) (D1 := D) (rm := rmD (0 + 2) 0) hX hH (by rw [Nat.sub_self, ← e0]; exact met_mean6 (d := 0) (snd 2) jR ea h12 ha) (fun _ => rfl) zml_yX6_meanWax zmi_yX6_meanWax zms_yX6_meanWax zmn_yX6_meanWax zmc_yX6_meanWax ⟨⟨by decide, by decide⟩, by decide +kernel⟩ ⟨by show 0 = pot D - pot D; omega, by show 2 * 0 = 2 * (pot D - pot D); omega⟩ ⟨Nat.le_of_ble_eq_true rfl, Nat.le_of_ble_eq_true rfl⟩ (by rw [← e0]; exact recv6 hX.2.2.2.2.2.2.2.1 hH.2.1) rfl hl.1 zl_941 (Nat.le_of_ble_eq_true rfl) (Nat.le_refl _) h6 (fun ad2 H2 locs2 hH2 => ?_)
  refine lv_dstore hx hb zl_944 hl (by decide) rfl (fun ls hl => ?_)
  have hl : lv_has ls 8 [(4, .double (mnD n a)), (0, .ref b), (1, .ref (ad0 0)), (2, .ref (ad0 171)), (3, .int (nI i))] := hl
  have e1 : ad2 171 = ad0 171 := hH2.1 171 (by decide) (by decide)
  refine lv_aload_n hx hb zl_946 rfl (lv_at hl 3 rfl) ?_
  refine law_call (y := yX7_meanWax) (rest := []) (As := []) (n := 0) (v := .double (mnD n a)) (D1 := D) (rm := rmD (0 + 2) 0) hX hH2 (by rw [Nat.sub_self, ← e1]; exact met_mean7 (d := 0) (snd 2) jI.1 ea h12 ha) (fun _ => rfl) zml_yX7_meanWax zmi_yX7_meanWax zms_yX7_meanWax zmn_yX7_meanWax zmc_yX7_meanWax ⟨⟨by decide, by decide⟩, by decide +kernel⟩ ⟨by show 0 = pot D - pot D; omega, by show 2 * 0 = 2 * (pot D - pot D); omega⟩ ⟨Nat.le_of_ble_eq_true rfl, Nat.le_of_ble_eq_true rfl⟩ (by rw [← e1]; exact recv7 hX.2.2.2.2.2.2.2.1 hH2.2.1) rfl hl.1 zl_947 (Nat.le_of_ble_eq_true rfl) (Nat.le_refl _) h6 (fun ad3 H3 locs3 hH3 => ?_)
  refine lv_dstore hx hb zl_950 hl (by decide) rfl (fun ls hl => ?_)
  have hl : lv_has ls 8 [(6, .double (mnD n a)), (4, .double (mnD n a)), (0, .ref b), (1, .ref (ad0 0)), (2, .ref (ad0 171)), (3, .int (nI i))] := hl
  refine lv_dload hx hb zl_952 (lv_at hl 1 rfl) ?_
  refine lv_dload hx hb zl_954 (lv_at hl 0 rfl) ?_
  refine lv_dcmp hx hb zl_956 ?_
  refine lv_if_eq hx hb zl_957 (tgt := 978) (by decide) (fun _ => ?_) (fun hz2 => absurd hz.1 hz2)
  refine lv_goto hx hb zl_978 (tgt := 1063) (by decide) ?_
  exact tail ad3 D H3 locs3 ls hH3 (hJ.mono (by omega)) (lv_sub hl [2, 3, 4, 5] rfl)
set_option maxHeartbeats 1000000 in
theorem arm_29 (hX : LX p s m c b L xs G ad0) (hH : LH s G ad0 ad D H locs) (hJ : J D V) (hV : V ≤ 18000) (hi : i + 4 ≤ L) (hl : lv_has ls 8 (lwv b i ad0))
    (tail : ∀ (ad3 : Nat → Nat) (D3 : Mm) (H3 : Heap) (locs3 : List Loc) (ls3 : Array Slot), LH s G ad0 ad3 D3 H3 locs3 → J D3 (V + 30) → lv_has ls3 8 (lwv b i ad0) → W p l e room_1 s m #[Value.ref b] below meth c H3 locs3 (151 + pot D3) (3562 + 2 * pot D3) Q (F0 m 1063 ls3 [])) :
    W p l e room_1 s m #[Value.ref b] below meth c H locs (151 + pot D) (3562 + 2 * pot D) Q (F0 m 981 ls []) := by
  have h6 := J_pot hJ
  obtain ⟨B, n, cc, nx, rs, tx, ln, HJ⟩ := id hJ
  have jI := HJ.2.1.1
  have jR := HJ.2.1.2
  have hB := HJ.1
  have hC := jI.hc (show B ≤ 20000 by omega)
  have h12 := jI.2.1
  obtain ⟨a, ha, ea⟩ := writs_bd jI
  have hz := dz_ok ha h12
  have hx := hX.1
  have hb := hX.2.1
  have e0 : ad 0 = ad0 0 := hH.1 0 (by decide) (by decide)
  refine lv_aload_n hx hb zl_981 rfl (lv_at hl 1 rfl) ?_
  refine law_call (y := yX6_snuffedShare) (rest := []) (As := []) (n := 0) (v := .float (mnF n a)) (D1 := D) (rm := rmD (0 + 2) 0) hX hH (by rw [Nat.sub_self, ← e0]; exact met_snuf6 (d := 0) (snd 2) jR hC.by_ ea h12 ha) (fun _ => rfl) zml_yX6_snuffedShare zmi_yX6_snuffedShare zms_yX6_snuffedShare zmn_yX6_snuffedShare zmc_yX6_snuffedShare ⟨⟨by decide, by decide⟩, by decide +kernel⟩ ⟨by show 0 = pot D - pot D; omega, by show 2 * 0 = 2 * (pot D - pot D); omega⟩ ⟨Nat.le_of_ble_eq_true rfl, Nat.le_of_ble_eq_true rfl⟩ (by rw [← e0]; exact recv6 hX.2.2.2.2.2.2.2.1 hH.2.1) rfl hl.1 zl_982 (Nat.le_of_ble_eq_true rfl) (Nat.le_refl _) h6 (fun ad2 H2 locs2 hH2 => ?_)
  refine lv_f2d hx hb zl_985 hz.2.2 ?_
  refine lv_dstore hx hb zl_986 hl (by decide) rfl (fun ls hl => ?_)
  have hl : lv_has ls 8 [(4, .double (FP.f2d (mnF n a))), (0, .ref b), (1, .ref (ad0 0)), (2, .ref (ad0 171)), (3, .int (nI i))] := hl
  have e1 : ad2 171 = ad0 171 := hH2.1 171 (by decide) (by decide)
  refine lv_aload_n hx hb zl_988 rfl (lv_at hl 3 rfl) ?_
  refine law_call (y := yX7_snuffedShare) (rest := []) (As := []) (n := 0) (v := .float (mnF n a)) (D1 := D) (rm := rmD (0 + 2) 0) hX hH2 (by rw [Nat.sub_self, ← e1]; exact met_snuf7 (d := 0) (snd 2) jI.1 ea h12 ha) (fun _ => rfl) zml_yX7_snuffedShare zmi_yX7_snuffedShare zms_yX7_snuffedShare zmn_yX7_snuffedShare zmc_yX7_snuffedShare ⟨⟨by decide, by decide⟩, by decide +kernel⟩ ⟨by show 0 = pot D - pot D; omega, by show 2 * 0 = 2 * (pot D - pot D); omega⟩ ⟨Nat.le_of_ble_eq_true rfl, Nat.le_of_ble_eq_true rfl⟩ (by rw [← e1]; exact recv7 hX.2.2.2.2.2.2.2.1 hH2.2.1) rfl hl.1 zl_989 (Nat.le_of_ble_eq_true rfl) (Nat.le_refl _) h6 (fun ad3 H3 locs3 hH3 => ?_)
  refine lv_f2d hx hb zl_992 hz.2.2 ?_
  refine lv_dstore hx hb zl_993 hl (by decide) rfl (fun ls hl => ?_)
  have hl : lv_has ls 8 [(6, .double (FP.f2d (mnF n a))), (4, .double (FP.f2d (mnF n a))), (0, .ref b), (1, .ref (ad0 0)), (2, .ref (ad0 171)), (3, .int (nI i))] := hl
  refine lv_dload hx hb zl_995 (lv_at hl 1 rfl) ?_
  refine lv_dload hx hb zl_997 (lv_at hl 0 rfl) ?_
  refine lv_dcmp hx hb zl_999 ?_
  refine lv_if_eq hx hb zl_1000 (tgt := 1021) (by decide) (fun _ => ?_) (fun hz2 => absurd hz.2.1 hz2)
  refine lv_goto hx hb zl_1021 (tgt := 1063) (by decide) ?_
  exact tail ad3 D H3 locs3 ls hH3 (hJ.mono (by omega)) (lv_sub hl [2, 3, 4, 5] rfl)
end
