/-! the capacity of a text, by hand -/
theorem z_iMath : Cond.initialized "java/lang/Math" ∈ Tall := atT_in (i := 6013) (by decide +kernel)
theorem z_iSup : Cond.initialized "jdk/internal/util/ArraysSupport" ∈ Tall := atT_in (i := 6014) (by decide +kernel)
theorem z_iArr : Cond.initialized "java/util/Arrays" ∈ Tall := atT_in (i := 6015) (by decide +kernel)
theorem z_iSys : Cond.initialized "java/lang/System" ∈ Tall := atT_in (i := 6016) (by decide +kernel)
theorem z_lNC : Cond.methodLink RJ5 104 yJ5_newCapacity_0f7a4 ∈ Tall := atT_in (i := 8136) (by decide +kernel)
theorem z_mNC : Cond.instanceMethod yJ5_newCapacity_0f7a4 ∈ Tall := atT_in (i := 8138) (by decide +kernel)
theorem z_cNC : Cond.code yJ5_newCapacity_0f7a4 cJ5_newCapacity_0f7a4 6 (some .int) ∈ Tall := atT_in (i := 8139) (by decide +kernel)
theorem z_lNL : Cond.methodLink RJ5 114 yJ8_newLength_cabcc ∈ Tall := atT_in (i := 8140) (by decide +kernel)
theorem z_sNL : Cond.static yJ8_newLength_cabcc ∈ Tall := atT_in (i := 8141) (by decide +kernel)
theorem z_cNL : Cond.code yJ8_newLength_cabcc cJ8_newLength_cabcc 4 (some .int) ∈ Tall := atT_in (i := 8142) (by decide +kernel)
theorem z_lMx : Cond.methodLink RJ8 194 Lib.Math.max.name ∈ Tall := atT_in (i := 8143) (by decide +kernel)
theorem z_sMx : Cond.static Lib.Math.max.name ∈ Tall := atT_in (i := 8144) (by decide +kernel)
theorem z_cMx : Cond.code Lib.Math.max.name Lib.Math.max.code 2 (some .int) ∈ Tall := atT_in (i := 8145) (by decide +kernel)
theorem z_k200 : Cond.constant RJ8 200 2147483639 ∈ Tall := atT_in (i := 8146) (by decide +kernel)
theorem z_k39 : Cond.constant RJ5 39 2147483647 ∈ Tall := atT_in (i := 8150) (by decide +kernel)
theorem z_lCO : Cond.methodLink RJ5 108 yJ7_copyOf_9075b ∈ Tall := atT_in (i := 8151) (by decide +kernel)
theorem z_sCO : Cond.static yJ7_copyOf_9075b ∈ Tall := atT_in (i := 8152) (by decide +kernel)
theorem z_cCO : Cond.code yJ7_copyOf_9075b cJ7_copyOf_9075b 3 (some (.array .byte)) ∈ Tall := atT_in (i := 8153) (by decide +kernel)
theorem z_lMn : Cond.methodLink RJ7 304 Lib.Math.min.name ∈ Tall := atT_in (i := 8161) (by decide +kernel)
theorem z_sMn : Cond.static Lib.Math.min.name ∈ Tall := atT_in (i := 7111) (by decide +kernel)
theorem z_cMn : Cond.code Lib.Math.min.name Lib.Math.min.code 2 (some .int) ∈ Tall := atT_in (i := 7112) (by decide +kernel)
theorem z_lAC : Cond.methodLink RJ7 150 arraycopyName ∈ Tall := atT_in (i := 8162) (by decide +kernel)
theorem z_sAC : Cond.static arraycopyName ∈ Tall := atT_in (i := 8163) (by decide +kernel)
theorem z_nAC : Cond.native arraycopyName ∈ Tall := atT_in (i := 8164) (by decide +kernel)
theorem znl_0 : decode cJ8_newLength_cabcc 0 = .ok (.iload_n 0, 1) := by decide +kernel
theorem znl_1 : decode cJ8_newLength_cabcc 1 = .ok (.iload_n 1, 1) := by decide +kernel
theorem znl_2 : decode cJ8_newLength_cabcc 2 = .ok (.iload_n 2, 1) := by decide +kernel
theorem znl_3 : decode cJ8_newLength_cabcc 3 = .ok (.invokestatic 194, 3) := by decide +kernel
theorem znl_6 : decode cJ8_newLength_cabcc 6 = .ok (.iadd, 1) := by decide +kernel
theorem znl_7 : decode cJ8_newLength_cabcc 7 = .ok (.istore_n 3, 1) := by decide +kernel
theorem znl_8 : decode cJ8_newLength_cabcc 8 = .ok (.iconst 0, 1) := by decide +kernel
theorem znl_9 : decode cJ8_newLength_cabcc 9 = .ok (.iload_n 3, 1) := by decide +kernel
theorem znl_10 : decode cJ8_newLength_cabcc 10 = .ok (.if_icmp .ge 11, 3) := by decide +kernel
theorem znl_13 : decode cJ8_newLength_cabcc 13 = .ok (.iload_n 3, 1) := by decide +kernel
theorem znl_14 : decode cJ8_newLength_cabcc 14 = .ok (.ldc 200, 2) := by decide +kernel
theorem znl_16 : decode cJ8_newLength_cabcc 16 = .ok (.if_icmp .gt 5, 3) := by decide +kernel
theorem znl_19 : decode cJ8_newLength_cabcc 19 = .ok (.iload_n 3, 1) := by decide +kernel
theorem znl_20 : decode cJ8_newLength_cabcc 20 = .ok (.ireturn, 1) := by decide +kernel
theorem cap_eq {m q : Nat} (h : m < q) (hq : q ≤ 30000) : nI m + (if nI (q - m) < nI (m + 2) then nI (m + 2) else nI (q - m)) = nI (sb_cap q m) := by
  have hc : sb_cap q m = m + (if q - m < m + 2 then m + 2 else q - m) := by
    unfold sb_cap
    rw [if_neg (by omega)]
    split <;> split <;> omega
  rw [hc]
  by_cases h2 : q - m < m + 2
  · rw [if_pos h2, if_pos (nI_lt h2 (by omega))]
    exact nI_add m (m + 2)
  · rw [if_neg h2, if_neg (nI_nlt (by omega) (by omega))]
    exact nI_add m (q - m)
theorem cap_bd {m q : Nat} (h : m < q) (hq : q ≤ 30000) : q ≤ sb_cap q m ∧ sb_cap q m ≤ 60002 := by
  unfold sb_cap
  rw [if_neg (by omega)]
  split <;> omega
set_option maxHeartbeats 4000000 in
theorem met_nl {l : Launch} {G : Gp} {D : Mm} {ad : Nat → Nat} {sz m q : Nat} (h : m < q) (hq : q ≤ 30000) :
    Met l yJ8_newLength_cabcc (Cond.code yJ8_newLength_cabcc cJ8_newLength_cabcc 4 (some .int) :: Tall) (rmD 1 0) (va_Pc [.int (nI m), .int (nI (q - m)), .int (nI (m + 2))] (MP G ad D sz)) (MC G ad D sz (some (.int (nI (sb_cap q m)))) D) 0 0 (va_A (wsOf G.2.1 ad D) sz) := by
  refine va_MetF (cc := cJ8_newLength_cabcc) (maxL := 4) (ret := some .int) (by decide +kernel) rfl ?_
  intro p e s mm args0 below meth c s₁ B hml hv
  obtain ⟨rfl, hsz, hP, hK, hD0, hRO⟩ := hv
  have hts := atoms_spec (ws := Cond.code yJ8_newLength_cabcc cJ8_newLength_cabcc 4 (some .int) :: Tall) B.pre
  have htT := fun w hw => hts w (List.mem_cons_of_mem _ hw)
  have hown : s.vm.findClass (yJ8_newLength_cabcc).cls = some mm.cls := findClass_of_methodNamed B.named
  have hx := B.exec
  have hb := B.bytes
  have hlocks := B.notSynchronized
  subst hsz
  have hf := hRO.2.2.2.2.2.2.2.2
  have hD : va_D (va_A (wsOf G.2.1 ad D) s.heap.size) (wsOf G.2.1 ad D) := hD0.self
  have hS0 : va_S (va_A (wsOf G.2.1 ad D) s.heap.size) s.heap s.heap [] := va_S.rf
  have hl := LOK.entry (ad := ad) hf (args := [.int (nI m), .int (nI (q - m)), .int (nI (m + 2))]) (n := 4) rfl (by show 3 ≤ 4; decide)
  have bd := cap_bd h hq
  rw [lg_entry_eq]
  refine lv_iload_n hx hb znl_0 rfl (hl.get (i := 0) (v := .int (nI m)) rfl (by simp)) ?_
  refine lv_iload_n hx hb znl_1 rfl (hl.get (i := 1) (v := .int (nI (q - m))) rfl (by simp)) ?_
  refine lv_iload_n hx hb znl_2 rfl (hl.get (i := 2) (v := .int (nI (m + 2))) rfl (by simp)) ?_
  refine va_mmax hx hb (hml.trans hl.1.symm) hown (htT _ z_lMx) (htT _ z_sMx) (htT _ z_iMath) (htT _ z_cMx) (by show 1 ≤ 1; decide) (by show _ + 13 ≤ 38; simp [Value.category]) (Nat.zero_le _) (Nat.zero_le _) znl_3 ?_
  refine lv_iadd hx hb znl_6 ?_
  rw [cap_eq h hq]
  refine lv_istore_n hx hb znl_7 rfl hl.has (by decide) rfl (fun lsB hB => ?_)
  have hl2 := hl.set hf (i := 3) (v := .int (nI (sb_cap q m))) (by show 3 < 4; decide) rfl hB
  refine lv_iconst hx hb znl_8 (v := nI 0) rfl ?_
  refine lv_iload_n hx hb znl_9 rfl (hl2.get (i := 3) (v := .int (nI (sb_cap q m))) rfl (by simp)) ?_
  refine lv_icmp_ge hx hb znl_10 (tgt := 21) (by decide) (fun hz => absurd hz (nI_ge (by omega) (by omega))) (fun _ => ?_)
  refine lv_iload_n hx hb znl_13 rfl (hl2.get (i := 3) (v := .int (nI (sb_cap q m))) rfl (by simp)) ?_
  refine lv_ldc hx hb hown (htT _ z_k200) znl_14 ?_
  refine lv_icmp_gt hx hb znl_16 (tgt := 21) (by decide) (fun hz => absurd hz (show ¬ nI 2147483639 < nI (sb_cap q m) from nI_nlt (by omega) (by decide))) (fun _ => ?_)
  refine lv_iload_n hx hb znl_19 rfl (hl2.get (i := 3) (v := .int (nI (sb_cap q m))) rfl (by simp)) ?_
  exact W.iret hx hb B.returns (fun t ht hW => ⟨⟨_, rfl, ad, agree.rf, rfl, by rw [ht]; exact hP, va_K.moved hW.alike hK, hD, fun _ => rfl⟩, hS0.F ht⟩) hS0.2.2 znl_20 hlocks
