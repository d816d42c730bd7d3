/-! the capacity of a text, by hand -/
theorem hand_get {p : Program} {l : Launch} {e : Env} {s : State} {m : MethodId} {args : Array Value} {below : List Frame} {meth : Method} {c : Code} {G : Gp} {R : Room} {cc : ByteArray} {ad : Nat → Nat} {D : Mm} (hx : p.tables.exec = Jvm.exec) (hb : c.code = cc) {k0 pc0 idx a b cf dd : Nat} (hk : k0 < mnames + 1) (hi : ins k0 pc0 = some (.getfield idx, a, b, cf, dd)) (hb25 : b ≠ 25) (hown : s.vm.findClass (cN (nO k0)) = some m.cls) (htT : ∀ w ∈ Tall, w.before args s = true)
    (hK : va_K G.1 vwCl (tysA G.2.1) s) {o : Nat} (h0 : (sh o).1 = b) {v : Value} (hv : fld ad D o (sh o).2.2 cf = v) {pc : Nat} {lsA : Array Slot} {rest : List Value} (hdg : decode cc pc = .ok (.getfield idx, 3))
    {H : Heap} {locs : List Loc} {cells slots : Nat} (hP : va_P G.1 vwCl (wsOf G.2.1 ad D) H) {Q : State → Prop} (next : W p l e R s m args below meth c H locs cells slots Q (F0 m (pc + 3) lsA (v :: rest))) :
    W p l e R s m args below meth c H locs cells slots Q (F0 m pc lsA (.ref (ad o) :: rest)) := by
  obtain ⟨q, hq, hcN, hlink, -⟩ := fld_fact hk (Or.inl rfl) hb25 hi
  have hlt : b < 20 := by have h9 := (List.getElem?_eq_some_iff.mp hq).1; simp [vwCl] at h9; omega
  have hsh : (sh o).1 < 20 := by omega
  have ho : o < NC := sh_lt (by omega)
  obtain ⟨hq1, -⟩ := clsF b q hq
  obtain ⟨hlen, q2, hq2, hN⟩ := sh_cls hsh
  rw [h0, hq] at hq2
  cases hq2
  have hget : (wsOf G.2.1 ad D)[ps o]? = some (ad o, .inr (b, (List.range (sh o).2.1).map (fld ad D o (sh o).2.2))) := by rw [ws_get (okSt h0 (by omega)), cell_obj hsh, h0]
  have hfl : ((List.range (sh o).2.1).map (fld ad D o (sh o).2.2))[cf]? = some (fld ad D o (sh o).2.2 cf) := fs_get (by rw [← hN]; exact hcN)
  exact va_get hx hb htT hq1 hown hK hP (ps o) hget hq cf hcN (htT _ hlink) (fun _ z => z) (v := v) (by rw [hfl, hv]) hdg next
theorem z_iMath : Cond.initialized "java/lang/Math" ∈ Tall := atT_in (i := 3012) (by decide +kernel)
theorem z_iSup : Cond.initialized "jdk/internal/util/ArraysSupport" ∈ Tall := atT_in (i := 3016) (by decide +kernel)
theorem z_iArr : Cond.initialized "java/util/Arrays" ∈ Tall := atT_in (i := 3017) (by decide +kernel)
theorem z_iSys : Cond.initialized "java/lang/System" ∈ Tall := atT_in (i := 3018) (by decide +kernel)
theorem z_lNC : Cond.methodLink RJ5 104 yJ5_newCapacity_0f7a4 ∈ Tall := atT_in (i := 5148) (by decide +kernel)
theorem z_mNC : Cond.instanceMethod yJ5_newCapacity_0f7a4 ∈ Tall := atT_in (i := 5150) (by decide +kernel)
theorem z_cNC : Cond.code yJ5_newCapacity_0f7a4 cJ5_newCapacity_0f7a4 6 (some .int) ∈ Tall := atT_in (i := 5151) (by decide +kernel)
theorem z_lNL : Cond.methodLink RJ5 114 yJ8_newLength_cabcc ∈ Tall := atT_in (i := 5152) (by decide +kernel)
theorem z_sNL : Cond.static yJ8_newLength_cabcc ∈ Tall := atT_in (i := 5153) (by decide +kernel)
theorem z_cNL : Cond.code yJ8_newLength_cabcc cJ8_newLength_cabcc 4 (some .int) ∈ Tall := atT_in (i := 5154) (by decide +kernel)
theorem z_lMx : Cond.methodLink RJ8 194 Lib.Math.max.name ∈ Tall := atT_in (i := 5155) (by decide +kernel)
theorem z_sMx : Cond.static Lib.Math.max.name ∈ Tall := atT_in (i := 5051) (by decide +kernel)
theorem z_cMx : Cond.code Lib.Math.max.name Lib.Math.max.code 2 (some .int) ∈ Tall := atT_in (i := 5052) (by decide +kernel)
theorem z_k200 : Cond.constant RJ8 200 2147483639 ∈ Tall := atT_in (i := 5156) (by decide +kernel)
theorem z_k39 : Cond.constant RJ5 39 2147483647 ∈ Tall := atT_in (i := 5160) (by decide +kernel)
theorem z_lCO : Cond.methodLink RJ5 108 yJ7_copyOf_9075b ∈ Tall := atT_in (i := 5161) (by decide +kernel)
theorem z_sCO : Cond.static yJ7_copyOf_9075b ∈ Tall := atT_in (i := 5162) (by decide +kernel)
theorem z_cCO : Cond.code yJ7_copyOf_9075b cJ7_copyOf_9075b 3 (some (.array .byte)) ∈ Tall := atT_in (i := 5163) (by decide +kernel)
theorem z_lMn : Cond.methodLink RJ7 304 Lib.Math.min.name ∈ Tall := atT_in (i := 5171) (by decide +kernel)
theorem z_sMn : Cond.static Lib.Math.min.name ∈ Tall := atT_in (i := 4112) (by decide +kernel)
theorem z_cMn : Cond.code Lib.Math.min.name Lib.Math.min.code 2 (some .int) ∈ Tall := atT_in (i := 4113) (by decide +kernel)
theorem z_lAC : Cond.methodLink RJ7 150 arraycopyName ∈ Tall := atT_in (i := 5172) (by decide +kernel)
theorem z_sAC : Cond.static arraycopyName ∈ Tall := atT_in (i := 5173) (by decide +kernel)
theorem z_nAC : Cond.native arraycopyName ∈ Tall := atT_in (i := 5174) (by decide +kernel)
theorem znl_0 : decode cJ8_newLength_cabcc 0 = .ok (.iload_n 0, 1) := by decide +kernel
theorem znl_1 : decode cJ8_newLength_cabcc 1 = .ok (.iload_n 1, 1) := by decide +kernel
theorem znl_2 : decode cJ8_newLength_cabcc 2 = .ok (.iload_n 2, 1) := by decide +kernel
theorem znl_3 : decode cJ8_newLength_cabcc 3 = .ok (.invokestatic 194, 3) := by decide +kernel
theorem znl_6 : decode cJ8_newLength_cabcc 6 = .ok (.iadd, 1) := by decide +kernel
theorem znl_7 : decode cJ8_newLength_cabcc 7 = .ok (.istore_n 3, 1) := by decide +kernel
theorem znl_8 : decode cJ8_newLength_cabcc 8 = .ok (.iconst 0, 1) := by decide +kernel
theorem znl_9 : decode cJ8_newLength_cabcc 9 = .ok (.iload_n 3, 1) := by decide +kernel
theorem znl_10 : decode cJ8_newLength_cabcc 10 = .ok (.if_icmp .ge 11, 3) := by decide +kernel
theorem znl_13 : decode cJ8_newLength_cabcc 13 = .ok (.iload_n 3, 1) := by decide +kernel
theorem znl_14 : decode cJ8_newLength_cabcc 14 = .ok (.ldc 200, 2) := by decide +kernel
theorem znl_16 : decode cJ8_newLength_cabcc 16 = .ok (.if_icmp .gt 5, 3) := by decide +kernel
theorem znl_19 : decode cJ8_newLength_cabcc 19 = .ok (.iload_n 3, 1) := by decide +kernel
theorem znl_20 : decode cJ8_newLength_cabcc 20 = .ok (.ireturn, 1) := by decide +kernel
theorem cap_eq {m q : Nat} (h : m < q) (hq : q ≤ 30000) : nI m + (if nI (q - m) < nI (m + 2) then nI (m + 2) else nI (q - m)) = nI (sb_cap q m) := by
  have hc : sb_cap q m = m + (if q - m < m + 2 then m + 2 else q - m) := by
    unfold sb_cap
    rw [if_neg (by omega)]
    split <;> split <;> omega
  rw [hc]
  by_cases h2 : q - m < m + 2
  · rw [if_pos h2, if_pos (nI_lt h2 (by omega))]
    exact nI_add m (m + 2)
  · rw [if_neg h2, if_neg (nI_nlt (by omega) (by omega))]
    exact nI_add m (q - m)
theorem cap_bd {m q : Nat} (h : m < q) (hq : q ≤ 30000) : q ≤ sb_cap q m ∧ sb_cap q m ≤ 60002 := by
  unfold sb_cap
  rw [if_neg (by omega)]
  split <;> omega
set_option maxHeartbeats 4000000 in
theorem met_nl {l : Launch} {G : Gp} {D : Mm} {ad : Nat → Nat} {sz m q : Nat} (h : m < q) (hq : q ≤ 30000) :
    Met l yJ8_newLength_cabcc (Cond.code yJ8_newLength_cabcc cJ8_newLength_cabcc 4 (some .int) :: Tall) (rmD 1 0) (va_Pc [.int (nI m), .int (nI (q - m)), .int (nI (m + 2))] (MP G ad D sz)) (MC G ad D sz (some (.int (nI (sb_cap q m)))) D) 0 0 (va_A (wsOf G.2.1 ad D) sz) := by
  refine va_MetF (cc := cJ8_newLength_cabcc) (maxL := 4) (ret := some .int) (by decide +kernel) rfl ?_
  intro p e s mm args0 below meth c s₁ B hml hv
  obtain ⟨rfl, hsz, hP, hK, hD0, hRO, hWF, hSX⟩ := hv
  have hts := atoms_spec (ws := Cond.code yJ8_newLength_cabcc cJ8_newLength_cabcc 4 (some .int) :: Tall) B.pre
  have htT := fun w hw => hts w (List.mem_cons_of_mem _ hw)
  have hown : s.vm.findClass (yJ8_newLength_cabcc).cls = some mm.cls := findClass_of_methodNamed B.named
  have hx := B.exec
  have hb := B.bytes
  have hlocks := B.notSynchronized
  subst hsz
  have hf := hRO.2.2.2.2.2.2.2.2
  have hD : va_D (va_A (wsOf G.2.1 ad D) s.heap.size) (wsOf G.2.1 ad D) := hD0.self
  have hS0 : va_S (va_A (wsOf G.2.1 ad D) s.heap.size) s.heap s.heap [] := va_S.rf
  have hl := LOK.entry (ad := ad) hf (args := [.int (nI m), .int (nI (q - m)), .int (nI (m + 2))]) (n := 4) rfl (by show 3 ≤ 4; decide)
  have bd := cap_bd h hq
  rw [lg_entry_eq]
  refine lv_iload_n hx hb znl_0 rfl (hl.get (i := 0) (v := .int (nI m)) rfl rfl) ?_
  refine lv_iload_n hx hb znl_1 rfl (hl.get (i := 1) (v := .int (nI (q - m))) rfl rfl) ?_
  refine lv_iload_n hx hb znl_2 rfl (hl.get (i := 2) (v := .int (nI (m + 2))) rfl rfl) ?_
  refine va_mmax hx hb (hml.trans hl.1.symm) hown (htT _ z_lMx) (htT _ z_sMx) (htT _ z_iMath) (htT _ z_cMx) (Nat.le_of_ble_eq_true rfl) (by show _ + 13 ≤ 80; simp [Value.category]) (Nat.zero_le _) (Nat.zero_le _) znl_3 ?_
  refine lv_iadd hx hb znl_6 ?_
  rw [cap_eq h hq]
  refine lv_istore_n hx hb znl_7 rfl hl.has (by decide) rfl (fun lsB hB => ?_)
  have hl2 := hl.set hf (i := 3) (v := .int (nI (sb_cap q m))) (by show 3 < 4; decide) rfl (by simp) hB
  refine lv_iconst hx hb znl_8 (v := nI 0) rfl ?_
  refine lv_iload_n hx hb znl_9 rfl (hl2.get (i := 3) (v := .int (nI (sb_cap q m))) rfl rfl) ?_
  refine lv_icmp_ge hx hb znl_10 (tgt := 21) (by decide) (fun hz => absurd hz (nI_ge (by omega) (by omega))) (fun _ => ?_)
  refine lv_iload_n hx hb znl_13 rfl (hl2.get (i := 3) (v := .int (nI (sb_cap q m))) rfl rfl) ?_
  refine lv_ldc hx hb hown (htT _ z_k200) znl_14 ?_
  refine lv_icmp_gt hx hb znl_16 (tgt := 21) (by decide) (fun hz => absurd hz (show ¬ nI 2147483639 < nI (sb_cap q m) from nI_nlt (by omega) (by decide))) (fun _ => ?_)
  refine lv_iload_n hx hb znl_19 rfl (hl2.get (i := 3) (v := .int (nI (sb_cap q m))) rfl rfl) ?_
  exact W.iret hx hb B.returns (fun t ht hW => ⟨⟨_, rfl, ad, agree.rf, rfl, by rw [ht]; exact hP, va_K.moved hW.alike hK, hD, fun _ => rfl, hWF⟩, hS0.F ht⟩) hS0.2.2 znl_20 hlocks
theorem z_seNC : Cond.selects "java/lang/StringBuilder" yJ5_newCapacity_0f7a4 yJ5_newCapacity_0f7a4 ∈ Tall := atT_in (i := 1) (by decide +kernel)
theorem z_saNC : Cond.sameMethod "java/lang/AbstractStringBuilder" "java/lang/AbstractStringBuilder" "newCapacity" "(I)I" ∈ Tall := atT_in (i := 7188) (by decide +kernel)
theorem good_c {w0 w1 : Cond} (h : w1 ∈ Tall) : GoodIn (w0 :: Tall) (w1 :: Tall) := fun w hw => by
  rcases List.mem_cons.mp hw with e | h2
  · rw [e]; exact ⟨List.mem_cons_of_mem _ h, (goodTall _ h).2⟩
  · exact ⟨List.mem_cons_of_mem _ h2, (goodTall _ h2).2⟩
/-- behind a call that changes nothing -/
theorem hand_back {p : Program} {l : Launch} {e : Env} {s : State} {mm : MethodId} {args : Array Value} {below : List Frame} {meth : Method} {c : Code} {G : Gp} {R : Room} {ad : Nat → Nat} {D : Mm} {H : Heap} {locs : List Loc} {pc cells slots : Nat} {lsA : Array Slot} {rest st0 : List Value} {v : Value} {As : Array Value} {Q : State → Prop}
    (hS : va_S (va_A (wsOf G.2.1 ad D) s.heap.size) s.heap H locs)
    (hrun : va_Run p l e R s mm args below meth c H locs cells slots 0 0 (F0 mm pc lsA st0) rest (MC G ad D H.size (some v) D As) (va_A (wsOf G.2.1 ad D) H.size)) (hcv : cv ad G.2.2 v = v)
    (next : ∀ (H1 : Heap) (locs1 : List Loc), va_P G.1 vwCl (wsOf G.2.1 ad D) H1 → va_S (va_A (wsOf G.2.1 ad D) s.heap.size) s.heap H1 locs1 → W p l e R s mm args below meth c H1 locs1 cells slots Q (F0 mm (pc + 3) lsA (v :: rest))) :
    W p l e R s mm args below meth c H locs cells slots Q (F0 mm pc lsA st0) := by
  refine va_callg (Qx := MX G ad D H.size (some v) D) (A1 := va_A (wsOf G.2.1 ad D) H.size) hrun hS ?_ ?_ ?_
  · intro q hq h
    rcases h with h | h
    · exact Or.inl h
    · omega
  · intro q h
    rcases h with h | h
    · exact Or.inl h
    · exact Or.inr (Nat.le_trans hS.1 h)
  · intro v2 t H1 locs1 e1 e2 h3 h4 h5 h6
    obtain ⟨ad2, g0, rfl, g1, g2, g3, g4, g5⟩ := h3
    have e9 := g4 rfl
    subst e9
    rw [e1] at g1
    have := next H1 locs1 g1 h6
    rw [← hcv] at this
    exact this
theorem znc_0 : decode cJ5_newCapacity_0f7a4 0 = .ok (.aload_n 0, 1) := by decide +kernel
theorem znc_1 : decode cJ5_newCapacity_0f7a4 1 = .ok (.getfield 15, 3) := by decide +kernel
theorem znc_4 : decode cJ5_newCapacity_0f7a4 4 = .ok (.arraylength, 1) := by decide +kernel
theorem znc_5 : decode cJ5_newCapacity_0f7a4 5 = .ok (.istore_n 2, 1) := by decide +kernel
theorem znc_6 : decode cJ5_newCapacity_0f7a4 6 = .ok (.iload_n 1, 1) := by decide +kernel
theorem znc_7 : decode cJ5_newCapacity_0f7a4 7 = .ok (.aload_n 0, 1) := by decide +kernel
theorem znc_8 : decode cJ5_newCapacity_0f7a4 8 = .ok (.getfield 22, 3) := by decide +kernel
theorem znc_11 : decode cJ5_newCapacity_0f7a4 11 = .ok (.ishl, 1) := by decide +kernel
theorem znc_12 : decode cJ5_newCapacity_0f7a4 12 = .ok (.istore_n 3, 1) := by decide +kernel
theorem znc_13 : decode cJ5_newCapacity_0f7a4 13 = .ok (.iload_n 3, 1) := by decide +kernel
theorem znc_14 : decode cJ5_newCapacity_0f7a4 14 = .ok (.iload_n 2, 1) := by decide +kernel
theorem znc_15 : decode cJ5_newCapacity_0f7a4 15 = .ok (.isub, 1) := by decide +kernel
theorem znc_16 : decode cJ5_newCapacity_0f7a4 16 = .ok (.istore 4, 2) := by decide +kernel
theorem znc_18 : decode cJ5_newCapacity_0f7a4 18 = .ok (.iload_n 2, 1) := by decide +kernel
theorem znc_19 : decode cJ5_newCapacity_0f7a4 19 = .ok (.iload 4, 2) := by decide +kernel
theorem znc_21 : decode cJ5_newCapacity_0f7a4 21 = .ok (.iload_n 2, 1) := by decide +kernel
theorem znc_22 : decode cJ5_newCapacity_0f7a4 22 = .ok (.iconst 2, 1) := by decide +kernel
theorem znc_23 : decode cJ5_newCapacity_0f7a4 23 = .ok (.aload_n 0, 1) := by decide +kernel
theorem znc_24 : decode cJ5_newCapacity_0f7a4 24 = .ok (.getfield 22, 3) := by decide +kernel
theorem znc_27 : decode cJ5_newCapacity_0f7a4 27 = .ok (.ishl, 1) := by decide +kernel
theorem znc_28 : decode cJ5_newCapacity_0f7a4 28 = .ok (.iadd, 1) := by decide +kernel
theorem znc_29 : decode cJ5_newCapacity_0f7a4 29 = .ok (.invokestatic 114, 3) := by decide +kernel
theorem znc_32 : decode cJ5_newCapacity_0f7a4 32 = .ok (.istore 5, 2) := by decide +kernel
theorem znc_34 : decode cJ5_newCapacity_0f7a4 34 = .ok (.iload 5, 2) := by decide +kernel
theorem znc_36 : decode cJ5_newCapacity_0f7a4 36 = .ok (.ldc 39, 2) := by decide +kernel
theorem znc_38 : decode cJ5_newCapacity_0f7a4 38 = .ok (.if_icmp .ne 13, 3) := by decide +kernel
theorem znc_51 : decode cJ5_newCapacity_0f7a4 51 = .ok (.iload 5, 2) := by decide +kernel
theorem znc_53 : decode cJ5_newCapacity_0f7a4 53 = .ok (.aload_n 0, 1) := by decide +kernel
theorem znc_54 : decode cJ5_newCapacity_0f7a4 54 = .ok (.getfield 22, 3) := by decide +kernel
theorem znc_57 : decode cJ5_newCapacity_0f7a4 57 = .ok (.ishr, 1) := by decide +kernel
theorem znc_58 : decode cJ5_newCapacity_0f7a4 58 = .ok (.ireturn, 1) := by decide +kernel
theorem sub_eq {m q : Nat} (h : m < q) : nI q - nI m = nI (q - m) := nI_sub (by omega)
theorem two_sh : nI 2 <<< ((0 : Int32) &&& 31) = nI 2 := by decide
theorem shl_0 (x : Int32) : x <<< ((0 : Int32) &&& 31) = x := sb_shl0 x
theorem shr_0 (x : Int32) : x >>> ((0 : Int32) &&& 31) = x := sb_shr0 x
set_option maxHeartbeats 4000000 in
theorem met_nc {l : Launch} {G : Gp} {D : Mm} {ad : Nat → Nat} {sz m q : Nat} {o : Nat} (h0 : (sh o).1 = 0) (hnv : nvB (.ref o) = true) (hvv : fld ad D o (sh o).2.2 0 = .ref (ad (o + 12))) (hvc : fld ad D o (sh o).2.2 1 = .int (D o 1)) (hc0 : D o 1 = 0) (h22 : (sh (o + 12)).1 = 22) (hm : cap D (o + 12) = m) (h : m < q) (hq : q ≤ 30000) :
    Met l yJ5_newCapacity_0f7a4 (Cond.code yJ5_newCapacity_0f7a4 cJ5_newCapacity_0f7a4 6 (some .int) :: Tall) (rmD 2 0) (va_Pc [.ref (ad o), .int (nI q)] (MP G ad D sz)) (MC G ad D sz (some (.int (nI (sb_cap q m)))) D) 0 0 (va_A (wsOf G.2.1 ad D) sz) := by
  refine va_MetF (cc := cJ5_newCapacity_0f7a4) (maxL := 6) (ret := some .int) (by decide +kernel) rfl ?_
  intro p e s mm args0 below meth c s₁ B hml hv
  obtain ⟨rfl, hsz, hP, hK, hD0, hRO, hWF, hSX⟩ := hv
  have hts := atoms_spec (ws := Cond.code yJ5_newCapacity_0f7a4 cJ5_newCapacity_0f7a4 6 (some .int) :: Tall) B.pre
  have htT := fun w hw => hts w (List.mem_cons_of_mem _ hw)
  have hown : s.vm.findClass (yJ5_newCapacity_0f7a4).cls = some mm.cls := findClass_of_methodNamed B.named
  have hx := B.exec
  have hb := B.bytes
  have hlocks := B.notSynchronized
  subst hsz
  have hf := hRO.2.2.2.2.2.2.2.2
  have hD : va_D (va_A (wsOf G.2.1 ad D) s.heap.size) (wsOf G.2.1 ad D) := hD0.self
  have hS0 : va_S (va_A (wsOf G.2.1 ad D) s.heap.size) s.heap s.heap [] := va_S.rf
  have hl := LOK.entry (ad := ad) hf (args := [.ref o, .int (nI q)]) (n := 6) rfl (by show 2 ≤ 6; decide)
  have bd := cap_bd h hq
  have hown5 : s.vm.findClass (cN (nO 196)) = some mm.cls := hown
  have ho12 : okc D (o + 12) := okSt h22
  rw [hc0] at hvc
  rw [lg_entry_eq]
  refine lv_aload_n hx hb znc_0 rfl (hl.get (i := 0) (v := .ref o) rfl rfl) ?_
  refine hand_get hx hb (k0 := 196) (by decide) i196_34 (by decide) hown5 htT hK (o := o) h0 hvv znc_1 hP ?_
  refine va_alen hx hb hK hP (ps (o + 12)) 2 (by rw [ws_get ho12, cell_byte h22]) rfl (v := nI m) (by rw [← hm]; rfl) znc_4 ?_
  refine lv_istore_n hx hb znc_5 rfl hl.has (by decide) rfl (fun l2 hB => ?_)
  have hl2 := hl.set hf (i := 2) (v := .int (nI m)) (by show 2 < 6; decide) rfl (by simp) hB
  refine lv_iload_n hx hb znc_6 rfl (hl2.get (i := 1) (v := .int (nI q)) rfl rfl) ?_
  refine lv_aload_n hx hb znc_7 rfl (hl2.get (i := 0) (v := .ref o) rfl rfl) ?_
  refine hand_get hx hb (k0 := 199) (by decide) i199_7 (by decide) hown5 htT hK (o := o) h0 hvc znc_8 hP ?_
  refine lv_ishl hx hb znc_11 ?_
  rw [shl_0]
  refine lv_istore_n hx hb znc_12 rfl hl2.has (by decide) rfl (fun l3 hB3 => ?_)
  have hl3 := hl2.set hf (i := 3) (v := .int (nI q)) (by show 3 < 6; decide) rfl (by simp) hB3
  refine lv_iload_n hx hb znc_13 rfl (hl3.get (i := 3) (v := .int (nI q)) rfl rfl) ?_
  refine lv_iload_n hx hb znc_14 rfl (hl3.get (i := 2) (v := .int (nI m)) rfl rfl) ?_
  refine lv_isub hx hb znc_15 ?_
  rw [sub_eq h]
  refine lv_istore hx hb znc_16 hl3.has (by decide) rfl (fun l4 hB4 => ?_)
  have hl4 := hl3.set hf (i := 4) (v := .int (nI (q - m))) (by show 4 < 6; decide) rfl (by simp) hB4
  refine lv_iload_n hx hb znc_18 rfl (hl4.get (i := 2) (v := .int (nI m)) rfl rfl) ?_
  refine lv_iload hx hb znc_19 (hl4.get (i := 4) (v := .int (nI (q - m))) rfl rfl) ?_
  refine lv_iload_n hx hb znc_21 rfl (hl4.get (i := 2) (v := .int (nI m)) rfl rfl) ?_
  refine lv_iconst hx hb znc_22 (v := nI 2) rfl ?_
  refine lv_aload_n hx hb znc_23 rfl (hl4.get (i := 0) (v := .ref o) rfl rfl) ?_
  refine hand_get hx hb (k0 := 199) (by decide) i199_7 (by decide) hown5 htT hK (o := o) h0 hvc znc_24 hP ?_
  refine lv_ishl hx hb znc_27 ?_
  rw [shl_0]
  refine lv_iadd hx hb znc_28 ?_
  rw [show nI m + nI 2 = nI (m + 2) from nI_add m 2]
  have hA : ∀ q2 : Nat, s.heap.size ≤ q2 → va_A (wsOf G.2.1 ad D) s.heap.size q2 := fun q2 h => Or.inr h
  have hpre := MP_pre (as := [.int (nI m), .int (nI (q - m)), .int (nI (m + 2))]) hP hK hD hS0 hA hRO hWF hSX
  refine hand_back (v := .int (nI (sb_cap q m))) (rest := []) hS0 (va_runS (n := 3) (As := [.int (nI m), .int (nI (q - m)), .int (nI (m + 2))]) ⟨hx, hb, hml, hown, hts⟩ (met_nl h hq) ⟨callB_of 3 hts (good_c z_cNL) rfl rfl rfl (htT _ z_iSup) (htT _ z_lNL) ⟨by decide, by decide, by decide +kernel⟩ ⟨by decide, by decide⟩, htT _ z_sNL⟩ ⟨MP_blind, hpre⟩ rfl rfl hl4.1 rfl (lv_room (by decide)) znc_29 ⟨Nat.zero_le _, Nat.zero_le _⟩) rfl (fun H1 locs1 hP1 hS1 => ?_)
  refine lv_istore hx hb znc_32 hl4.has (by decide) rfl (fun l5 hB5 => ?_)
  have hl5 := hl4.set hf (i := 5) (v := .int (nI (sb_cap q m))) (by show 5 < 6; decide) rfl (by simp) hB5
  refine lv_iload hx hb znc_34 (hl5.get (i := 5) (v := .int (nI (sb_cap q m))) rfl rfl) ?_
  refine lv_ldc hx hb hown (htT _ z_k39) znc_36 ?_
  refine lv_icmp_ne hx hb znc_38 (tgt := 51) (by decide) (fun _ => ?_) (fun hz => absurd (show nI (sb_cap q m) = nI 2147483647 from hz) (fun z => by have := nI_inj (by omega) (by decide) z; omega))
  refine lv_iload hx hb znc_51 (hl5.get (i := 5) (v := .int (nI (sb_cap q m))) rfl rfl) ?_
  refine lv_aload_n hx hb znc_53 rfl (hl5.get (i := 0) (v := .ref o) rfl rfl) ?_
  refine hand_get hx hb (k0 := 199) (by decide) i199_7 (by decide) hown5 htT hK (o := o) h0 hvc znc_54 hP1 ?_
  refine lv_ishr hx hb znc_57 ?_
  rw [shr_0]
  exact W.iret hx hb B.returns (fun t ht hW => ⟨⟨_, rfl, ad, agree.rf, rfl, by rw [ht]; exact hP1, va_K.moved hW.alike hK, hD, fun _ => rfl, hWF⟩, hS1.F ht⟩) hS1.2.2 znc_58 hlocks
theorem zco_0 : decode cJ7_copyOf_9075b 0 = .ok (.iload_n 1, 1) := by decide +kernel
theorem zco_1 : decode cJ7_copyOf_9075b 1 = .ok (.aload_n 0, 1) := by decide +kernel
theorem zco_2 : decode cJ7_copyOf_9075b 2 = .ok (.arraylength, 1) := by decide +kernel
theorem zco_3 : decode cJ7_copyOf_9075b 3 = .ok (.if_icmp .ne 11, 3) := by decide +kernel
theorem zco_14 : decode cJ7_copyOf_9075b 14 = .ok (.iload_n 1, 1) := by decide +kernel
theorem zco_15 : decode cJ7_copyOf_9075b 15 = .ok (.newarray .byte, 2) := by decide +kernel
theorem zco_17 : decode cJ7_copyOf_9075b 17 = .ok (.astore_n 2, 1) := by decide +kernel
theorem zco_18 : decode cJ7_copyOf_9075b 18 = .ok (.aload_n 0, 1) := by decide +kernel
theorem zco_19 : decode cJ7_copyOf_9075b 19 = .ok (.iconst 0, 1) := by decide +kernel
theorem zco_20 : decode cJ7_copyOf_9075b 20 = .ok (.aload_n 2, 1) := by decide +kernel
theorem zco_21 : decode cJ7_copyOf_9075b 21 = .ok (.iconst 0, 1) := by decide +kernel
theorem zco_22 : decode cJ7_copyOf_9075b 22 = .ok (.aload_n 0, 1) := by decide +kernel
theorem zco_23 : decode cJ7_copyOf_9075b 23 = .ok (.arraylength, 1) := by decide +kernel
theorem zco_24 : decode cJ7_copyOf_9075b 24 = .ok (.iload_n 1, 1) := by decide +kernel
theorem zco_25 : decode cJ7_copyOf_9075b 25 = .ok (.invokestatic 304, 3) := by decide +kernel
theorem zco_28 : decode cJ7_copyOf_9075b 28 = .ok (.invokestatic 150, 3) := by decide +kernel
theorem zco_31 : decode cJ7_copyOf_9075b 31 = .ok (.aload_n 2, 1) := by decide +kernel
theorem zco_32 : decode cJ7_copyOf_9075b 32 = .ok (.areturn, 1) := by decide +kernel
theorem z_aB : Cond.arrayClass .byte ∈ Tall := atT_in (i := 4012) (by decide +kernel)
theorem ws_len {cA : Nat → ClassId} {ad : Nat → Nat} {D : Mm} : (wsOf cA ad D).length = 173 + nxt D := by unfold wsOf; rw [List.length_map, List.length_range]
theorem set_last {α : Type} {ws : List α} {x y : α} {n : Nat} (h : ws.length = n) : (ws ++ [x]).set n y = ws ++ [y] := by
  subst h
  simp
def wsX (G : Gp) (ad : Nat → Nat) (D : Mm) (b m q h : Nat) : va_W := wsOf G.2.1 ad D ++ [(h, .inl (G.2.1 2, q, .inl (va_cpy (D b) (fun _ => 0) 0 0 m)))]
def CPo (G : Gp) (ad : Nat → Nat) (D : Mm) (b m q sz : Nat) : Array Value → State → Outcome → State → Prop := fun _ st oc t =>
  (∃ v, oc = .returned v ∧ ∃ h : Nat, v = some (.ref h) ∧ va_P G.1 vwCl (wsX G ad D b m q h) t.heap ∧ va_K G.1 vwCl (tysA G.2.1) t ∧ va_D (va_A (wsOf G.2.1 ad D) sz) (wsX G ad D b m q h)) ∧ va_F (va_A (wsOf G.2.1 ad D) sz) st t
set_option maxHeartbeats 4000000 in
theorem met_co {l : Launch} {G : Gp} {D : Mm} {ad : Nat → Nat} {sz m q b : Nat} (hbN : okc D b) (h22 : (sh b).1 = 22) (hm : cap D b = m) (h : m < q) (hq : q ≤ 100000) (hft : ∀ j, j < m → fits .byte (.int (D b j)) = true) :
    Met l yJ7_copyOf_9075b (Cond.code yJ7_copyOf_9075b cJ7_copyOf_9075b 3 (some (.array .byte)) :: Tall) ({ frames := 1, cells := 1, slots := q, locals := 38 }) (va_Pc [.ref (ad b), .int (nI q)] (MP G ad D sz)) (CPo G ad D b m q sz) 1 q (va_A (wsOf G.2.1 ad D) sz) := by
  refine va_MetF (cc := cJ7_copyOf_9075b) (maxL := 3) (ret := some (.array .byte)) (by decide +kernel) rfl ?_
  intro p e s mm args0 below meth c s₁ B hml hv
  obtain ⟨rfl, hsz, hP, hK, hD0, hRO, hWF, hSX⟩ := hv
  have hts := atoms_spec (ws := Cond.code yJ7_copyOf_9075b cJ7_copyOf_9075b 3 (some (.array .byte)) :: Tall) B.pre
  have htT := fun w hw => hts w (List.mem_cons_of_mem _ hw)
  have hown : s.vm.findClass (yJ7_copyOf_9075b).cls = some mm.cls := findClass_of_methodNamed B.named
  have hx := B.exec
  have hb := B.bytes
  have hlocks := B.notSynchronized
  subst hsz
  have hD : va_D (va_A (wsOf G.2.1 ad D) s.heap.size) (wsOf G.2.1 ad D) := hD0.self
  have hS0 : va_S (va_A (wsOf G.2.1 ad D) s.heap.size) s.heap s.heap [] := va_S.rf
  have hA : ∀ q2 : Nat, s.heap.size ≤ q2 → va_A (wsOf G.2.1 ad D) s.heap.size q2 := fun q2 h => Or.inr h
  have hl := lv_entry [.ref (ad b), .int (nI q)] (n := 3) (by show 2 ≤ 3; decide)
  have hlen := ws_len (cA := G.2.1) (ad := ad) (D := D)
  have hg : (wsOf G.2.1 ad D)[ps b]? = some (ad b, .inl (G.2.1 2, m, .inl (D b))) := by rw [ws_get hbN, cell_byte h22, hm]
  rw [lg_entry_eq]
  refine lv_iload_n hx hb zco_0 rfl (lv_at hl 1 rfl) ?_
  refine lv_aload_n hx hb zco_1 rfl (lv_at hl 0 rfl) ?_
  refine va_alen hx hb hK hP (ps b) 2 hg rfl (v := nI m) rfl zco_2 ?_
  refine lv_icmp_ne hx hb zco_3 (tgt := 14) (by decide) (fun _ => ?_) (fun hz => absurd hz (fun z => by have := nI_inj (by omega) (by omega) z; omega))
  refine lv_iload_n hx hb zco_14 rfl (lv_at hl 1 rfl) ?_
  refine va_newa (atype := .byte) (ty := .byte) (N' := q) (a0 := (q, .inl (fun _ => 0))) hx hb (htT _ z_aB) rfl hK hP hD hS0 hA (fun cA => rfl) (nI_pos (by omega)) (nI_clamp (by omega)) (by show q * 1 ≤ _; omega) (by show 0 + 1 ≤ 1; decide) (by show 0 + q ≤ q; omega) zco_15 ?_
  intro hh cA H1 hK1 hP1 hD1 hS1
  have k1 : s.vm.findClass ("[" ++ FieldType.byte.toString) = some cA := (hK1.2 4 (cA, .byte) rfl).2
  have k2 : s.vm.findClass ("[" ++ FieldType.byte.toString) = some (G.2.1 2) := (hK.2 2 (G.2.1 2, .byte) rfl).2
  have e9 : cA = G.2.1 2 := Option.some.inj (k1.symm.trans k2)
  subst e9
  refine lv_astore_n hx hb zco_17 rfl hl (by decide) rfl (fun l2 hl2 => ?_)
  refine lv_aload_n hx hb zco_18 rfl (lv_at hl2 1 rfl) ?_
  refine lv_iconst hx hb zco_19 (v := nI 0) rfl ?_
  refine lv_aload_n hx hb zco_20 rfl (lv_at hl2 0 rfl) ?_
  refine lv_iconst hx hb zco_21 (v := nI 0) rfl ?_
  refine lv_aload_n hx hb zco_22 rfl (lv_at hl2 1 rfl) ?_
  have hg1 : (wsOf G.2.1 ad D ++ [(hh, .inl (G.2.1 2, q, .inl (fun _ => 0)))])[ps b]? = some (ad b, .inl (G.2.1 2, m, .inl (D b))) := by rw [List.getElem?_append_left (by rw [hlen]; exact ps_lt hbN), hg]
  have hg2 : (wsOf G.2.1 ad D ++ [(hh, .inl (G.2.1 2, q, .inl (fun _ => 0)))])[173 + nxt D]? = some (hh, .inl (G.2.1 2, q, .inl (fun _ => 0))) := by rw [List.getElem?_append_right (by rw [hlen]; exact Nat.le_refl _), hlen, Nat.sub_self]; rfl
  refine va_alen hx hb hK hP1 (ps b) 2 hg1 rfl (v := nI m) rfl zco_23 ?_
  refine lv_iload_n hx hb zco_24 rfl (lv_at hl2 2 rfl) ?_
  refine va_mmin hx hb (hml.trans hl2.1.symm) hown (htT _ z_lMn) (htT _ z_sMn) (htT _ z_iMath) (htT _ z_cMn) (Nat.le_of_ble_eq_true rfl) (by show _ + 13 ≤ 38; simp [Value.category]) (by show 0 + 1 ≤ 1; decide) (by show 0 + q ≤ q; omega) zco_25 ?_
  rw [if_neg (nI_nlt (by omega) (by omega))]
  have e0 : (nI 0).toNatClampNeg = 0 := nI_clamp (by decide)
  have em : (nI m).toNatClampNeg = m := nI_clamp (by omega)
  refine va_copyi hx hb (hml.trans hl2.1.symm) hown (htT _ z_lAC) (htT _ z_nAC) (htT _ z_sAC) (htT _ z_iSys) hK hP1 hD1 hS1 (ps b) (173 + nxt D) 2 2 hg1 hg2 rfl rfl rfl (nI_pos (by decide)) (nI_pos (by decide)) (nI_pos (by omega)) (by rw [e0, em]; omega) (by rw [e0, em]; omega) (fun i hi => by rw [em] at hi; rw [e0, Nat.zero_add]; exact hft i hi) (Nat.le_of_ble_eq_true rfl) (by show _ + (nativeFrameWords "java/lang/System" "arraycopy" 5 + 11) ≤ 38; simp [Value.category]; decide) zco_28 ?_
  rw [e0, em, set_last hlen]
  intro H2 locs2 hP2 hD2 hS2
  refine lv_aload_n hx hb zco_31 rfl (lv_at hl2 0 rfl) ?_
  refine W.cs (cells' := 1) (slots' := q) (by omega) (by omega) ?_
  exact (W.aret hx hb B.returns (Or.inr ⟨_, rfl⟩) (Or.inr ⟨_, rfl⟩) (fun t ht hW => ⟨⟨_, rfl, hh, rfl, by rw [ht]; exact hP2, va_K.moved hW.alike hK, hD2⟩, hS2.F ht⟩) hS2.2.2 zco_32 hlocks)
