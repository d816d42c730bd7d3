/-! the capacity of a text, its contract -/
theorem zen_0 : decode cJ5_ensureCapacityInternal_d00df 0 = .ok (.aload_n 0, 1) := by decide +kernel
theorem zen_1 : decode cJ5_ensureCapacityInternal_d00df 1 = .ok (.getfield 15, 3) := by decide +kernel
theorem zen_4 : decode cJ5_ensureCapacityInternal_d00df 4 = .ok (.arraylength, 1) := by decide +kernel
theorem zen_5 : decode cJ5_ensureCapacityInternal_d00df 5 = .ok (.aload_n 0, 1) := by decide +kernel
theorem zen_6 : decode cJ5_ensureCapacityInternal_d00df 6 = .ok (.getfield 22, 3) := by decide +kernel
theorem zen_9 : decode cJ5_ensureCapacityInternal_d00df 9 = .ok (.ishr, 1) := by decide +kernel
theorem zen_10 : decode cJ5_ensureCapacityInternal_d00df 10 = .ok (.istore_n 2, 1) := by decide +kernel
theorem zen_11 : decode cJ5_ensureCapacityInternal_d00df 11 = .ok (.iload_n 1, 1) := by decide +kernel
theorem zen_12 : decode cJ5_ensureCapacityInternal_d00df 12 = .ok (.iload_n 2, 1) := by decide +kernel
theorem zen_13 : decode cJ5_ensureCapacityInternal_d00df 13 = .ok (.isub, 1) := by decide +kernel
theorem zen_14 : decode cJ5_ensureCapacityInternal_d00df 14 = .ok (.ifCond .le 24, 3) := by decide +kernel
theorem zen_17 : decode cJ5_ensureCapacityInternal_d00df 17 = .ok (.aload_n 0, 1) := by decide +kernel
theorem zen_18 : decode cJ5_ensureCapacityInternal_d00df 18 = .ok (.aload_n 0, 1) := by decide +kernel
theorem zen_19 : decode cJ5_ensureCapacityInternal_d00df 19 = .ok (.getfield 15, 3) := by decide +kernel
theorem zen_22 : decode cJ5_ensureCapacityInternal_d00df 22 = .ok (.aload_n 0, 1) := by decide +kernel
theorem zen_23 : decode cJ5_ensureCapacityInternal_d00df 23 = .ok (.iload_n 1, 1) := by decide +kernel
theorem zen_24 : decode cJ5_ensureCapacityInternal_d00df 24 = .ok (.invokevirtual 104, 3) := by decide +kernel
theorem zen_27 : decode cJ5_ensureCapacityInternal_d00df 27 = .ok (.aload_n 0, 1) := by decide +kernel
theorem zen_28 : decode cJ5_ensureCapacityInternal_d00df 28 = .ok (.getfield 22, 3) := by decide +kernel
theorem zen_31 : decode cJ5_ensureCapacityInternal_d00df 31 = .ok (.ishl, 1) := by decide +kernel
theorem zen_32 : decode cJ5_ensureCapacityInternal_d00df 32 = .ok (.invokestatic 108, 3) := by decide +kernel
theorem zen_35 : decode cJ5_ensureCapacityInternal_d00df 35 = .ok (.putfield 15, 3) := by decide +kernel
theorem zen_38 : decode cJ5_ensureCapacityInternal_d00df 38 = .ok (.return_, 1) := by decide +kernel
theorem val_ty : ∀ q : vw_C, vwCl[0]? = some q → (q.2.1 0).2.2.1 = "[B" ∧ (q.2.1 0).2.2.2 = false := by
  intro q hq
  cases hq
  exact ⟨rfl, rfl⟩
set_option maxHeartbeats 4000000 in
theorem ens_no {l : Launch} {G : Gp} {d : Nat} (hd : 4 ≤ d) {D : Mm} {ad : Nat → Nat} {sz o q : Nat} (ho : o = 169 ∨ o = 170) (hc0 : D o 1 = 0) (hcap : cap D (o + 12) ≤ 10000) (hq : q ≤ 10000) (h : q ≤ cap D (o + 12)) : Met l yJ5_ensureCapacityInternal_d00df (Cond.code yJ5_ensureCapacityInternal_d00df cJ5_ensureCapacityInternal_d00df 3 none :: Tall) (rmD d 0) (va_Pc [.ref (ad o), .int (nI q)] (MP G ad D sz)) (MC G ad D sz none D) 0 (2 * 0) (va_A (wsOf G.2.1 ad D) sz) := by
  have hh : (sh o).1 = 0 ∧ nvB (.ref o) = true ∧ (sh (o + 12)).1 = 22 ∧ o < 1019 ∧ rcN (rk o) = "java/lang/StringBuilder" := by rcases ho with rfl | rfl <;> decide +kernel
  obtain ⟨h0, hnv, h22, ho2, hrc⟩ := hh
  have hvv : fld ad D o (sh o).2.2 0 = .ref (ad (o + 12)) := by rcases ho with rfl | rfl <;> rfl
  have hvc0 : fld ad D o (sh o).2.2 1 = .int (D o 1) := by rcases ho with rfl | rfl <;> rfl
  have hvc := hvc0
  rw [hc0] at hvc
  refine va_MetF (cc := cJ5_ensureCapacityInternal_d00df) (maxL := 3) (ret := none) (by decide +kernel) rfl ?_
  intro p e s mm args0 below meth c s₁ B hml hv
  obtain ⟨rfl, hsz, hP, hK, hD0, hRO, hWF, hSX⟩ := hv
  have hts := atoms_spec (ws := Cond.code yJ5_ensureCapacityInternal_d00df cJ5_ensureCapacityInternal_d00df 3 none :: Tall) B.pre
  have htT := fun w hw => hts w (List.mem_cons_of_mem _ hw)
  have hown5 : s.vm.findClass (cN (nO 196)) = some mm.cls := findClass_of_methodNamed B.named
  have hx := B.exec
  have hb := B.bytes
  have hlocks := B.notSynchronized
  subst hsz
  have hf := hRO.2.2.2.2.2.2.2.2
  have hD : va_D (va_A (wsOf G.2.1 ad D) s.heap.size) (wsOf G.2.1 ad D) := hD0.self
  have hS0 : va_S (va_A (wsOf G.2.1 ad D) s.heap.size) s.heap s.heap [] := va_S.rf
  have hl := LOK.entry (ad := ad) hf (args := [.ref o, .int (nI q)]) (n := 3) rfl (by show 2 ≤ 3; decide)
  have ho12 : okc D (o + 12) := okSt h22
  rw [lg_entry_eq]
  refine lv_aload_n hx hb zen_0 rfl (hl.get (i := 0) (v := .ref o) rfl rfl) ?_
  refine hand_get hx hb (k0 := 196) (by decide) i196_34 (by decide) hown5 htT hK (o := o) h0 hvv zen_1 hP ?_
  refine va_alen hx hb hK hP (ps (o + 12)) 2 (by rw [ws_get ho12, cell_byte h22]) rfl (v := nI (cap D (o + 12))) rfl zen_4 ?_
  refine lv_aload_n hx hb zen_5 rfl (hl.get (i := 0) (v := .ref o) rfl rfl) ?_
  refine hand_get hx hb (k0 := 199) (by decide) i199_7 (by decide) hown5 htT hK (o := o) h0 hvc zen_6 hP ?_
  refine lv_ishr hx hb zen_9 ?_
  rw [shr_0]
  refine lv_istore_n hx hb zen_10 rfl hl.has (by decide) rfl (fun l2 hB => ?_)
  have hl2 := hl.set hf (i := 2) (v := .int (nI (cap D (o + 12)))) (by show 2 < 3; decide) rfl (by simp) hB
  refine lv_iload_n hx hb zen_11 rfl (hl2.get (i := 1) (v := .int (nI q)) rfl rfl) ?_
  refine lv_iload_n hx hb zen_12 rfl (hl2.get (i := 2) (v := .int (nI (cap D (o + 12)))) rfl rfl) ?_
  refine lv_isub hx hb zen_13 ?_
  have e1 : (nI q - nI (cap D (o + 12))).toInt = (q : Int) - (cap D (o + 12) : Int) := pk_sub_toInt (by omega) (by omega)
  refine lv_if_le hx hb zen_14 (tgt := 38) (by decide) (fun _ => ?_) (fun hz => absurd (by rw [Int32.le_iff_toInt_le, e1, Int32.toInt_zero]; omega) hz)
  exact W.vret hx hb B.returns (fun t ht hW => ⟨⟨_, rfl, ad, agree.rf, rfl, by rw [ht]; exact hP, va_K.moved hW.alike hK, hD, fun _ => rfl, hWF⟩, hS0.F ht⟩) hS0.2.2 zen_38 hlocks
set_option maxHeartbeats 8000000 in
theorem ens_gr {l : Launch} {G : Gp} {d : Nat} (hd : 4 ≤ d) {D : Mm} {ad : Nat → Nat} {sz o q : Nat} (ho : o = 169 ∨ o = 170) (hc0 : D o 1 = 0) (hcap : cap D (o + 12) ≤ 10000) (hq : q ≤ 10000) (hft : ∀ j, j < cap D (o + 12) → fits .byte (.int (D (o + 12) j)) = true) (h : cap D (o + 12) < q) {P : Nat} (hp1 : 1 ≤ P) (hp2 : sb_cap q (cap D (o + 12)) ≤ 2 * P) (hpp : pot (growD D (o + 12) q) ≠ pot D) : Met l yJ5_ensureCapacityInternal_d00df (Cond.code yJ5_ensureCapacityInternal_d00df cJ5_ensureCapacityInternal_d00df 3 none :: Tall) (rmD d P) (va_Pc [.ref (ad o), .int (nI q)] (MP G ad D sz)) (MC G ad D sz none (growD D (o + 12) q)) P (2 * P) (va_A (wsOf G.2.1 ad D) sz) := by
  have hh : (sh o).1 = 0 ∧ nvB (.ref o) = true ∧ (sh (o + 12)).1 = 22 ∧ o < 1019 ∧ rcN (rk o) = "java/lang/StringBuilder" := by rcases ho with rfl | rfl <;> decide +kernel
  obtain ⟨h0, hnv, h22, ho2, hrc⟩ := hh
  have hvv : fld ad D o (sh o).2.2 0 = .ref (ad (o + 12)) := by rcases ho with rfl | rfl <;> rfl
  have hvc0 : fld ad D o (sh o).2.2 1 = .int (D o 1) := by rcases ho with rfl | rfl <;> rfl
  have hvc := hvc0
  rw [hc0] at hvc
  refine va_MetF (cc := cJ5_ensureCapacityInternal_d00df) (maxL := 3) (ret := none) (by decide +kernel) rfl ?_
  intro p e s mm args0 below meth c s₁ B hml hv
  obtain ⟨rfl, hsz, hP, hK, hD0, hRO, hWF, hSX⟩ := hv
  have hts := atoms_spec (ws := Cond.code yJ5_ensureCapacityInternal_d00df cJ5_ensureCapacityInternal_d00df 3 none :: Tall) B.pre
  have htT := fun w hw => hts w (List.mem_cons_of_mem _ hw)
  have hown5 : s.vm.findClass (cN (nO 196)) = some mm.cls := findClass_of_methodNamed B.named
  have hx := B.exec
  have hb := B.bytes
  have hlocks := B.notSynchronized
  subst hsz
  have hf := hRO.2.2.2.2.2.2.2.2
  have hD : va_D (va_A (wsOf G.2.1 ad D) s.heap.size) (wsOf G.2.1 ad D) := hD0.self
  have hS0 : va_S (va_A (wsOf G.2.1 ad D) s.heap.size) s.heap s.heap [] := va_S.rf
  have hl := LOK.entry (ad := ad) hf (args := [.ref o, .int (nI q)]) (n := 3) rfl (by show 2 ≤ 3; decide)
  have ho12 : okc D (o + 12) := okSt h22
  rw [lg_entry_eq]
  refine lv_aload_n hx hb zen_0 rfl (hl.get (i := 0) (v := .ref o) rfl rfl) ?_
  refine hand_get hx hb (k0 := 196) (by decide) i196_34 (by decide) hown5 htT hK (o := o) h0 hvv zen_1 hP ?_
  refine va_alen hx hb hK hP (ps (o + 12)) 2 (by rw [ws_get ho12, cell_byte h22]) rfl (v := nI (cap D (o + 12))) rfl zen_4 ?_
  refine lv_aload_n hx hb zen_5 rfl (hl.get (i := 0) (v := .ref o) rfl rfl) ?_
  refine hand_get hx hb (k0 := 199) (by decide) i199_7 (by decide) hown5 htT hK (o := o) h0 hvc zen_6 hP ?_
  refine lv_ishr hx hb zen_9 ?_
  rw [shr_0]
  refine lv_istore_n hx hb zen_10 rfl hl.has (by decide) rfl (fun l2 hB => ?_)
  have hl2 := hl.set hf (i := 2) (v := .int (nI (cap D (o + 12)))) (by show 2 < 3; decide) rfl (by simp) hB
  refine lv_iload_n hx hb zen_11 rfl (hl2.get (i := 1) (v := .int (nI q)) rfl rfl) ?_
  refine lv_iload_n hx hb zen_12 rfl (hl2.get (i := 2) (v := .int (nI (cap D (o + 12)))) rfl rfl) ?_
  refine lv_isub hx hb zen_13 ?_
  have e1 : (nI q - nI (cap D (o + 12))).toInt = (q : Int) - (cap D (o + 12) : Int) := pk_sub_toInt (by omega) (by omega)
  have bd := cap_bd h (by omega : q ≤ 30000)
  have hA : ∀ q2 : Nat, s.heap.size ≤ q2 → va_A (wsOf G.2.1 ad D) s.heap.size q2 := fun q2 h => Or.inr h
  refine lv_if_le hx hb zen_14 (tgt := 38) (by decide) (fun hz => absurd hz (by rw [Int32.le_iff_toInt_le, e1, Int32.toInt_zero]; omega)) (fun _ => ?_)
  refine lv_aload_n hx hb zen_17 rfl (hl2.get (i := 0) (v := .ref o) rfl rfl) ?_
  refine lv_aload_n hx hb zen_18 rfl (hl2.get (i := 0) (v := .ref o) rfl rfl) ?_
  refine hand_get hx hb (k0 := 196) (by decide) i196_34 (by decide) hown5 htT hK (o := o) h0 hvv zen_19 hP ?_
  refine lv_aload_n hx hb zen_22 rfl (hl2.get (i := 0) (v := .ref o) rfl rfl) ?_
  refine lv_iload_n hx hb zen_23 rfl (hl2.get (i := 1) (v := .int (nI q)) rfl rfl) ?_
  have hcell := recv_ok (b := rk o) (D0 := D) agree.rf hK hRO hP hS0 hWF (Or.inl ⟨rfl, ho2⟩) (by rw [hrc]; decide)
  rw [hrc] at hcell
  refine hand_back (v := .int (nI (sb_cap q (cap D (o + 12))))) (rest := [.ref (ad (o + 12)), .ref (ad o)]) hS0 (va_runU (As := [.int (nI q)]) (n := 1) (x := yJ5_newCapacity_0f7a4) (y := yJ5_newCapacity_0f7a4) (owner := "java/lang/AbstractStringBuilder") (C := "java/lang/StringBuilder") ⟨hx, hb, hml, hown5, hts⟩ (met_nc h0 hnv hvv hvc0 hc0 h22 rfl h (by omega)) (va_cwU 1 hts (fun w hw => by
    have h9 : w ∈ Tall := by
      unfold va_wsU at hw
      simp only [List.cons_append, List.nil_append, List.mem_cons] at hw
      rcases hw with rfl | rfl | rfl | rfl | rfl | rfl | hw
      · exact z_lNC
      · exact z_saNC
      · exact z_seNC
      · exact z_mNC
      · exact (mfact (k := 217) (by decide)).1
      · exact z_cNC
      · exact hw
    exact ⟨List.mem_cons_of_mem _ h9, (goodTall w h9).2⟩) rfl rfl rfl rfl ⟨by decide, by decide, by decide +kernel⟩ ⟨by show 2 + 1 + 1 ≤ d + 1; omega, by show 8 + (6 + 11) + (40 * 2 + 40) ≤ 40 * d + 40; omega⟩) ⟨MP_blind, hcell, MP_pre (as := [.ref (ad o), .int (nI q)]) hP hK hD hS0 hA hRO hWF hSX⟩ rfl rfl hl2.1 rfl (lv_room (by show 2 ≤ 8; decide)) zen_24 ⟨Nat.zero_le _, Nat.zero_le _⟩) rfl (fun H1 locs1 hP1 hS1 => ?_)
  refine lv_aload_n hx hb zen_27 rfl (hl2.get (i := 0) (v := .ref o) rfl rfl) ?_
  refine hand_get hx hb (k0 := 199) (by decide) i199_7 (by decide) hown5 htT hK (o := o) h0 hvc zen_28 hP1 ?_
  refine lv_ishl hx hb zen_31 ?_
  rw [shl_0]
  have hF : ∀ q2, va_A (wsOf G.2.1 ad D) H1.size q2 → va_A (wsOf G.2.1 ad D) s.heap.size q2 := by
    intro q2 h
    rcases h with h | h
    · exact Or.inl h
    · exact Or.inr (Nat.le_trans hS1.1 h)
  refine va_callg (A1 := va_A (wsOf G.2.1 ad D) H1.size) (Qx := fun v t => ∃ h : Nat, v = some (.ref h) ∧ va_P G.1 vwCl (wsX G ad D (o + 12) (cap D (o + 12)) (sb_cap q (cap D (o + 12))) h) t.heap ∧ va_K G.1 vwCl (tysA G.2.1) t ∧ va_D (va_A (wsOf G.2.1 ad D) H1.size) (wsX G ad D (o + 12) (cap D (o + 12)) (sb_cap q (cap D (o + 12))) h))
    (va_runS (n := 2) (As := [.ref (ad (o + 12)), .int (nI (sb_cap q (cap D (o + 12))))]) (rest := [.ref (ad o)]) ⟨hx, hb, hml, hown5, hts⟩ (met_co ho12 h22 rfl (by omega) (by omega) hft) ⟨callB_of 2 hts (good_c z_cCO) rfl rfl rfl (htT _ z_iArr) (htT _ z_lCO) ⟨by decide, by decide, by decide +kernel⟩ ⟨by show 1 + 1 ≤ d + 1; omega, by show 8 + (3 + 11) + 38 ≤ 40 * d + 40; omega⟩, htT _ z_sCO⟩ ⟨MP_blind, MP_pre (as := [.ref (ad (o + 12)), .int (nI (sb_cap q (cap D (o + 12))))]) hP1 hK hD hS1 hA hRO hWF hSX⟩ rfl rfl hl2.1 rfl (lv_room (by show 1 ≤ 8; decide)) zen_32 ⟨by show 0 + 1 ≤ P; omega, by show 0 + _ ≤ 2 * P; omega⟩) hS1 (fun q2 _ h => hF q2 h) hF (fun v t H2 locs2 ht hvm hX hz hkeep hS2 => ?_)
  obtain ⟨hh, rfl, hP2, -, hD2⟩ := hX
  rw [ht] at hP2
  have hD3 : va_D (va_A (wsOf G.2.1 ad D) s.heap.size) (wsX G ad D (o + 12) (cap D (o + 12)) (sb_cap q (cap D (o + 12))) hh) := hD2.weaken (fun _ _ _ h => hF _ h)
  obtain ⟨q0, hq0, hcN, hlink, -⟩ := fld_fact (k := 196) (by decide) (Or.inl rfl) (by decide) i196_34
  obtain ⟨ty1, ty2⟩ := val_ty q0 hq0
  obtain ⟨hq1, ty0, hty, hnm⟩ := clsF 0 q0 hq0
  have hsh : (sh o).1 < 20 := by omega
  have ho1 : okc D o := okSt h0 (by omega)
  have hget : (wsX G ad D (o + 12) (cap D (o + 12)) (sb_cap q (cap D (o + 12))) hh)[ps o]? = some (ad o, .inr (0, (List.range (sh o).2.1).map (fld ad D o (sh o).2.2))) := by
    unfold wsX
    rw [List.getElem?_append_left (by rw [ws_len]; exact ps_lt ho1), ws_get ho1, cell_obj hsh, h0]
  refine va_put hx hb htT hq1 ty0 hty hnm hown5 hK hP2 hD3 hS2 (ps o) hget hq0 0 hcN (htT _ hlink) (fun _ z => z) ty2 (ty := .array .byte) (v := .ref hh) (by rw [ty1]; rfl) rfl rfl (by rcases ho with rfl | rfl <;> (show 0 < 4; decide)) zen_35 ?_
  intro H3 locs3 hP3 hD3 hS3
  have hY : (wsX G ad D (o + 12) (cap D (o + 12)) (sb_cap q (cap D (o + 12))) hh).set (ps o) (ad o, .inr (0, ((List.range (sh o).2.1).map (fld ad D o (sh o).2.2)).set 0 (.ref hh))) = wsY G ad D o (cap D (o + 12)) (sb_cap q (cap D (o + 12))) hh := by
    unfold wsY
    rw [h0]
  rw [hY] at hP3 hD3
  have hnq : ¬ q ≤ cap D (o + 12) := by omega
  refine W.widen (k := P) (n := 2 * P) (by omega) (by omega) ?_
  exact W.vret hx hb B.returns (fun t ht hW => ⟨⟨_, rfl, adX ad (o + 12) hh, fun k a b _ => adX_ne (by omega), rfl, by rw [ht]; exact Y_P ho hnq (by omega) hP3, va_K.moved hW.alike hK, Y_D ho hnq (by omega) hD3, fun e => absurd e hpp, hWF.lo (fun z hz => growD_ne (by unfold DB at hz; omega))⟩, hS3.F ht⟩) hS3.2.2 zen_38 hlocks
