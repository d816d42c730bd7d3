/-! the two means, by hand -/
theorem hand_get {p : Program} {l : Launch} {e : Env} {s : State} {m : MethodId} {args : Array Value} {below : List Frame} {meth : Method} {c : Code} {G : Gp} {R : Room} {cc : ByteArray} {ad : Nat → Nat} {D : Mm} (hx : p.tables.exec = Jvm.exec) (hb : c.code = cc) {k0 pc0 idx a b cf dd : Nat} (hk : k0 < mnames) (hi : ins k0 pc0 = some (.getfield idx, a, b, cf, dd)) (hb25 : b ≠ 25) (hown : s.vm.findClass (cN (nO k0)) = some m.cls) (htT : ∀ w ∈ Tall, w.before args s = true)
    (hK : va_K G.1 vwCl (tysA G.2.1) s) {o : Nat} (h0 : (sh o).1 = b) {v : Value} (hv : fld ad D o (sh o).2.2 cf = v) {pc : Nat} {lsA : Array Slot} {rest : List Value} (hdg : decode cc pc = .ok (.getfield idx, 3))
    {H : Heap} {locs : List Loc} {cells slots : Nat} (hP : va_P G.1 vwCl (wsOf G.2.1 ad D) H) {Q : State → Prop} (next : W p l e R s m args below meth c H locs cells slots Q (F0 m (pc + 3) lsA (v :: rest))) :
    W p l e R s m args below meth c H locs cells slots Q (F0 m pc lsA (.ref (ad o) :: rest)) := by
  obtain ⟨q, hq, hcN, hlink, -, -⟩ := fld_fact hk (Or.inl rfl) hb25 hi
  have hlt : b < 20 := by have h9 := (List.getElem?_eq_some_iff.mp hq).1; simp [vwCl] at h9; omega
  have hsh : (sh o).1 < 20 := by omega
  have ho : o < NC := sh_lt (by omega)
  obtain ⟨hq1, -⟩ := clsF b q hq
  obtain ⟨hlen, q2, hq2, hN⟩ := sh_cls hsh
  rw [h0, hq] at hq2
  cases hq2
  have hget : (wsOf G.2.1 ad D)[o]? = some (ad o, .inr (b, (List.range (sh o).2.1).map (fld ad D o (sh o).2.2))) := by rw [ws_get ho, cell_obj hsh, h0]
  have hfl : ((List.range (sh o).2.1).map (fld ad D o (sh o).2.2))[cf]? = some (fld ad D o (sh o).2.2 cf) := fs_get (by rw [← hN]; exact hcN)
  exact va_get hx hb htT hq1 hown hK hP o hget hq cf hcN (htT _ hlink) (fun _ z => z) (v := v) (by rw [hfl, hv]) hdg next
theorem n0_ne {n : Nat} (h12 : n ≤ 12) (h : ¬ nI n = 0) : 1 ≤ n := by
  rcases Nat.eq_zero_or_pos n with z | z
  · subst z; exact absurd rfl h
  · exact z
theorem n0_eq {n : Nat} (h12 : n ≤ 12) (h : nI n = 0) : n = 0 := by
  have : nI n = nI 0 := h
  exact (nI_inj (by omega) (by omega) this).symm
theorem vin0 : vp_in (nI 0) (sh 172).2.1 := by unfold vp_in; decide +kernel
theorem zmet_mean7_0 : decode cX7_meanWax 0 = .ok (.aload_n 0, 1) := by decide +kernel
theorem zmet_mean7_1 : decode cX7_meanWax 1 = .ok (.getfield 7, 3) := by decide +kernel
theorem zmet_mean7_4 : decode cX7_meanWax 4 = .ok (.iconst 0, 1) := by decide +kernel
theorem zmet_mean7_5 : decode cX7_meanWax 5 = .ok (.iaload, 1) := by decide +kernel
theorem zmet_mean7_6 : decode cX7_meanWax 6 = .ok (.ifCond .ne 7, 3) := by decide +kernel
theorem zmet_mean7_9 : decode cX7_meanWax 9 = .ok (.dconst 0, 1) := by decide +kernel
theorem zmet_mean7_10 : decode cX7_meanWax 10 = .ok (.goto 17, 3) := by decide +kernel
theorem zmet_mean7_13 : decode cX7_meanWax 13 = .ok (.aload_n 0, 1) := by decide +kernel
theorem zmet_mean7_14 : decode cX7_meanWax 14 = .ok (.iconst (1), 1) := by decide +kernel
theorem zmet_mean7_15 : decode cX7_meanWax 15 = .ok (.invokevirtual 244, 3) := by decide +kernel
theorem zmet_mean7_18 : decode cX7_meanWax 18 = .ok (.i2d, 1) := by decide +kernel
theorem zmet_mean7_19 : decode cX7_meanWax 19 = .ok (.aload_n 0, 1) := by decide +kernel
theorem zmet_mean7_20 : decode cX7_meanWax 20 = .ok (.getfield 7, 3) := by decide +kernel
theorem zmet_mean7_23 : decode cX7_meanWax 23 = .ok (.iconst 0, 1) := by decide +kernel
theorem zmet_mean7_24 : decode cX7_meanWax 24 = .ok (.iaload, 1) := by decide +kernel
theorem zmet_mean7_25 : decode cX7_meanWax 25 = .ok (.i2d, 1) := by decide +kernel
theorem zmet_mean7_26 : decode cX7_meanWax 26 = .ok (.ddiv, 1) := by decide +kernel
theorem zmet_mean7_27 : decode cX7_meanWax 27 = .ok (.dreturn, 1) := by decide +kernel
set_option maxHeartbeats 4000000 in
theorem met_mean7 {l : Launch} {G : Gp} {d : Nat} (IH : Snd l G (d + 2)) {D : Mm} {ad : Nat → Nat} {sz n a : Nat} (hn : D 172 0 = nI n) (ea : mOfAll n (D 172) 1 = nI a) (h12 : n ≤ 12) (ha : a ≤ 360) :
    Met l yX7_meanWax (Cond.code yX7_meanWax cX7_meanWax 1 (some .double) :: Tall) (rmD (d + 2) 0) (va_Pc [.ref (ad 171)] (MP G ad D sz)) (MC G ad D sz (some (.double (mnD n a))) D) 0 0 (va_A (wsOf G.2.1 ad D) sz) := by
  refine va_MetF (cc := cX7_meanWax) (maxL := 1) (ret := some .double) (by decide +kernel) rfl ?_
  intro p e s m args0 below meth c s₁ B hml hv
  obtain ⟨rfl, hsz, hP, hK, hD0, hRO⟩ := hv
  have hts := atoms_spec (ws := Cond.code yX7_meanWax cX7_meanWax 1 (some .double) :: Tall) B.pre
  have htT := fun w hw => hts w (List.mem_cons_of_mem _ hw)
  have hown : s.vm.findClass (cN (nO 184)) = some m.cls := findClass_of_methodNamed B.named
  have hx := B.exec
  have hb := B.bytes
  have hlocks := B.notSynchronized
  subst hsz
  have hf := hRO.2.2.2.2.2.2.2.2
  have hl := LOK.entry (ad := ad) hf (args := [.ref 171]) (n := 1) rfl (by decide)
  rw [lg_entry_eq]
  have hD : va_D (va_A (wsOf G.2.1 ad D) s.heap.size) (wsOf G.2.1 ad D) := hD0.self
  have hS0 : va_S (va_A (wsOf G.2.1 ad D) s.heap.size) s.heap s.heap [] := va_S.rf
  have e0 : D 172 (nI 0).toNatClampNeg = nI n := hn
  have hC := T_ofAll (d := d) hn h12 (w := 1) (by decide)
  rw [ea] at hC
  have cf := call_fact (k := 184) (by decide) (by decide) (Or.inl rfl) i184_92
  refine lv_aload_n hx hb zmet_mean7_0 rfl (hl.get (i := 0) (v := .ref 171) rfl (by simp)) ?_
  refine hand_get hx hb (k0 := 184) (by decide) i184_73 (by decide) hown htT hK (o := 171) (by decide +kernel) (v := .ref (ad 172)) (by rfl) zmet_mean7_1 hP ?_
  refine lv_iconst hx hb zmet_mean7_4 (v := nI 0) rfl ?_
  refine va_iald hx hb hK hP 172 0 (by rw [ws_get (by decide), cell_int (by decide +kernel)]) rfl vin0 zmet_mean7_5 ?_
  rw [e0]
  refine lv_if_ne hx hb zmet_mean7_6 (tgt := 13) (by decide) (fun hz => ?_) (fun hz => ?_)
  · have h1 := n0_ne h12 hz
    have ev : mnD n a = FP.ddiv (FP.i2d (nI a)) (FP.i2d (nI n)) := if_neg (by omega)
    refine lv_aload_n hx hb zmet_mean7_13 rfl (hl.get (i := 0) (v := .ref 171) rfl (by simp)) ?_
    refine lv_iconst hx hb zmet_mean7_14 (v := nI 1) rfl ?_
    refine hand_call (As := [.int (nI 1)]) (o := 171) (b := 182) (rest := []) IH (by omega) hx hb hml hown hts hK hRO (by decide) hC rfl cf.1 (cf.2.1 rfl).1 (by rw [← (cf.2.1 rfl).2.1]; rfl) (cf.2.1 rfl).2.2 (by decide) hl.1 zmet_mean7_15 (by decide) hP hD hS0 (fun H1 locs1 hP1 hS1 => ?_)
    refine lv_i2d hx hb zmet_mean7_18 ?_
    refine lv_aload_n hx hb zmet_mean7_19 rfl (hl.get (i := 0) (v := .ref 171) rfl (by simp)) ?_
    refine hand_get hx hb (k0 := 184) (by decide) i184_73 (by decide) hown htT hK (o := 171) (by decide +kernel) (v := .ref (ad 172)) (by rfl) zmet_mean7_20 hP1 ?_
    refine lv_iconst hx hb zmet_mean7_23 (v := nI 0) rfl ?_
    refine va_iald hx hb hK hP1 172 0 (by rw [ws_get (by decide), cell_int (by decide +kernel)]) rfl vin0 zmet_mean7_24 ?_
    rw [e0]
    refine lv_i2d hx hb zmet_mean7_25 ?_
    refine lv_ddiv hx hb zmet_mean7_26 (dw_no ha h1 h12).1 ?_
    exact W.dret hx hb B.returns (fun t ht hW => ⟨⟨_, rfl, ad, agree.rf, by rw [ev]; rfl, by rw [ht]; exact hP1, va_K.moved hW.alike hK, hD, fun _ => rfl⟩, hS1.F ht⟩) hS1.2.2 zmet_mean7_27 hlocks
  · have ev : mnD n a = FP.dconst0 := if_pos (n0_eq h12 hz)
    refine lv_dconst0 hx hb zmet_mean7_9 ?_
    refine lv_goto hx hb zmet_mean7_10 (tgt := 27) (by decide) ?_
    exact W.dret hx hb B.returns (fun t ht hW => ⟨⟨_, rfl, ad, agree.rf, by rw [ev]; rfl, by rw [ht]; exact hP, va_K.moved hW.alike hK, hD, fun _ => rfl⟩, hS0.F ht⟩) hS0.2.2 zmet_mean7_27 hlocks
theorem zmet_snuf7_0 : decode cX7_snuffedShare 0 = .ok (.aload_n 0, 1) := by decide +kernel
theorem zmet_snuf7_1 : decode cX7_snuffedShare 1 = .ok (.getfield 7, 3) := by decide +kernel
theorem zmet_snuf7_4 : decode cX7_snuffedShare 4 = .ok (.iconst 0, 1) := by decide +kernel
theorem zmet_snuf7_5 : decode cX7_snuffedShare 5 = .ok (.iaload, 1) := by decide +kernel
theorem zmet_snuf7_6 : decode cX7_snuffedShare 6 = .ok (.ifCond .ne 7, 3) := by decide +kernel
theorem zmet_snuf7_9 : decode cX7_snuffedShare 9 = .ok (.fconst 0, 1) := by decide +kernel
theorem zmet_snuf7_10 : decode cX7_snuffedShare 10 = .ok (.goto 17, 3) := by decide +kernel
theorem zmet_snuf7_13 : decode cX7_snuffedShare 13 = .ok (.aload_n 0, 1) := by decide +kernel
theorem zmet_snuf7_14 : decode cX7_snuffedShare 14 = .ok (.iconst (-1), 1) := by decide +kernel
theorem zmet_snuf7_15 : decode cX7_snuffedShare 15 = .ok (.invokevirtual 127, 3) := by decide +kernel
theorem zmet_snuf7_18 : decode cX7_snuffedShare 18 = .ok (.i2f, 1) := by decide +kernel
theorem zmet_snuf7_19 : decode cX7_snuffedShare 19 = .ok (.aload_n 0, 1) := by decide +kernel
theorem zmet_snuf7_20 : decode cX7_snuffedShare 20 = .ok (.getfield 7, 3) := by decide +kernel
theorem zmet_snuf7_23 : decode cX7_snuffedShare 23 = .ok (.iconst 0, 1) := by decide +kernel
theorem zmet_snuf7_24 : decode cX7_snuffedShare 24 = .ok (.iaload, 1) := by decide +kernel
theorem zmet_snuf7_25 : decode cX7_snuffedShare 25 = .ok (.i2f, 1) := by decide +kernel
theorem zmet_snuf7_26 : decode cX7_snuffedShare 26 = .ok (.fdiv, 1) := by decide +kernel
theorem zmet_snuf7_27 : decode cX7_snuffedShare 27 = .ok (.freturn, 1) := by decide +kernel
set_option maxHeartbeats 4000000 in
theorem met_snuf7 {l : Launch} {G : Gp} {d : Nat} (IH : Snd l G (d + 2)) {D : Mm} {ad : Nat → Nat} {sz n a : Nat} (hn : D 172 0 = nI n) (ea : mWrits n (D 172) = nI a) (h12 : n ≤ 12) (ha : a ≤ 360) :
    Met l yX7_snuffedShare (Cond.code yX7_snuffedShare cX7_snuffedShare 1 (some .float) :: Tall) (rmD (d + 2) 0) (va_Pc [.ref (ad 171)] (MP G ad D sz)) (MC G ad D sz (some (.float (mnF n a))) D) 0 0 (va_A (wsOf G.2.1 ad D) sz) := by
  refine va_MetF (cc := cX7_snuffedShare) (maxL := 1) (ret := some .float) (by decide +kernel) rfl ?_
  intro p e s m args0 below meth c s₁ B hml hv
  obtain ⟨rfl, hsz, hP, hK, hD0, hRO⟩ := hv
  have hts := atoms_spec (ws := Cond.code yX7_snuffedShare cX7_snuffedShare 1 (some .float) :: Tall) B.pre
  have htT := fun w hw => hts w (List.mem_cons_of_mem _ hw)
  have hown : s.vm.findClass (cN (nO 184)) = some m.cls := findClass_of_methodNamed B.named
  have hx := B.exec
  have hb := B.bytes
  have hlocks := B.notSynchronized
  subst hsz
  have hf := hRO.2.2.2.2.2.2.2.2
  have hl := LOK.entry (ad := ad) hf (args := [.ref 171]) (n := 1) rfl (by decide)
  rw [lg_entry_eq]
  have hD : va_D (va_A (wsOf G.2.1 ad D) s.heap.size) (wsOf G.2.1 ad D) := hD0.self
  have hS0 : va_S (va_A (wsOf G.2.1 ad D) s.heap.size) s.heap s.heap [] := va_S.rf
  have e0 : D 172 (nI 0).toNatClampNeg = nI n := hn
  have hC := T_writs (d := d) hn h12
  rw [ea] at hC
  have cf := call_fact (k := 184) (by decide) (by decide) (Or.inl rfl) i184_86
  refine lv_aload_n hx hb zmet_snuf7_0 rfl (hl.get (i := 0) (v := .ref 171) rfl (by simp)) ?_
  refine hand_get hx hb (k0 := 184) (by decide) i184_73 (by decide) hown htT hK (o := 171) (by decide +kernel) (v := .ref (ad 172)) (by rfl) zmet_snuf7_1 hP ?_
  refine lv_iconst hx hb zmet_snuf7_4 (v := nI 0) rfl ?_
  refine va_iald hx hb hK hP 172 0 (by rw [ws_get (by decide), cell_int (by decide +kernel)]) rfl vin0 zmet_snuf7_5 ?_
  rw [e0]
  refine lv_if_ne hx hb zmet_snuf7_6 (tgt := 13) (by decide) (fun hz => ?_) (fun hz => ?_)
  · have h1 := n0_ne h12 hz
    have ev : mnF n a = FP.fdiv (FP.i2f (nI a)) (FP.i2f (nI n)) := if_neg (by omega)
    refine lv_aload_n hx hb zmet_snuf7_13 rfl (hl.get (i := 0) (v := .ref 171) rfl (by simp)) ?_
    refine lv_iconst hx hb zmet_snuf7_14 (v := -1) rfl ?_
    refine hand_call (As := [.int (-1)]) (o := 171) (b := 123) (rest := []) IH (by omega) hx hb hml hown hts hK hRO (by decide) hC rfl cf.1 (cf.2.1 rfl).1 (by rw [← (cf.2.1 rfl).2.1]; rfl) (cf.2.1 rfl).2.2 (by decide) hl.1 zmet_snuf7_15 (by decide) hP hD hS0 (fun H1 locs1 hP1 hS1 => ?_)
    refine lv_i2f hx hb zmet_snuf7_18 ?_
    refine lv_aload_n hx hb zmet_snuf7_19 rfl (hl.get (i := 0) (v := .ref 171) rfl (by simp)) ?_
    refine hand_get hx hb (k0 := 184) (by decide) i184_73 (by decide) hown htT hK (o := 171) (by decide +kernel) (v := .ref (ad 172)) (by rfl) zmet_snuf7_20 hP1 ?_
    refine lv_iconst hx hb zmet_snuf7_23 (v := nI 0) rfl ?_
    refine va_iald hx hb hK hP1 172 0 (by rw [ws_get (by decide), cell_int (by decide +kernel)]) rfl vin0 zmet_snuf7_24 ?_
    rw [e0]
    refine lv_i2f hx hb zmet_snuf7_25 ?_
    refine lv_fdiv hx hb zmet_snuf7_26 (dw_no ha h1 h12).2 ?_
    exact W.fret hx hb B.returns (fun t ht hW => ⟨⟨_, rfl, ad, agree.rf, by rw [ev]; rfl, by rw [ht]; exact hP1, va_K.moved hW.alike hK, hD, fun _ => rfl⟩, hS1.F ht⟩) hS1.2.2 zmet_snuf7_27 hlocks
  · have ev : mnF n a = FP.fconst0 := if_pos (n0_eq h12 hz)
    refine lv_fconst0 hx hb zmet_snuf7_9 ?_
    refine lv_goto hx hb zmet_snuf7_10 (tgt := 27) (by decide) ?_
    exact W.fret hx hb B.returns (fun t ht hW => ⟨⟨_, rfl, ad, agree.rf, by rw [ev]; rfl, by rw [ht]; exact hP, va_K.moved hW.alike hK, hD, fun _ => rfl⟩, hS0.F ht⟩) hS0.2.2 zmet_snuf7_27 hlocks
theorem zmet_mean6_0 : decode cX6_meanWax 0 = .ok (.aload_n 0, 1) := by decide +kernel
theorem zmet_mean6_1 : decode cX6_meanWax 1 = .ok (.getfield 10, 3) := by decide +kernel
theorem zmet_mean6_4 : decode cX6_meanWax 4 = .ok (.getfield 87, 3) := by decide +kernel
theorem zmet_mean6_7 : decode cX6_meanWax 7 = .ok (.getfield 195, 3) := by decide +kernel
theorem zmet_mean6_10 : decode cX6_meanWax 10 = .ok (.istore_n 1, 1) := by decide +kernel
theorem zmet_mean6_11 : decode cX6_meanWax 11 = .ok (.iload_n 1, 1) := by decide +kernel
theorem zmet_mean6_12 : decode cX6_meanWax 12 = .ok (.ifCond .ne 7, 3) := by decide +kernel
theorem zmet_mean6_15 : decode cX6_meanWax 15 = .ok (.dconst 0, 1) := by decide +kernel
theorem zmet_mean6_16 : decode cX6_meanWax 16 = .ok (.goto 17, 3) := by decide +kernel
theorem zmet_mean6_19 : decode cX6_meanWax 19 = .ok (.aload_n 0, 1) := by decide +kernel
theorem zmet_mean6_20 : decode cX6_meanWax 20 = .ok (.getfield 10, 3) := by decide +kernel
theorem zmet_mean6_23 : decode cX6_meanWax 23 = .ok (.getfield 87, 3) := by decide +kernel
theorem zmet_mean6_26 : decode cX6_meanWax 26 = .ok (.invokevirtual 254, 3) := by decide +kernel
theorem zmet_mean6_29 : decode cX6_meanWax 29 = .ok (.i2d, 1) := by decide +kernel
theorem zmet_mean6_30 : decode cX6_meanWax 30 = .ok (.iload_n 1, 1) := by decide +kernel
theorem zmet_mean6_31 : decode cX6_meanWax 31 = .ok (.i2d, 1) := by decide +kernel
theorem zmet_mean6_32 : decode cX6_meanWax 32 = .ok (.ddiv, 1) := by decide +kernel
theorem zmet_mean6_33 : decode cX6_meanWax 33 = .ok (.dreturn, 1) := by decide +kernel
set_option maxHeartbeats 4000000 in
theorem met_mean6 {l : Launch} {G : Gp} {d : Nat} (IH : Snd l G (d + 2)) {D : Mm} {ad : Nat → Nat} {sz n a : Nat} {V : Nat → Int32} (R : Rel D n V) (ea : mOfAll n V 1 = nI a) (h12 : n ≤ 12) (ha : a ≤ 360) :
    Met l yX6_meanWax (Cond.code yX6_meanWax cX6_meanWax 2 (some .double) :: Tall) (rmD (d + 2) 0) (va_Pc [.ref (ad 0)] (MP G ad D sz)) (MC G ad D sz (some (.double (mnD n a))) D) 0 0 (va_A (wsOf G.2.1 ad D) sz) := by
  refine va_MetF (cc := cX6_meanWax) (maxL := 2) (ret := some .double) (by decide +kernel) rfl ?_
  intro p e s m args0 below meth c s₁ B hml hv
  obtain ⟨rfl, hsz, hP, hK, hD0, hRO⟩ := hv
  have hts := atoms_spec (ws := Cond.code yX6_meanWax cX6_meanWax 2 (some .double) :: Tall) B.pre
  have htT := fun w hw => hts w (List.mem_cons_of_mem _ hw)
  have hown : s.vm.findClass (cN (nO 80)) = some m.cls := findClass_of_methodNamed B.named
  have hx := B.exec
  have hb := B.bytes
  have hlocks := B.notSynchronized
  subst hsz
  have hf := hRO.2.2.2.2.2.2.2.2
  have hl := LOK.entry (ad := ad) hf (args := [.ref 0]) (n := 2) rfl (by decide)
  rw [lg_entry_eq]
  have hD : va_D (va_A (wsOf G.2.1 ad D) s.heap.size) (wsOf G.2.1 ad D) := hD0.self
  have hS0 : va_S (va_A (wsOf G.2.1 ad D) s.heap.size) s.heap s.heap [] := va_S.rf
  have hn : D 2 8 = nI n := R.ct
  have hC := K_allWax (d := d + 1) R h12
  rw [ea] at hC
  have cf := call_fact (k := 80) (by decide) (by decide) (Or.inl rfl) i80_109
  refine lv_aload_n hx hb zmet_mean6_0 rfl (hl.get (i := 0) (v := .ref 0) rfl (by simp)) ?_
  refine hand_get hx hb (k0 := 80) (by decide) i80_73 (by decide) hown htT hK (o := 0) (by decide +kernel) (v := .ref (ad 1)) (by rfl) zmet_mean6_1 hP ?_
  refine hand_get hx hb (k0 := 80) (by decide) i80_76 (by decide) hown htT hK (o := 1) (by decide +kernel) (v := .ref (ad 2)) (by rfl) zmet_mean6_4 hP ?_
  refine hand_get hx hb (k0 := 80) (by decide) i80_79 (by decide) hown htT hK (o := 2) (by decide +kernel) (v := .int (nI n)) (by rw [← hn]; rfl) zmet_mean6_7 hP ?_
  refine lv_istore_n hx hb zmet_mean6_10 rfl hl.has (by decide) rfl (fun lsB hB => ?_)
  have hl2 := hl.set hf (i := 1) (v := .int (nI n)) (by decide) rfl hB
  refine lv_iload_n hx hb zmet_mean6_11 rfl (hl2.get (i := 1) (v := .int (nI n)) rfl (by simp)) ?_
  refine lv_if_ne hx hb zmet_mean6_12 (tgt := 19) (by decide) (fun hz => ?_) (fun hz => ?_)
  · have h1 := n0_ne h12 hz
    have ev : mnD n a = FP.ddiv (FP.i2d (nI a)) (FP.i2d (nI n)) := if_neg (by omega)
    refine lv_aload_n hx hb zmet_mean6_19 rfl (hl2.get (i := 0) (v := .ref 0) rfl (by simp)) ?_
    refine hand_get hx hb (k0 := 80) (by decide) i80_73 (by decide) hown htT hK (o := 0) (by decide +kernel) (v := .ref (ad 1)) (by rfl) zmet_mean6_20 hP ?_
    refine hand_get hx hb (k0 := 80) (by decide) i80_76 (by decide) hown htT hK (o := 1) (by decide +kernel) (v := .ref (ad 2)) (by rfl) zmet_mean6_23 hP ?_
    refine hand_call (As := []) (o := 2) (b := 50) (rest := []) IH (by omega) hx hb hml hown hts hK hRO (by decide) hC rfl cf.1 (cf.2.1 rfl).1 (by rw [← (cf.2.1 rfl).2.1]; rfl) (cf.2.1 rfl).2.2 (by decide) hl2.1 zmet_mean6_26 (by decide) hP hD hS0 (fun H1 locs1 hP1 hS1 => ?_)
    refine lv_i2d hx hb zmet_mean6_29 ?_
    refine lv_iload_n hx hb zmet_mean6_30 rfl (hl2.get (i := 1) (v := .int (nI n)) rfl (by simp)) ?_
    refine lv_i2d hx hb zmet_mean6_31 ?_
    refine lv_ddiv hx hb zmet_mean6_32 (dw_no ha h1 h12).1 ?_
    exact W.dret hx hb B.returns (fun t ht hW => ⟨⟨_, rfl, ad, agree.rf, by rw [ev]; rfl, by rw [ht]; exact hP1, va_K.moved hW.alike hK, hD, fun _ => rfl⟩, hS1.F ht⟩) hS1.2.2 zmet_mean6_33 hlocks
  · have ev : mnD n a = FP.dconst0 := if_pos (n0_eq h12 hz)
    refine lv_dconst0 hx hb zmet_mean6_15 ?_
    refine lv_goto hx hb zmet_mean6_16 (tgt := 33) (by decide) ?_
    exact W.dret hx hb B.returns (fun t ht hW => ⟨⟨_, rfl, ad, agree.rf, by rw [ev]; rfl, by rw [ht]; exact hP, va_K.moved hW.alike hK, hD, fun _ => rfl⟩, hS0.F ht⟩) hS0.2.2 zmet_mean6_33 hlocks
theorem zmet_snuf6_0 : decode cX6_snuffedShare 0 = .ok (.aload_n 0, 1) := by decide +kernel
theorem zmet_snuf6_1 : decode cX6_snuffedShare 1 = .ok (.getfield 10, 3) := by decide +kernel
theorem zmet_snuf6_4 : decode cX6_snuffedShare 4 = .ok (.getfield 87, 3) := by decide +kernel
theorem zmet_snuf6_7 : decode cX6_snuffedShare 7 = .ok (.getfield 195, 3) := by decide +kernel
theorem zmet_snuf6_10 : decode cX6_snuffedShare 10 = .ok (.istore_n 1, 1) := by decide +kernel
theorem zmet_snuf6_11 : decode cX6_snuffedShare 11 = .ok (.iload_n 1, 1) := by decide +kernel
theorem zmet_snuf6_12 : decode cX6_snuffedShare 12 = .ok (.ifCond .ne 7, 3) := by decide +kernel
theorem zmet_snuf6_15 : decode cX6_snuffedShare 15 = .ok (.fconst 0, 1) := by decide +kernel
theorem zmet_snuf6_16 : decode cX6_snuffedShare 16 = .ok (.goto 17, 3) := by decide +kernel
theorem zmet_snuf6_19 : decode cX6_snuffedShare 19 = .ok (.aload_n 0, 1) := by decide +kernel
theorem zmet_snuf6_20 : decode cX6_snuffedShare 20 = .ok (.getfield 10, 3) := by decide +kernel
theorem zmet_snuf6_23 : decode cX6_snuffedShare 23 = .ok (.getfield 87, 3) := by decide +kernel
theorem zmet_snuf6_26 : decode cX6_snuffedShare 26 = .ok (.invokevirtual 251, 3) := by decide +kernel
theorem zmet_snuf6_29 : decode cX6_snuffedShare 29 = .ok (.i2f, 1) := by decide +kernel
theorem zmet_snuf6_30 : decode cX6_snuffedShare 30 = .ok (.iload_n 1, 1) := by decide +kernel
theorem zmet_snuf6_31 : decode cX6_snuffedShare 31 = .ok (.i2f, 1) := by decide +kernel
theorem zmet_snuf6_32 : decode cX6_snuffedShare 32 = .ok (.fdiv, 1) := by decide +kernel
theorem zmet_snuf6_33 : decode cX6_snuffedShare 33 = .ok (.freturn, 1) := by decide +kernel
set_option maxHeartbeats 4000000 in
theorem met_snuf6 {l : Launch} {G : Gp} {d : Nat} (IH : Snd l G (d + 2)) {D : Mm} {ad : Nat → Nat} {sz n a : Nat} {V : Nat → Int32} (R : Rel D n V) (hby : byV n V) (ea : mWrits n V = nI a) (h12 : n ≤ 12) (ha : a ≤ 360) :
    Met l yX6_snuffedShare (Cond.code yX6_snuffedShare cX6_snuffedShare 2 (some .float) :: Tall) (rmD (d + 2) 0) (va_Pc [.ref (ad 0)] (MP G ad D sz)) (MC G ad D sz (some (.float (mnF n a))) D) 0 0 (va_A (wsOf G.2.1 ad D) sz) := by
  refine va_MetF (cc := cX6_snuffedShare) (maxL := 2) (ret := some .float) (by decide +kernel) rfl ?_
  intro p e s m args0 below meth c s₁ B hml hv
  obtain ⟨rfl, hsz, hP, hK, hD0, hRO⟩ := hv
  have hts := atoms_spec (ws := Cond.code yX6_snuffedShare cX6_snuffedShare 2 (some .float) :: Tall) B.pre
  have htT := fun w hw => hts w (List.mem_cons_of_mem _ hw)
  have hown : s.vm.findClass (cN (nO 80)) = some m.cls := findClass_of_methodNamed B.named
  have hx := B.exec
  have hb := B.bytes
  have hlocks := B.notSynchronized
  subst hsz
  have hf := hRO.2.2.2.2.2.2.2.2
  have hl := LOK.entry (ad := ad) hf (args := [.ref 0]) (n := 2) rfl (by decide)
  rw [lg_entry_eq]
  have hD : va_D (va_A (wsOf G.2.1 ad D) s.heap.size) (wsOf G.2.1 ad D) := hD0.self
  have hS0 : va_S (va_A (wsOf G.2.1 ad D) s.heap.size) s.heap s.heap [] := va_S.rf
  have hn : D 2 8 = nI n := R.ct
  have hC := K_allWrits (d := d + 1) R h12 hby
  rw [ea] at hC
  have cf := call_fact (k := 80) (by decide) (by decide) (Or.inl rfl) i80_98
  refine lv_aload_n hx hb zmet_snuf6_0 rfl (hl.get (i := 0) (v := .ref 0) rfl (by simp)) ?_
  refine hand_get hx hb (k0 := 80) (by decide) i80_73 (by decide) hown htT hK (o := 0) (by decide +kernel) (v := .ref (ad 1)) (by rfl) zmet_snuf6_1 hP ?_
  refine hand_get hx hb (k0 := 80) (by decide) i80_76 (by decide) hown htT hK (o := 1) (by decide +kernel) (v := .ref (ad 2)) (by rfl) zmet_snuf6_4 hP ?_
  refine hand_get hx hb (k0 := 80) (by decide) i80_79 (by decide) hown htT hK (o := 2) (by decide +kernel) (v := .int (nI n)) (by rw [← hn]; rfl) zmet_snuf6_7 hP ?_
  refine lv_istore_n hx hb zmet_snuf6_10 rfl hl.has (by decide) rfl (fun lsB hB => ?_)
  have hl2 := hl.set hf (i := 1) (v := .int (nI n)) (by decide) rfl hB
  refine lv_iload_n hx hb zmet_snuf6_11 rfl (hl2.get (i := 1) (v := .int (nI n)) rfl (by simp)) ?_
  refine lv_if_ne hx hb zmet_snuf6_12 (tgt := 19) (by decide) (fun hz => ?_) (fun hz => ?_)
  · have h1 := n0_ne h12 hz
    have ev : mnF n a = FP.fdiv (FP.i2f (nI a)) (FP.i2f (nI n)) := if_neg (by omega)
    refine lv_aload_n hx hb zmet_snuf6_19 rfl (hl2.get (i := 0) (v := .ref 0) rfl (by simp)) ?_
    refine hand_get hx hb (k0 := 80) (by decide) i80_73 (by decide) hown htT hK (o := 0) (by decide +kernel) (v := .ref (ad 1)) (by rfl) zmet_snuf6_20 hP ?_
    refine hand_get hx hb (k0 := 80) (by decide) i80_76 (by decide) hown htT hK (o := 1) (by decide +kernel) (v := .ref (ad 2)) (by rfl) zmet_snuf6_23 hP ?_
    refine hand_call (As := []) (o := 2) (b := 49) (rest := []) IH (by omega) hx hb hml hown hts hK hRO (by decide) hC rfl cf.1 (cf.2.1 rfl).1 (by rw [← (cf.2.1 rfl).2.1]; rfl) (cf.2.1 rfl).2.2 (by decide) hl2.1 zmet_snuf6_26 (by decide) hP hD hS0 (fun H1 locs1 hP1 hS1 => ?_)
    refine lv_i2f hx hb zmet_snuf6_29 ?_
    refine lv_iload_n hx hb zmet_snuf6_30 rfl (hl2.get (i := 1) (v := .int (nI n)) rfl (by simp)) ?_
    refine lv_i2f hx hb zmet_snuf6_31 ?_
    refine lv_fdiv hx hb zmet_snuf6_32 (dw_no ha h1 h12).2 ?_
    exact W.fret hx hb B.returns (fun t ht hW => ⟨⟨_, rfl, ad, agree.rf, by rw [ev]; rfl, by rw [ht]; exact hP1, va_K.moved hW.alike hK, hD, fun _ => rfl⟩, hS1.F ht⟩) hS1.2.2 zmet_snuf6_33 hlocks
  · have ev : mnF n a = FP.fconst0 := if_pos (n0_eq h12 hz)
    refine lv_fconst0 hx hb zmet_snuf6_15 ?_
    refine lv_goto hx hb zmet_snuf6_16 (tgt := 33) (by decide) ?_
    exact W.fret hx hb B.returns (fun t ht hW => ⟨⟨_, rfl, ad, agree.rf, by rw [ev]; rfl, by rw [ht]; exact hP, va_K.moved hW.alike hK, hD, fun _ => rfl⟩, hS0.F ht⟩) hS0.2.2 zmet_snuf6_33 hlocks
