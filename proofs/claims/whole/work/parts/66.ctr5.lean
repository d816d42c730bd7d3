/-! the constructor of the reference -/
theorem zkat_0 : decode cX7_at 0 = .ok (.bipush 6, 2) := by decide +kernel
theorem zkat_2 : decode cX7_at 2 = .ok (.iconst 4, 1) := by decide +kernel
theorem zkat_3 : decode cX7_at 3 = .ok (.iload_n 0, 1) := by decide +kernel
theorem zkat_4 : decode cX7_at 4 = .ok (.imul, 1) := by decide +kernel
theorem zkat_5 : decode cX7_at 5 = .ok (.iadd, 1) := by decide +kernel
theorem zkat_6 : decode cX7_at 6 = .ok (.iload_n 1, 1) := by decide +kernel
theorem zkat_7 : decode cX7_at 7 = .ok (.iadd, 1) := by decide +kernel
theorem zkat_8 : decode cX7_at 8 = .ok (.ireturn, 1) := by decide +kernel
def vF : Nat → Nat → Int32
  | 0 => i0
  | n + 1 => upd (upd (vF n) (6 + 4 * n + 0) (nI 1)) (6 + 4 * n + 1) (nI ((n + 1) % 6))
def x7W (cA : Nat → ClassId) (f : Nat → Nat) : va_W := [(f 0, .inr (8, [.int 0, .int 0, .int 0, .int 0, .int 0, .int 0, .int 0, .int 0, .int 0, .ref (f 1), .ref (f 2), .ref (f 3), .ref (f 4), .ref (f 5), .ref (f 6), .ref (f 7), .int 0, .ref (f 8), .ref (f 9), .int 0, .int 0, .int 0, .int 0, .int 0, .int 0])), (f 1, .inl (cA 0, 126, .inl (vF 6))), (f 2, .inl (cA 0, 126, .inl i0)), (f 3, .inl (cA 0, 126, .inl i0)), (f 4, .inl (cA 0, 126, .inl i0)), (f 5, .inl (cA 0, 1008, .inl i0)), (f 6, .inl (cA 0, 6, .inl i0)), (f 7, .inl (cA 0, 6, .inl i0)), (f 8, .inl (cA 0, 60, .inl i0)), (f 9, .inl (cA 0, 140, .inl i0))]
theorem zkX7_0 : decode cX7_init 0 = .ok (.aload_n 0, 1) := by decide +kernel
theorem zkX7_1 : decode cX7_init 1 = .ok (.invokespecial 1, 3) := by decide +kernel
theorem zkX7_4 : decode cX7_init 4 = .ok (.aload_n 0, 1) := by decide +kernel
theorem zkX7_5 : decode cX7_init 5 = .ok (.bipush 126, 2) := by decide +kernel
theorem zkX7_7 : decode cX7_init 7 = .ok (.newarray .int, 2) := by decide +kernel
theorem zkX7_9 : decode cX7_init 9 = .ok (.putfield 7, 3) := by decide +kernel
theorem zkX7_12 : decode cX7_init 12 = .ok (.aload_n 0, 1) := by decide +kernel
theorem zkX7_13 : decode cX7_init 13 = .ok (.bipush 126, 2) := by decide +kernel
theorem zkX7_15 : decode cX7_init 15 = .ok (.newarray .int, 2) := by decide +kernel
theorem zkX7_17 : decode cX7_init 17 = .ok (.putfield 13, 3) := by decide +kernel
theorem zkX7_20 : decode cX7_init 20 = .ok (.aload_n 0, 1) := by decide +kernel
theorem zkX7_21 : decode cX7_init 21 = .ok (.bipush 126, 2) := by decide +kernel
theorem zkX7_23 : decode cX7_init 23 = .ok (.newarray .int, 2) := by decide +kernel
theorem zkX7_25 : decode cX7_init 25 = .ok (.putfield 16, 3) := by decide +kernel
theorem zkX7_28 : decode cX7_init 28 = .ok (.aload_n 0, 1) := by decide +kernel
theorem zkX7_29 : decode cX7_init 29 = .ok (.bipush 126, 2) := by decide +kernel
theorem zkX7_31 : decode cX7_init 31 = .ok (.newarray .int, 2) := by decide +kernel
theorem zkX7_33 : decode cX7_init 33 = .ok (.putfield 19, 3) := by decide +kernel
theorem zkX7_36 : decode cX7_init 36 = .ok (.aload_n 0, 1) := by decide +kernel
theorem zkX7_37 : decode cX7_init 37 = .ok (.sipush 1008, 3) := by decide +kernel
theorem zkX7_40 : decode cX7_init 40 = .ok (.newarray .int, 2) := by decide +kernel
theorem zkX7_42 : decode cX7_init 42 = .ok (.putfield 22, 3) := by decide +kernel
theorem zkX7_45 : decode cX7_init 45 = .ok (.aload_n 0, 1) := by decide +kernel
theorem zkX7_46 : decode cX7_init 46 = .ok (.bipush 6, 2) := by decide +kernel
theorem zkX7_48 : decode cX7_init 48 = .ok (.newarray .int, 2) := by decide +kernel
theorem zkX7_50 : decode cX7_init 50 = .ok (.putfield 25, 3) := by decide +kernel
theorem zkX7_53 : decode cX7_init 53 = .ok (.aload_n 0, 1) := by decide +kernel
theorem zkX7_54 : decode cX7_init 54 = .ok (.bipush 6, 2) := by decide +kernel
theorem zkX7_56 : decode cX7_init 56 = .ok (.newarray .int, 2) := by decide +kernel
theorem zkX7_58 : decode cX7_init 58 = .ok (.putfield 28, 3) := by decide +kernel
theorem zkX7_61 : decode cX7_init 61 = .ok (.aload_n 0, 1) := by decide +kernel
theorem zkX7_62 : decode cX7_init 62 = .ok (.bipush 60, 2) := by decide +kernel
theorem zkX7_64 : decode cX7_init 64 = .ok (.newarray .int, 2) := by decide +kernel
theorem zkX7_66 : decode cX7_init 66 = .ok (.putfield 31, 3) := by decide +kernel
theorem zkX7_69 : decode cX7_init 69 = .ok (.aload_n 0, 1) := by decide +kernel
theorem zkX7_70 : decode cX7_init 70 = .ok (.sipush 140, 3) := by decide +kernel
theorem zkX7_73 : decode cX7_init 73 = .ok (.newarray .int, 2) := by decide +kernel
theorem zkX7_75 : decode cX7_init 75 = .ok (.putfield 34, 3) := by decide +kernel
theorem zkX7_78 : decode cX7_init 78 = .ok (.iconst 0, 1) := by decide +kernel
theorem zkX7_79 : decode cX7_init 79 = .ok (.istore_n 1, 1) := by decide +kernel
theorem zkX7_80 : decode cX7_init 80 = .ok (.iload_n 1, 1) := by decide +kernel
theorem zkX7_81 : decode cX7_init 81 = .ok (.bipush 6, 2) := by decide +kernel
theorem zkX7_83 : decode cX7_init 83 = .ok (.if_icmp .ge 36, 3) := by decide +kernel
theorem zkX7_86 : decode cX7_init 86 = .ok (.aload_n 0, 1) := by decide +kernel
theorem zkX7_87 : decode cX7_init 87 = .ok (.getfield 7, 3) := by decide +kernel
theorem zkX7_90 : decode cX7_init 90 = .ok (.iload_n 1, 1) := by decide +kernel
theorem zkX7_91 : decode cX7_init 91 = .ok (.iconst 0, 1) := by decide +kernel
theorem zkX7_92 : decode cX7_init 92 = .ok (.invokestatic 37, 3) := by decide +kernel
theorem zkX7_95 : decode cX7_init 95 = .ok (.iconst 1, 1) := by decide +kernel
theorem zkX7_96 : decode cX7_init 96 = .ok (.iastore, 1) := by decide +kernel
theorem zkX7_97 : decode cX7_init 97 = .ok (.aload_n 0, 1) := by decide +kernel
theorem zkX7_98 : decode cX7_init 98 = .ok (.getfield 7, 3) := by decide +kernel
theorem zkX7_101 : decode cX7_init 101 = .ok (.iload_n 1, 1) := by decide +kernel
theorem zkX7_102 : decode cX7_init 102 = .ok (.iconst 1, 1) := by decide +kernel
theorem zkX7_103 : decode cX7_init 103 = .ok (.invokestatic 37, 3) := by decide +kernel
theorem zkX7_106 : decode cX7_init 106 = .ok (.iload_n 1, 1) := by decide +kernel
theorem zkX7_107 : decode cX7_init 107 = .ok (.iconst 1, 1) := by decide +kernel
theorem zkX7_108 : decode cX7_init 108 = .ok (.iadd, 1) := by decide +kernel
theorem zkX7_109 : decode cX7_init 109 = .ok (.bipush 6, 2) := by decide +kernel
theorem zkX7_111 : decode cX7_init 111 = .ok (.irem, 1) := by decide +kernel
theorem zkX7_112 : decode cX7_init 112 = .ok (.iastore, 1) := by decide +kernel
theorem zkX7_113 : decode cX7_init 113 = .ok (.iinc 1 1, 3) := by decide +kernel
theorem zkX7_116 : decode cX7_init 116 = .ok (.goto (-36), 3) := by decide +kernel
theorem zkX7_119 : decode cX7_init 119 = .ok (.return_, 1) := by decide +kernel
theorem zw_lX7_37 : Cond.methodLink RX7 37 yX7_at ∈ Tall := atT_in (i := 10028) (by decide +kernel)
theorem zw_syX7_at : Cond.static yX7_at ∈ Tall := atT_in (i := 10029) (by decide +kernel)
theorem zw_cyX7_at : Cond.code yX7_at cX7_at 2 (some .int) ∈ Tall := atT_in (i := 10030) (by decide +kernel)
theorem zw_nX7 : Cond.initialized RX7 ∈ Tall := atT_in (i := 6012) (by decide +kernel)
theorem zw_lX7_1 : Cond.methodLink RX7 1 objectInit ∈ Tall := atT_in (i := 10027) (by decide +kernel)
theorem zw_fX7_7 : Cond.fieldLink "CandleStatuteModel" 7 "CandleStatuteModel" "v" "[I" ∈ Tall := atT_in (i := 10040) (by decide +kernel)
theorem zw_fX7_13 : Cond.fieldLink "CandleStatuteModel" 13 "CandleStatuteModel" "before" "[I" ∈ Tall := atT_in (i := 10041) (by decide +kernel)
theorem zw_fX7_16 : Cond.fieldLink "CandleStatuteModel" 16 "CandleStatuteModel" "saved" "[I" ∈ Tall := atT_in (i := 10042) (by decide +kernel)
theorem zw_fX7_19 : Cond.fieldLink "CandleStatuteModel" 19 "CandleStatuteModel" "kept" "[I" ∈ Tall := atT_in (i := 10043) (by decide +kernel)
theorem zw_fX7_22 : Cond.fieldLink "CandleStatuteModel" 22 "CandleStatuteModel" "past" "[I" ∈ Tall := atT_in (i := 10044) (by decide +kernel)
theorem zw_fX7_25 : Cond.fieldLink "CandleStatuteModel" 25 "CandleStatuteModel" "parts" "[I" ∈ Tall := atT_in (i := 10045) (by decide +kernel)
theorem zw_fX7_28 : Cond.fieldLink "CandleStatuteModel" 28 "CandleStatuteModel" "rests" "[I" ∈ Tall := atT_in (i := 10046) (by decide +kernel)
theorem zw_fX7_31 : Cond.fieldLink "CandleStatuteModel" 31 "CandleStatuteModel" "text" "[I" ∈ Tall := atT_in (i := 10048) (by decide +kernel)
theorem zw_fX7_34 : Cond.fieldLink "CandleStatuteModel" 34 "CandleStatuteModel" "line" "[I" ∈ Tall := atT_in (i := 10049) (by decide +kernel)
def atP (sz : Nat) : State → Prop := fun U => U.heap.size = sz
def atQ (a b sz : Nat) : Array Value → State → Outcome → State → Prop := fun _ st oc t => (∃ v, oc = .returned v ∧ v = some (.int (nI (6 + 4 * a + b)))) ∧ va_F (fun q => sz ≤ q) st t
theorem atP_blind {as : List Value} {sz : Nat} : FrameBlind (va_Pc as (atP sz)) := fun a U g mk h => h
set_option maxHeartbeats 4000000 in
theorem met_at {l : Launch} {a b sz : Nat} : Met l yX7_at (Cond.code yX7_at cX7_at 2 (some .int) :: Tall) (rmC 1 0 0) (va_Pc [.int (nI a), .int (nI b)] (atP sz)) (atQ a b sz) 0 0 (fun q => sz ≤ q) := by
  refine va_MetF (cc := cX7_at) (maxL := 2) (ret := some .int) (by decide +kernel) rfl ?_
  intro p env s m args0 below meth c s₁ B hml hv
  obtain ⟨rfl, hsz⟩ := hv
  have hx := B.exec
  have hb := B.bytes
  have hlocks := B.notSynchronized
  have hsz : s.heap.size = sz := hsz
  subst hsz
  have hS : va_S (fun q => s.heap.size ≤ q) s.heap s.heap [] := va_S.rf
  have hl := lv_entry [.int (nI a), .int (nI b)] (n := 2) (Nat.le_of_ble_eq_true rfl)
  rw [lg_entry_eq]
  generalize (lg_sl [.int (nI a), .int (nI b)] ++ List.replicate (2 - (lg_sl [.int (nI a), .int (nI b)]).length) Slot.unset).toArray = ls at hl ⊢
  have hl : lv_has ls 2 [(0, .int (nI a)), (1, .int (nI b))] := hl
  refine lv_bipush hx hb zkat_0 (v := nI 6) rfl ?_
  refine lv_iconst hx hb zkat_2 (v := nI 4) rfl ?_
  refine lv_iload_n hx hb zkat_3 rfl (lv_at hl 0 rfl) ?_
  refine lv_imul hx hb zkat_4 ?_
  refine lv_iadd hx hb zkat_5 ?_
  refine lv_iload_n hx hb zkat_6 rfl (lv_at hl 1 rfl) ?_
  refine lv_iadd hx hb zkat_7 ?_
  rw [nI_mul, nI_add, nI_add]
  exact W.iret hx hb B.returns (fun t ht hW => ⟨⟨_, rfl, rfl⟩, hS.F ht⟩) hS.2.2 zkat_8 hlocks
theorem at_back {p : Program} {l : Launch} {env : Env} {R : Room} {s : State} {m : MethodId} {args : Array Value} {below : List Frame} {meth : Method} {c : Code} {G : Gp} {H : Heap} {locs : List Loc} {cells slots : Nat} {Q : State → Prop} {pc : Nat} {ls : Array Slot} {rest : List Value} {cc : ByteArray} {A : Nat → Prop} {ws : va_W} {n0 : Nat} {y0 : MethodName} {ret0 : Option FieldType} {a b : Nat}
    (hx : p.tables.exec = Jvm.exec) (hb : c.code = cc) (hml : c.maxLocals = n0) (hown : s.vm.findClass RX7 = some m.cls) (hts : ∀ w ∈ (Cond.code y0 cc n0 ret0 :: Tall), w.before args s = true)
    (hP : va_P G.1 vwCl ws H) (hS : va_S A s.heap H locs) (hA : ∀ x : Nat, s.heap.size ≤ x → A x) (hls : ls.size = n0) (hR : 2 ≤ R.frames ∧ 59 ≤ R.locals) (hcc : cells ≤ R.cells ∧ slots ≤ R.slots) (hcat : (rest.map fun v => v.category).sum ≤ 8) (hdg : decode cc pc = .ok (.invokestatic 37, 3))
    (next : ∀ (H1 : Heap) (locs1 : List Loc), va_P G.1 vwCl ws H1 → va_S A s.heap H1 locs1 → W p l env R s m args below meth c H1 locs1 cells slots Q (F0 m (pc + 3) ls (.int (nI (6 + 4 * a + b)) :: rest))) :
    W p l env R s m args below meth c H locs cells slots Q (F0 m pc ls (.int (nI b) :: .int (nI a) :: rest)) := by
  have htT := fun w hw => hts w (List.mem_cons_of_mem _ hw)
  refine va_callg (Qx := fun v _ => v = some (.int (nI (6 + 4 * a + b)))) (A1 := fun q => H.size ≤ q) (rest := rest) (va_runS (n := 2) (As := [.int (nI a), .int (nI b)]) ⟨hx, hb, hml, hown, hts⟩ (met_at (a := a) (b := b) (sz := H.size)) ⟨callB_of 2 hts (good_c zw_cyX7_at) rfl rfl rfl (htT _ zw_nX7) (htT _ zw_lX7_37) ⟨by decide, by decide, by decide +kernel⟩ ⟨hR.1, hR.2⟩, htT _ zw_syX7_at⟩ ⟨atP_blind, fun U hU hW => ⟨rfl, by show U.heap.size = H.size; rw [hU]⟩⟩ rfl rfl hls rfl (lv_room hcat) hdg hcc) hS (fun q h1 h2 => absurd h2 (Nat.not_le.mpr h1)) (fun q h => hA q (Nat.le_trans hS.1 h)) ?_
  intro v t H1 locs1 ht hvm hq hz hk hS1
  subst hq
  exact next H1 locs1 (hP.kept (fun k x hx => hk x.1 (hP k x hx).lt (Nat.not_le.mpr (hP k x hx).lt))) hS1
set_option maxHeartbeats 4000000 in
set_option maxRecDepth 100000 in
theorem ctr_X7 {l : Launch} {G : Gp} {h0 sz : Nat} : Met l yX7_init (Cond.code yX7_init cX7_init 2 none :: Tall) (rmC 2 9 1724) (va_Pc [.ref h0] (CP G h0 (.inr (8, [.int 0, .int 0, .int 0, .int 0, .int 0, .int 0, .int 0, .int 0, .int 0, .null, .null, .null, .null, .null, .null, .null, .int 0, .null, .null, .int 0, .int 0, .int 0, .int 0, .int 0, .int 0])) sz)) (CQ G h0 (.inr (8, [.int 0, .int 0, .int 0, .int 0, .int 0, .int 0, .int 0, .int 0, .int 0, .null, .null, .null, .null, .null, .null, .null, .int 0, .null, .null, .int 0, .int 0, .int 0, .int 0, .int 0, .int 0])) sz (x7W G.2.1)) 9 1724 (va_A [(h0, .inr (8, [.int 0, .int 0, .int 0, .int 0, .int 0, .int 0, .int 0, .int 0, .int 0, .null, .null, .null, .null, .null, .null, .null, .int 0, .null, .null, .int 0, .int 0, .int 0, .int 0, .int 0, .int 0]))] sz) := by
  refine va_MetF (cc := cX7_init) (maxL := 2) (ret := none) (by decide +kernel) rfl ?_
  intro p env s m args0 below meth c s₁ B hml hv
  obtain ⟨rfl, hsz, hP, hK, hD0, hX⟩ := hv
  have hts := atoms_spec (ws := Cond.code yX7_init cX7_init 2 none :: Tall) B.pre
  have htT := fun w hw => hts w (List.mem_cons_of_mem _ hw)
  have hown : s.vm.findClass RX7 = some m.cls := findClass_of_methodNamed B.named
  have hin : meth.name = "<init>" := (name_of_methodNamed B.named B.method).1
  have hx := B.exec
  have hb := B.bytes
  have hlocks := B.notSynchronized
  subst hsz
  have hD := hD0.self (sz := s.heap.size)
  have hA : ∀ q : Nat, s.heap.size ≤ q → va_A [(h0, .inr (8, [.int 0, .int 0, .int 0, .int 0, .int 0, .int 0, .int 0, .int 0, .int 0, .null, .null, .null, .null, .null, .null, .null, .int 0, .null, .null, .int 0, .int 0, .int 0, .int 0, .int 0, .int 0]))] s.heap.size q := fun q h => Or.inr h
  have hS : va_S (va_A [(h0, .inr (8, [.int 0, .int 0, .int 0, .int 0, .int 0, .int 0, .int 0, .int 0, .int 0, .null, .null, .null, .null, .null, .null, .null, .int 0, .null, .null, .int 0, .int 0, .int 0, .int 0, .int 0, .int 0]))] s.heap.size) s.heap s.heap [] := va_S.rf
  have hl := lv_entry [.ref h0] (n := 2) (Nat.le_of_ble_eq_true rfl)
  rw [lg_entry_eq]
  generalize (lg_sl [.ref h0] ++ List.replicate (2 - (lg_sl [.ref h0]).length) Slot.unset).toArray = ls at hl ⊢
  have hl : lv_has ls 2 [(0, .ref h0)] := hl
  refine lv_aload_n hx hb zkX7_0 rfl (lv_at hl 0 rfl) ?_
  refine W.objInit hx hb hown (htT _ zw_lX7_1) (htT _ zw_oI) (htT _ zw_oC) rfl (by rw [hml]; exact hl.1) rfl zkX7_1 (Nat.le_of_ble_eq_true rfl) (Nat.le_of_ble_eq_true rfl) ?_
  refine W.eq (g2 := F0 m 4 ls []) rfl ?_
  refine lv_aload_n hx hb zkX7_4 rfl (lv_at hl 0 rfl) ?_
  refine lv_bipush hx hb zkX7_5 (v := nI 126) rfl ?_
  refine new_int hx hb htT hK hP hD hS hA (n := 126) (Nat.le_of_ble_eq_true rfl) (Nat.le_of_ble_eq_true rfl) (Nat.le_of_ble_eq_true rfl) zkX7_7 (fun q7 H hP hD hS => ?_)
  have hP : va_P G.1 vwCl ([(h0, .inr (8, [.int 0, .int 0, .int 0, .int 0, .int 0, .int 0, .int 0, .int 0, .int 0, .null, .null, .null, .null, .null, .null, .null, .int 0, .null, .null, .int 0, .int 0, .int 0, .int 0, .int 0, .int 0])), (q7, .inl (G.2.1 0, 126, .inl i0))]) H := hP
  have hD : va_D (va_A [(h0, .inr (8, [.int 0, .int 0, .int 0, .int 0, .int 0, .int 0, .int 0, .int 0, .int 0, .null, .null, .null, .null, .null, .null, .null, .int 0, .null, .null, .int 0, .int 0, .int 0, .int 0, .int 0, .int 0]))] s.heap.size) ([(h0, .inr (8, [.int 0, .int 0, .int 0, .int 0, .int 0, .int 0, .int 0, .int 0, .int 0, .null, .null, .null, .null, .null, .null, .null, .int 0, .null, .null, .int 0, .int 0, .int 0, .int 0, .int 0, .int 0])), (q7, .inl (G.2.1 0, 126, .inl i0))]) := hD
  refine W.cs (cells' := 1) (slots' := 126) (by omega) (by omega) ?_
  refine va_putF (own := RX7) (ref := "CandleStatuteModel") (ci := 8) (v := .ref q7) (ty := .array .int) (C := RX7) (T := TX7) (N := 25) hx hb htT uin_X7 tyX7 tyX7_ok nmX7 hown hK hP hD hS 0 rfl rfl 9 (Nat.le_of_ble_eq_true rfl) (htT _ zw_fX7_7) (fun _ h9 => h9) rfl hin rfl (by decide +kernel) rfl rfl (Nat.le_of_ble_eq_true rfl) zkX7_9 (fun H locs hP hD hS => ?_)
  have hP : va_P G.1 vwCl ([(h0, .inr (8, [.int 0, .int 0, .int 0, .int 0, .int 0, .int 0, .int 0, .int 0, .int 0, .ref q7, .null, .null, .null, .null, .null, .null, .int 0, .null, .null, .int 0, .int 0, .int 0, .int 0, .int 0, .int 0])), (q7, .inl (G.2.1 0, 126, .inl i0))]) H := hP
  have hD : va_D (va_A [(h0, .inr (8, [.int 0, .int 0, .int 0, .int 0, .int 0, .int 0, .int 0, .int 0, .int 0, .null, .null, .null, .null, .null, .null, .null, .int 0, .null, .null, .int 0, .int 0, .int 0, .int 0, .int 0, .int 0]))] s.heap.size) ([(h0, .inr (8, [.int 0, .int 0, .int 0, .int 0, .int 0, .int 0, .int 0, .int 0, .int 0, .ref q7, .null, .null, .null, .null, .null, .null, .int 0, .null, .null, .int 0, .int 0, .int 0, .int 0, .int 0, .int 0])), (q7, .inl (G.2.1 0, 126, .inl i0))]) := hD
  refine lv_aload_n hx hb zkX7_12 rfl (lv_at hl 0 rfl) ?_
  refine lv_bipush hx hb zkX7_13 (v := nI 126) rfl ?_
  refine new_int hx hb htT hK hP hD hS hA (n := 126) (Nat.le_of_ble_eq_true rfl) (Nat.le_of_ble_eq_true rfl) (Nat.le_of_ble_eq_true rfl) zkX7_15 (fun q15 H hP hD hS => ?_)
  have hP : va_P G.1 vwCl ([(h0, .inr (8, [.int 0, .int 0, .int 0, .int 0, .int 0, .int 0, .int 0, .int 0, .int 0, .ref q7, .null, .null, .null, .null, .null, .null, .int 0, .null, .null, .int 0, .int 0, .int 0, .int 0, .int 0, .int 0])), (q7, .inl (G.2.1 0, 126, .inl i0)), (q15, .inl (G.2.1 0, 126, .inl i0))]) H := hP
  have hD : va_D (va_A [(h0, .inr (8, [.int 0, .int 0, .int 0, .int 0, .int 0, .int 0, .int 0, .int 0, .int 0, .null, .null, .null, .null, .null, .null, .null, .int 0, .null, .null, .int 0, .int 0, .int 0, .int 0, .int 0, .int 0]))] s.heap.size) ([(h0, .inr (8, [.int 0, .int 0, .int 0, .int 0, .int 0, .int 0, .int 0, .int 0, .int 0, .ref q7, .null, .null, .null, .null, .null, .null, .int 0, .null, .null, .int 0, .int 0, .int 0, .int 0, .int 0, .int 0])), (q7, .inl (G.2.1 0, 126, .inl i0)), (q15, .inl (G.2.1 0, 126, .inl i0))]) := hD
  refine W.cs (cells' := 2) (slots' := 252) (by omega) (by omega) ?_
  refine va_putF (own := RX7) (ref := "CandleStatuteModel") (ci := 8) (v := .ref q15) (ty := .array .int) (C := RX7) (T := TX7) (N := 25) hx hb htT uin_X7 tyX7 tyX7_ok nmX7 hown hK hP hD hS 0 rfl rfl 10 (Nat.le_of_ble_eq_true rfl) (htT _ zw_fX7_13) (fun _ h9 => h9) rfl hin rfl (by decide +kernel) rfl rfl (Nat.le_of_ble_eq_true rfl) zkX7_17 (fun H locs hP hD hS => ?_)
  have hP : va_P G.1 vwCl ([(h0, .inr (8, [.int 0, .int 0, .int 0, .int 0, .int 0, .int 0, .int 0, .int 0, .int 0, .ref q7, .ref q15, .null, .null, .null, .null, .null, .int 0, .null, .null, .int 0, .int 0, .int 0, .int 0, .int 0, .int 0])), (q7, .inl (G.2.1 0, 126, .inl i0)), (q15, .inl (G.2.1 0, 126, .inl i0))]) H := hP
  have hD : va_D (va_A [(h0, .inr (8, [.int 0, .int 0, .int 0, .int 0, .int 0, .int 0, .int 0, .int 0, .int 0, .null, .null, .null, .null, .null, .null, .null, .int 0, .null, .null, .int 0, .int 0, .int 0, .int 0, .int 0, .int 0]))] s.heap.size) ([(h0, .inr (8, [.int 0, .int 0, .int 0, .int 0, .int 0, .int 0, .int 0, .int 0, .int 0, .ref q7, .ref q15, .null, .null, .null, .null, .null, .int 0, .null, .null, .int 0, .int 0, .int 0, .int 0, .int 0, .int 0])), (q7, .inl (G.2.1 0, 126, .inl i0)), (q15, .inl (G.2.1 0, 126, .inl i0))]) := hD
  refine lv_aload_n hx hb zkX7_20 rfl (lv_at hl 0 rfl) ?_
  refine lv_bipush hx hb zkX7_21 (v := nI 126) rfl ?_
  refine new_int hx hb htT hK hP hD hS hA (n := 126) (Nat.le_of_ble_eq_true rfl) (Nat.le_of_ble_eq_true rfl) (Nat.le_of_ble_eq_true rfl) zkX7_23 (fun q23 H hP hD hS => ?_)
  have hP : va_P G.1 vwCl ([(h0, .inr (8, [.int 0, .int 0, .int 0, .int 0, .int 0, .int 0, .int 0, .int 0, .int 0, .ref q7, .ref q15, .null, .null, .null, .null, .null, .int 0, .null, .null, .int 0, .int 0, .int 0, .int 0, .int 0, .int 0])), (q7, .inl (G.2.1 0, 126, .inl i0)), (q15, .inl (G.2.1 0, 126, .inl i0)), (q23, .inl (G.2.1 0, 126, .inl i0))]) H := hP
  have hD : va_D (va_A [(h0, .inr (8, [.int 0, .int 0, .int 0, .int 0, .int 0, .int 0, .int 0, .int 0, .int 0, .null, .null, .null, .null, .null, .null, .null, .int 0, .null, .null, .int 0, .int 0, .int 0, .int 0, .int 0, .int 0]))] s.heap.size) ([(h0, .inr (8, [.int 0, .int 0, .int 0, .int 0, .int 0, .int 0, .int 0, .int 0, .int 0, .ref q7, .ref q15, .null, .null, .null, .null, .null, .int 0, .null, .null, .int 0, .int 0, .int 0, .int 0, .int 0, .int 0])), (q7, .inl (G.2.1 0, 126, .inl i0)), (q15, .inl (G.2.1 0, 126, .inl i0)), (q23, .inl (G.2.1 0, 126, .inl i0))]) := hD
  refine W.cs (cells' := 3) (slots' := 378) (by omega) (by omega) ?_
  refine va_putF (own := RX7) (ref := "CandleStatuteModel") (ci := 8) (v := .ref q23) (ty := .array .int) (C := RX7) (T := TX7) (N := 25) hx hb htT uin_X7 tyX7 tyX7_ok nmX7 hown hK hP hD hS 0 rfl rfl 11 (Nat.le_of_ble_eq_true rfl) (htT _ zw_fX7_16) (fun _ h9 => h9) rfl hin rfl (by decide +kernel) rfl rfl (Nat.le_of_ble_eq_true rfl) zkX7_25 (fun H locs hP hD hS => ?_)
  have hP : va_P G.1 vwCl ([(h0, .inr (8, [.int 0, .int 0, .int 0, .int 0, .int 0, .int 0, .int 0, .int 0, .int 0, .ref q7, .ref q15, .ref q23, .null, .null, .null, .null, .int 0, .null, .null, .int 0, .int 0, .int 0, .int 0, .int 0, .int 0])), (q7, .inl (G.2.1 0, 126, .inl i0)), (q15, .inl (G.2.1 0, 126, .inl i0)), (q23, .inl (G.2.1 0, 126, .inl i0))]) H := hP
  have hD : va_D (va_A [(h0, .inr (8, [.int 0, .int 0, .int 0, .int 0, .int 0, .int 0, .int 0, .int 0, .int 0, .null, .null, .null, .null, .null, .null, .null, .int 0, .null, .null, .int 0, .int 0, .int 0, .int 0, .int 0, .int 0]))] s.heap.size) ([(h0, .inr (8, [.int 0, .int 0, .int 0, .int 0, .int 0, .int 0, .int 0, .int 0, .int 0, .ref q7, .ref q15, .ref q23, .null, .null, .null, .null, .int 0, .null, .null, .int 0, .int 0, .int 0, .int 0, .int 0, .int 0])), (q7, .inl (G.2.1 0, 126, .inl i0)), (q15, .inl (G.2.1 0, 126, .inl i0)), (q23, .inl (G.2.1 0, 126, .inl i0))]) := hD
  refine lv_aload_n hx hb zkX7_28 rfl (lv_at hl 0 rfl) ?_
  refine lv_bipush hx hb zkX7_29 (v := nI 126) rfl ?_
  refine new_int hx hb htT hK hP hD hS hA (n := 126) (Nat.le_of_ble_eq_true rfl) (Nat.le_of_ble_eq_true rfl) (Nat.le_of_ble_eq_true rfl) zkX7_31 (fun q31 H hP hD hS => ?_)
  have hP : va_P G.1 vwCl ([(h0, .inr (8, [.int 0, .int 0, .int 0, .int 0, .int 0, .int 0, .int 0, .int 0, .int 0, .ref q7, .ref q15, .ref q23, .null, .null, .null, .null, .int 0, .null, .null, .int 0, .int 0, .int 0, .int 0, .int 0, .int 0])), (q7, .inl (G.2.1 0, 126, .inl i0)), (q15, .inl (G.2.1 0, 126, .inl i0)), (q23, .inl (G.2.1 0, 126, .inl i0)), (q31, .inl (G.2.1 0, 126, .inl i0))]) H := hP
  have hD : va_D (va_A [(h0, .inr (8, [.int 0, .int 0, .int 0, .int 0, .int 0, .int 0, .int 0, .int 0, .int 0, .null, .null, .null, .null, .null, .null, .null, .int 0, .null, .null, .int 0, .int 0, .int 0, .int 0, .int 0, .int 0]))] s.heap.size) ([(h0, .inr (8, [.int 0, .int 0, .int 0, .int 0, .int 0, .int 0, .int 0, .int 0, .int 0, .ref q7, .ref q15, .ref q23, .null, .null, .null, .null, .int 0, .null, .null, .int 0, .int 0, .int 0, .int 0, .int 0, .int 0])), (q7, .inl (G.2.1 0, 126, .inl i0)), (q15, .inl (G.2.1 0, 126, .inl i0)), (q23, .inl (G.2.1 0, 126, .inl i0)), (q31, .inl (G.2.1 0, 126, .inl i0))]) := hD
  refine W.cs (cells' := 4) (slots' := 504) (by omega) (by omega) ?_
  refine va_putF (own := RX7) (ref := "CandleStatuteModel") (ci := 8) (v := .ref q31) (ty := .array .int) (C := RX7) (T := TX7) (N := 25) hx hb htT uin_X7 tyX7 tyX7_ok nmX7 hown hK hP hD hS 0 rfl rfl 12 (Nat.le_of_ble_eq_true rfl) (htT _ zw_fX7_19) (fun _ h9 => h9) rfl hin rfl (by decide +kernel) rfl rfl (Nat.le_of_ble_eq_true rfl) zkX7_33 (fun H locs hP hD hS => ?_)
  have hP : va_P G.1 vwCl ([(h0, .inr (8, [.int 0, .int 0, .int 0, .int 0, .int 0, .int 0, .int 0, .int 0, .int 0, .ref q7, .ref q15, .ref q23, .ref q31, .null, .null, .null, .int 0, .null, .null, .int 0, .int 0, .int 0, .int 0, .int 0, .int 0])), (q7, .inl (G.2.1 0, 126, .inl i0)), (q15, .inl (G.2.1 0, 126, .inl i0)), (q23, .inl (G.2.1 0, 126, .inl i0)), (q31, .inl (G.2.1 0, 126, .inl i0))]) H := hP
  have hD : va_D (va_A [(h0, .inr (8, [.int 0, .int 0, .int 0, .int 0, .int 0, .int 0, .int 0, .int 0, .int 0, .null, .null, .null, .null, .null, .null, .null, .int 0, .null, .null, .int 0, .int 0, .int 0, .int 0, .int 0, .int 0]))] s.heap.size) ([(h0, .inr (8, [.int 0, .int 0, .int 0, .int 0, .int 0, .int 0, .int 0, .int 0, .int 0, .ref q7, .ref q15, .ref q23, .ref q31, .null, .null, .null, .int 0, .null, .null, .int 0, .int 0, .int 0, .int 0, .int 0, .int 0])), (q7, .inl (G.2.1 0, 126, .inl i0)), (q15, .inl (G.2.1 0, 126, .inl i0)), (q23, .inl (G.2.1 0, 126, .inl i0)), (q31, .inl (G.2.1 0, 126, .inl i0))]) := hD
  refine lv_aload_n hx hb zkX7_36 rfl (lv_at hl 0 rfl) ?_
  refine lv_sipush hx hb zkX7_37 (v := nI 1008) rfl ?_
  refine new_int hx hb htT hK hP hD hS hA (n := 1008) (Nat.le_of_ble_eq_true rfl) (Nat.le_of_ble_eq_true rfl) (Nat.le_of_ble_eq_true rfl) zkX7_40 (fun q40 H hP hD hS => ?_)
  have hP : va_P G.1 vwCl ([(h0, .inr (8, [.int 0, .int 0, .int 0, .int 0, .int 0, .int 0, .int 0, .int 0, .int 0, .ref q7, .ref q15, .ref q23, .ref q31, .null, .null, .null, .int 0, .null, .null, .int 0, .int 0, .int 0, .int 0, .int 0, .int 0])), (q7, .inl (G.2.1 0, 126, .inl i0)), (q15, .inl (G.2.1 0, 126, .inl i0)), (q23, .inl (G.2.1 0, 126, .inl i0)), (q31, .inl (G.2.1 0, 126, .inl i0)), (q40, .inl (G.2.1 0, 1008, .inl i0))]) H := hP
  have hD : va_D (va_A [(h0, .inr (8, [.int 0, .int 0, .int 0, .int 0, .int 0, .int 0, .int 0, .int 0, .int 0, .null, .null, .null, .null, .null, .null, .null, .int 0, .null, .null, .int 0, .int 0, .int 0, .int 0, .int 0, .int 0]))] s.heap.size) ([(h0, .inr (8, [.int 0, .int 0, .int 0, .int 0, .int 0, .int 0, .int 0, .int 0, .int 0, .ref q7, .ref q15, .ref q23, .ref q31, .null, .null, .null, .int 0, .null, .null, .int 0, .int 0, .int 0, .int 0, .int 0, .int 0])), (q7, .inl (G.2.1 0, 126, .inl i0)), (q15, .inl (G.2.1 0, 126, .inl i0)), (q23, .inl (G.2.1 0, 126, .inl i0)), (q31, .inl (G.2.1 0, 126, .inl i0)), (q40, .inl (G.2.1 0, 1008, .inl i0))]) := hD
  refine W.cs (cells' := 5) (slots' := 1512) (by omega) (by omega) ?_
  refine va_putF (own := RX7) (ref := "CandleStatuteModel") (ci := 8) (v := .ref q40) (ty := .array .int) (C := RX7) (T := TX7) (N := 25) hx hb htT uin_X7 tyX7 tyX7_ok nmX7 hown hK hP hD hS 0 rfl rfl 13 (Nat.le_of_ble_eq_true rfl) (htT _ zw_fX7_22) (fun _ h9 => h9) rfl hin rfl (by decide +kernel) rfl rfl (Nat.le_of_ble_eq_true rfl) zkX7_42 (fun H locs hP hD hS => ?_)
  have hP : va_P G.1 vwCl ([(h0, .inr (8, [.int 0, .int 0, .int 0, .int 0, .int 0, .int 0, .int 0, .int 0, .int 0, .ref q7, .ref q15, .ref q23, .ref q31, .ref q40, .null, .null, .int 0, .null, .null, .int 0, .int 0, .int 0, .int 0, .int 0, .int 0])), (q7, .inl (G.2.1 0, 126, .inl i0)), (q15, .inl (G.2.1 0, 126, .inl i0)), (q23, .inl (G.2.1 0, 126, .inl i0)), (q31, .inl (G.2.1 0, 126, .inl i0)), (q40, .inl (G.2.1 0, 1008, .inl i0))]) H := hP
  have hD : va_D (va_A [(h0, .inr (8, [.int 0, .int 0, .int 0, .int 0, .int 0, .int 0, .int 0, .int 0, .int 0, .null, .null, .null, .null, .null, .null, .null, .int 0, .null, .null, .int 0, .int 0, .int 0, .int 0, .int 0, .int 0]))] s.heap.size) ([(h0, .inr (8, [.int 0, .int 0, .int 0, .int 0, .int 0, .int 0, .int 0, .int 0, .int 0, .ref q7, .ref q15, .ref q23, .ref q31, .ref q40, .null, .null, .int 0, .null, .null, .int 0, .int 0, .int 0, .int 0, .int 0, .int 0])), (q7, .inl (G.2.1 0, 126, .inl i0)), (q15, .inl (G.2.1 0, 126, .inl i0)), (q23, .inl (G.2.1 0, 126, .inl i0)), (q31, .inl (G.2.1 0, 126, .inl i0)), (q40, .inl (G.2.1 0, 1008, .inl i0))]) := hD
  refine lv_aload_n hx hb zkX7_45 rfl (lv_at hl 0 rfl) ?_
  refine lv_bipush hx hb zkX7_46 (v := nI 6) rfl ?_
  refine new_int hx hb htT hK hP hD hS hA (n := 6) (Nat.le_of_ble_eq_true rfl) (Nat.le_of_ble_eq_true rfl) (Nat.le_of_ble_eq_true rfl) zkX7_48 (fun q48 H hP hD hS => ?_)
  have hP : va_P G.1 vwCl ([(h0, .inr (8, [.int 0, .int 0, .int 0, .int 0, .int 0, .int 0, .int 0, .int 0, .int 0, .ref q7, .ref q15, .ref q23, .ref q31, .ref q40, .null, .null, .int 0, .null, .null, .int 0, .int 0, .int 0, .int 0, .int 0, .int 0])), (q7, .inl (G.2.1 0, 126, .inl i0)), (q15, .inl (G.2.1 0, 126, .inl i0)), (q23, .inl (G.2.1 0, 126, .inl i0)), (q31, .inl (G.2.1 0, 126, .inl i0)), (q40, .inl (G.2.1 0, 1008, .inl i0)), (q48, .inl (G.2.1 0, 6, .inl i0))]) H := hP
  have hD : va_D (va_A [(h0, .inr (8, [.int 0, .int 0, .int 0, .int 0, .int 0, .int 0, .int 0, .int 0, .int 0, .null, .null, .null, .null, .null, .null, .null, .int 0, .null, .null, .int 0, .int 0, .int 0, .int 0, .int 0, .int 0]))] s.heap.size) ([(h0, .inr (8, [.int 0, .int 0, .int 0, .int 0, .int 0, .int 0, .int 0, .int 0, .int 0, .ref q7, .ref q15, .ref q23, .ref q31, .ref q40, .null, .null, .int 0, .null, .null, .int 0, .int 0, .int 0, .int 0, .int 0, .int 0])), (q7, .inl (G.2.1 0, 126, .inl i0)), (q15, .inl (G.2.1 0, 126, .inl i0)), (q23, .inl (G.2.1 0, 126, .inl i0)), (q31, .inl (G.2.1 0, 126, .inl i0)), (q40, .inl (G.2.1 0, 1008, .inl i0)), (q48, .inl (G.2.1 0, 6, .inl i0))]) := hD
  refine W.cs (cells' := 6) (slots' := 1518) (by omega) (by omega) ?_
  refine va_putF (own := RX7) (ref := "CandleStatuteModel") (ci := 8) (v := .ref q48) (ty := .array .int) (C := RX7) (T := TX7) (N := 25) hx hb htT uin_X7 tyX7 tyX7_ok nmX7 hown hK hP hD hS 0 rfl rfl 14 (Nat.le_of_ble_eq_true rfl) (htT _ zw_fX7_25) (fun _ h9 => h9) rfl hin rfl (by decide +kernel) rfl rfl (Nat.le_of_ble_eq_true rfl) zkX7_50 (fun H locs hP hD hS => ?_)
  have hP : va_P G.1 vwCl ([(h0, .inr (8, [.int 0, .int 0, .int 0, .int 0, .int 0, .int 0, .int 0, .int 0, .int 0, .ref q7, .ref q15, .ref q23, .ref q31, .ref q40, .ref q48, .null, .int 0, .null, .null, .int 0, .int 0, .int 0, .int 0, .int 0, .int 0])), (q7, .inl (G.2.1 0, 126, .inl i0)), (q15, .inl (G.2.1 0, 126, .inl i0)), (q23, .inl (G.2.1 0, 126, .inl i0)), (q31, .inl (G.2.1 0, 126, .inl i0)), (q40, .inl (G.2.1 0, 1008, .inl i0)), (q48, .inl (G.2.1 0, 6, .inl i0))]) H := hP
  have hD : va_D (va_A [(h0, .inr (8, [.int 0, .int 0, .int 0, .int 0, .int 0, .int 0, .int 0, .int 0, .int 0, .null, .null, .null, .null, .null, .null, .null, .int 0, .null, .null, .int 0, .int 0, .int 0, .int 0, .int 0, .int 0]))] s.heap.size) ([(h0, .inr (8, [.int 0, .int 0, .int 0, .int 0, .int 0, .int 0, .int 0, .int 0, .int 0, .ref q7, .ref q15, .ref q23, .ref q31, .ref q40, .ref q48, .null, .int 0, .null, .null, .int 0, .int 0, .int 0, .int 0, .int 0, .int 0])), (q7, .inl (G.2.1 0, 126, .inl i0)), (q15, .inl (G.2.1 0, 126, .inl i0)), (q23, .inl (G.2.1 0, 126, .inl i0)), (q31, .inl (G.2.1 0, 126, .inl i0)), (q40, .inl (G.2.1 0, 1008, .inl i0)), (q48, .inl (G.2.1 0, 6, .inl i0))]) := hD
  refine lv_aload_n hx hb zkX7_53 rfl (lv_at hl 0 rfl) ?_
  refine lv_bipush hx hb zkX7_54 (v := nI 6) rfl ?_
  refine new_int hx hb htT hK hP hD hS hA (n := 6) (Nat.le_of_ble_eq_true rfl) (Nat.le_of_ble_eq_true rfl) (Nat.le_of_ble_eq_true rfl) zkX7_56 (fun q56 H hP hD hS => ?_)
  have hP : va_P G.1 vwCl ([(h0, .inr (8, [.int 0, .int 0, .int 0, .int 0, .int 0, .int 0, .int 0, .int 0, .int 0, .ref q7, .ref q15, .ref q23, .ref q31, .ref q40, .ref q48, .null, .int 0, .null, .null, .int 0, .int 0, .int 0, .int 0, .int 0, .int 0])), (q7, .inl (G.2.1 0, 126, .inl i0)), (q15, .inl (G.2.1 0, 126, .inl i0)), (q23, .inl (G.2.1 0, 126, .inl i0)), (q31, .inl (G.2.1 0, 126, .inl i0)), (q40, .inl (G.2.1 0, 1008, .inl i0)), (q48, .inl (G.2.1 0, 6, .inl i0)), (q56, .inl (G.2.1 0, 6, .inl i0))]) H := hP
  have hD : va_D (va_A [(h0, .inr (8, [.int 0, .int 0, .int 0, .int 0, .int 0, .int 0, .int 0, .int 0, .int 0, .null, .null, .null, .null, .null, .null, .null, .int 0, .null, .null, .int 0, .int 0, .int 0, .int 0, .int 0, .int 0]))] s.heap.size) ([(h0, .inr (8, [.int 0, .int 0, .int 0, .int 0, .int 0, .int 0, .int 0, .int 0, .int 0, .ref q7, .ref q15, .ref q23, .ref q31, .ref q40, .ref q48, .null, .int 0, .null, .null, .int 0, .int 0, .int 0, .int 0, .int 0, .int 0])), (q7, .inl (G.2.1 0, 126, .inl i0)), (q15, .inl (G.2.1 0, 126, .inl i0)), (q23, .inl (G.2.1 0, 126, .inl i0)), (q31, .inl (G.2.1 0, 126, .inl i0)), (q40, .inl (G.2.1 0, 1008, .inl i0)), (q48, .inl (G.2.1 0, 6, .inl i0)), (q56, .inl (G.2.1 0, 6, .inl i0))]) := hD
  refine W.cs (cells' := 7) (slots' := 1524) (by omega) (by omega) ?_
  refine va_putF (own := RX7) (ref := "CandleStatuteModel") (ci := 8) (v := .ref q56) (ty := .array .int) (C := RX7) (T := TX7) (N := 25) hx hb htT uin_X7 tyX7 tyX7_ok nmX7 hown hK hP hD hS 0 rfl rfl 15 (Nat.le_of_ble_eq_true rfl) (htT _ zw_fX7_28) (fun _ h9 => h9) rfl hin rfl (by decide +kernel) rfl rfl (Nat.le_of_ble_eq_true rfl) zkX7_58 (fun H locs hP hD hS => ?_)
  have hP : va_P G.1 vwCl ([(h0, .inr (8, [.int 0, .int 0, .int 0, .int 0, .int 0, .int 0, .int 0, .int 0, .int 0, .ref q7, .ref q15, .ref q23, .ref q31, .ref q40, .ref q48, .ref q56, .int 0, .null, .null, .int 0, .int 0, .int 0, .int 0, .int 0, .int 0])), (q7, .inl (G.2.1 0, 126, .inl i0)), (q15, .inl (G.2.1 0, 126, .inl i0)), (q23, .inl (G.2.1 0, 126, .inl i0)), (q31, .inl (G.2.1 0, 126, .inl i0)), (q40, .inl (G.2.1 0, 1008, .inl i0)), (q48, .inl (G.2.1 0, 6, .inl i0)), (q56, .inl (G.2.1 0, 6, .inl i0))]) H := hP
  have hD : va_D (va_A [(h0, .inr (8, [.int 0, .int 0, .int 0, .int 0, .int 0, .int 0, .int 0, .int 0, .int 0, .null, .null, .null, .null, .null, .null, .null, .int 0, .null, .null, .int 0, .int 0, .int 0, .int 0, .int 0, .int 0]))] s.heap.size) ([(h0, .inr (8, [.int 0, .int 0, .int 0, .int 0, .int 0, .int 0, .int 0, .int 0, .int 0, .ref q7, .ref q15, .ref q23, .ref q31, .ref q40, .ref q48, .ref q56, .int 0, .null, .null, .int 0, .int 0, .int 0, .int 0, .int 0, .int 0])), (q7, .inl (G.2.1 0, 126, .inl i0)), (q15, .inl (G.2.1 0, 126, .inl i0)), (q23, .inl (G.2.1 0, 126, .inl i0)), (q31, .inl (G.2.1 0, 126, .inl i0)), (q40, .inl (G.2.1 0, 1008, .inl i0)), (q48, .inl (G.2.1 0, 6, .inl i0)), (q56, .inl (G.2.1 0, 6, .inl i0))]) := hD
  refine lv_aload_n hx hb zkX7_61 rfl (lv_at hl 0 rfl) ?_
  refine lv_bipush hx hb zkX7_62 (v := nI 60) rfl ?_
  refine new_int hx hb htT hK hP hD hS hA (n := 60) (Nat.le_of_ble_eq_true rfl) (Nat.le_of_ble_eq_true rfl) (Nat.le_of_ble_eq_true rfl) zkX7_64 (fun q64 H hP hD hS => ?_)
  have hP : va_P G.1 vwCl ([(h0, .inr (8, [.int 0, .int 0, .int 0, .int 0, .int 0, .int 0, .int 0, .int 0, .int 0, .ref q7, .ref q15, .ref q23, .ref q31, .ref q40, .ref q48, .ref q56, .int 0, .null, .null, .int 0, .int 0, .int 0, .int 0, .int 0, .int 0])), (q7, .inl (G.2.1 0, 126, .inl i0)), (q15, .inl (G.2.1 0, 126, .inl i0)), (q23, .inl (G.2.1 0, 126, .inl i0)), (q31, .inl (G.2.1 0, 126, .inl i0)), (q40, .inl (G.2.1 0, 1008, .inl i0)), (q48, .inl (G.2.1 0, 6, .inl i0)), (q56, .inl (G.2.1 0, 6, .inl i0)), (q64, .inl (G.2.1 0, 60, .inl i0))]) H := hP
  have hD : va_D (va_A [(h0, .inr (8, [.int 0, .int 0, .int 0, .int 0, .int 0, .int 0, .int 0, .int 0, .int 0, .null, .null, .null, .null, .null, .null, .null, .int 0, .null, .null, .int 0, .int 0, .int 0, .int 0, .int 0, .int 0]))] s.heap.size) ([(h0, .inr (8, [.int 0, .int 0, .int 0, .int 0, .int 0, .int 0, .int 0, .int 0, .int 0, .ref q7, .ref q15, .ref q23, .ref q31, .ref q40, .ref q48, .ref q56, .int 0, .null, .null, .int 0, .int 0, .int 0, .int 0, .int 0, .int 0])), (q7, .inl (G.2.1 0, 126, .inl i0)), (q15, .inl (G.2.1 0, 126, .inl i0)), (q23, .inl (G.2.1 0, 126, .inl i0)), (q31, .inl (G.2.1 0, 126, .inl i0)), (q40, .inl (G.2.1 0, 1008, .inl i0)), (q48, .inl (G.2.1 0, 6, .inl i0)), (q56, .inl (G.2.1 0, 6, .inl i0)), (q64, .inl (G.2.1 0, 60, .inl i0))]) := hD
  refine W.cs (cells' := 8) (slots' := 1584) (by omega) (by omega) ?_
  refine va_putF (own := RX7) (ref := "CandleStatuteModel") (ci := 8) (v := .ref q64) (ty := .array .int) (C := RX7) (T := TX7) (N := 25) hx hb htT uin_X7 tyX7 tyX7_ok nmX7 hown hK hP hD hS 0 rfl rfl 17 (Nat.le_of_ble_eq_true rfl) (htT _ zw_fX7_31) (fun _ h9 => h9) rfl hin rfl (by decide +kernel) rfl rfl (Nat.le_of_ble_eq_true rfl) zkX7_66 (fun H locs hP hD hS => ?_)
  have hP : va_P G.1 vwCl ([(h0, .inr (8, [.int 0, .int 0, .int 0, .int 0, .int 0, .int 0, .int 0, .int 0, .int 0, .ref q7, .ref q15, .ref q23, .ref q31, .ref q40, .ref q48, .ref q56, .int 0, .ref q64, .null, .int 0, .int 0, .int 0, .int 0, .int 0, .int 0])), (q7, .inl (G.2.1 0, 126, .inl i0)), (q15, .inl (G.2.1 0, 126, .inl i0)), (q23, .inl (G.2.1 0, 126, .inl i0)), (q31, .inl (G.2.1 0, 126, .inl i0)), (q40, .inl (G.2.1 0, 1008, .inl i0)), (q48, .inl (G.2.1 0, 6, .inl i0)), (q56, .inl (G.2.1 0, 6, .inl i0)), (q64, .inl (G.2.1 0, 60, .inl i0))]) H := hP
  have hD : va_D (va_A [(h0, .inr (8, [.int 0, .int 0, .int 0, .int 0, .int 0, .int 0, .int 0, .int 0, .int 0, .null, .null, .null, .null, .null, .null, .null, .int 0, .null, .null, .int 0, .int 0, .int 0, .int 0, .int 0, .int 0]))] s.heap.size) ([(h0, .inr (8, [.int 0, .int 0, .int 0, .int 0, .int 0, .int 0, .int 0, .int 0, .int 0, .ref q7, .ref q15, .ref q23, .ref q31, .ref q40, .ref q48, .ref q56, .int 0, .ref q64, .null, .int 0, .int 0, .int 0, .int 0, .int 0, .int 0])), (q7, .inl (G.2.1 0, 126, .inl i0)), (q15, .inl (G.2.1 0, 126, .inl i0)), (q23, .inl (G.2.1 0, 126, .inl i0)), (q31, .inl (G.2.1 0, 126, .inl i0)), (q40, .inl (G.2.1 0, 1008, .inl i0)), (q48, .inl (G.2.1 0, 6, .inl i0)), (q56, .inl (G.2.1 0, 6, .inl i0)), (q64, .inl (G.2.1 0, 60, .inl i0))]) := hD
  refine lv_aload_n hx hb zkX7_69 rfl (lv_at hl 0 rfl) ?_
  refine lv_sipush hx hb zkX7_70 (v := nI 140) rfl ?_
  refine new_int hx hb htT hK hP hD hS hA (n := 140) (Nat.le_of_ble_eq_true rfl) (Nat.le_of_ble_eq_true rfl) (Nat.le_of_ble_eq_true rfl) zkX7_73 (fun q73 H hP hD hS => ?_)
  have hP : va_P G.1 vwCl ([(h0, .inr (8, [.int 0, .int 0, .int 0, .int 0, .int 0, .int 0, .int 0, .int 0, .int 0, .ref q7, .ref q15, .ref q23, .ref q31, .ref q40, .ref q48, .ref q56, .int 0, .ref q64, .null, .int 0, .int 0, .int 0, .int 0, .int 0, .int 0])), (q7, .inl (G.2.1 0, 126, .inl i0)), (q15, .inl (G.2.1 0, 126, .inl i0)), (q23, .inl (G.2.1 0, 126, .inl i0)), (q31, .inl (G.2.1 0, 126, .inl i0)), (q40, .inl (G.2.1 0, 1008, .inl i0)), (q48, .inl (G.2.1 0, 6, .inl i0)), (q56, .inl (G.2.1 0, 6, .inl i0)), (q64, .inl (G.2.1 0, 60, .inl i0)), (q73, .inl (G.2.1 0, 140, .inl i0))]) H := hP
  have hD : va_D (va_A [(h0, .inr (8, [.int 0, .int 0, .int 0, .int 0, .int 0, .int 0, .int 0, .int 0, .int 0, .null, .null, .null, .null, .null, .null, .null, .int 0, .null, .null, .int 0, .int 0, .int 0, .int 0, .int 0, .int 0]))] s.heap.size) ([(h0, .inr (8, [.int 0, .int 0, .int 0, .int 0, .int 0, .int 0, .int 0, .int 0, .int 0, .ref q7, .ref q15, .ref q23, .ref q31, .ref q40, .ref q48, .ref q56, .int 0, .ref q64, .null, .int 0, .int 0, .int 0, .int 0, .int 0, .int 0])), (q7, .inl (G.2.1 0, 126, .inl i0)), (q15, .inl (G.2.1 0, 126, .inl i0)), (q23, .inl (G.2.1 0, 126, .inl i0)), (q31, .inl (G.2.1 0, 126, .inl i0)), (q40, .inl (G.2.1 0, 1008, .inl i0)), (q48, .inl (G.2.1 0, 6, .inl i0)), (q56, .inl (G.2.1 0, 6, .inl i0)), (q64, .inl (G.2.1 0, 60, .inl i0)), (q73, .inl (G.2.1 0, 140, .inl i0))]) := hD
  refine W.cs (cells' := 9) (slots' := 1724) (by omega) (by omega) ?_
  refine va_putF (own := RX7) (ref := "CandleStatuteModel") (ci := 8) (v := .ref q73) (ty := .array .int) (C := RX7) (T := TX7) (N := 25) hx hb htT uin_X7 tyX7 tyX7_ok nmX7 hown hK hP hD hS 0 rfl rfl 18 (Nat.le_of_ble_eq_true rfl) (htT _ zw_fX7_34) (fun _ h9 => h9) rfl hin rfl (by decide +kernel) rfl rfl (Nat.le_of_ble_eq_true rfl) zkX7_75 (fun H locs hP hD hS => ?_)
  have hP : va_P G.1 vwCl ([(h0, .inr (8, [.int 0, .int 0, .int 0, .int 0, .int 0, .int 0, .int 0, .int 0, .int 0, .ref q7, .ref q15, .ref q23, .ref q31, .ref q40, .ref q48, .ref q56, .int 0, .ref q64, .ref q73, .int 0, .int 0, .int 0, .int 0, .int 0, .int 0])), (q7, .inl (G.2.1 0, 126, .inl i0)), (q15, .inl (G.2.1 0, 126, .inl i0)), (q23, .inl (G.2.1 0, 126, .inl i0)), (q31, .inl (G.2.1 0, 126, .inl i0)), (q40, .inl (G.2.1 0, 1008, .inl i0)), (q48, .inl (G.2.1 0, 6, .inl i0)), (q56, .inl (G.2.1 0, 6, .inl i0)), (q64, .inl (G.2.1 0, 60, .inl i0)), (q73, .inl (G.2.1 0, 140, .inl i0))]) H := hP
  have hD : va_D (va_A [(h0, .inr (8, [.int 0, .int 0, .int 0, .int 0, .int 0, .int 0, .int 0, .int 0, .int 0, .null, .null, .null, .null, .null, .null, .null, .int 0, .null, .null, .int 0, .int 0, .int 0, .int 0, .int 0, .int 0]))] s.heap.size) ([(h0, .inr (8, [.int 0, .int 0, .int 0, .int 0, .int 0, .int 0, .int 0, .int 0, .int 0, .ref q7, .ref q15, .ref q23, .ref q31, .ref q40, .ref q48, .ref q56, .int 0, .ref q64, .ref q73, .int 0, .int 0, .int 0, .int 0, .int 0, .int 0])), (q7, .inl (G.2.1 0, 126, .inl i0)), (q15, .inl (G.2.1 0, 126, .inl i0)), (q23, .inl (G.2.1 0, 126, .inl i0)), (q31, .inl (G.2.1 0, 126, .inl i0)), (q40, .inl (G.2.1 0, 1008, .inl i0)), (q48, .inl (G.2.1 0, 6, .inl i0)), (q56, .inl (G.2.1 0, 6, .inl i0)), (q64, .inl (G.2.1 0, 60, .inl i0)), (q73, .inl (G.2.1 0, 140, .inl i0))]) := hD
  refine lv_iconst hx hb zkX7_78 (v := nI 0) rfl ?_
  refine lv_istore_n hx hb zkX7_79 rfl hl (by decide) rfl (fun ls hl => ?_)
  have hl : lv_has ls 2 [(1, .int (nI 0)), (0, .ref h0)] := hl
  have hP : va_P G.1 vwCl ([(h0, .inr (8, [.int 0, .int 0, .int 0, .int 0, .int 0, .int 0, .int 0, .int 0, .int 0, .ref q7, .ref q15, .ref q23, .ref q31, .ref q40, .ref q48, .ref q56, .int 0, .ref q64, .ref q73, .int 0, .int 0, .int 0, .int 0, .int 0, .int 0])), (q7, .inl (G.2.1 0, 126, .inl (vF 0))), (q15, .inl (G.2.1 0, 126, .inl i0)), (q23, .inl (G.2.1 0, 126, .inl i0)), (q31, .inl (G.2.1 0, 126, .inl i0)), (q40, .inl (G.2.1 0, 1008, .inl i0)), (q48, .inl (G.2.1 0, 6, .inl i0)), (q56, .inl (G.2.1 0, 6, .inl i0)), (q64, .inl (G.2.1 0, 60, .inl i0)), (q73, .inl (G.2.1 0, 140, .inl i0))]) H := hP
  have hD : va_D (va_A [(h0, .inr (8, [.int 0, .int 0, .int 0, .int 0, .int 0, .int 0, .int 0, .int 0, .int 0, .null, .null, .null, .null, .null, .null, .null, .int 0, .null, .null, .int 0, .int 0, .int 0, .int 0, .int 0, .int 0]))] s.heap.size) ([(h0, .inr (8, [.int 0, .int 0, .int 0, .int 0, .int 0, .int 0, .int 0, .int 0, .int 0, .ref q7, .ref q15, .ref q23, .ref q31, .ref q40, .ref q48, .ref q56, .int 0, .ref q64, .ref q73, .int 0, .int 0, .int 0, .int 0, .int 0, .int 0])), (q7, .inl (G.2.1 0, 126, .inl (vF 0))), (q15, .inl (G.2.1 0, 126, .inl i0)), (q23, .inl (G.2.1 0, 126, .inl i0)), (q31, .inl (G.2.1 0, 126, .inl i0)), (q40, .inl (G.2.1 0, 1008, .inl i0)), (q48, .inl (G.2.1 0, 6, .inl i0)), (q56, .inl (G.2.1 0, 6, .inl i0)), (q64, .inl (G.2.1 0, 60, .inl i0)), (q73, .inl (G.2.1 0, 140, .inl i0))]) := hD
  refine lv_iload_n hx hb zkX7_80 rfl (lv_at hl 0 rfl) ?_
  refine lv_bipush hx hb zkX7_81 (v := nI 6) rfl ?_
  refine lv_icmp_ge hx hb zkX7_83 (tgt := 119) (by decide) (fun hz => absurd hz (nI_ge (by decide) (by decide))) (fun _ => ?_)
  refine lv_aload_n hx hb zkX7_86 rfl (lv_at hl 1 rfl) ?_
  refine va_get (own := RX7) (ref := "CandleStatuteModel") (ci := 8) (v := .ref q7) (C := RX7) (T := TX7) (N := 25) hx hb htT uin_X7 hown hK hP 0 rfl rfl 9 (Nat.le_of_ble_eq_true rfl) (htT _ zw_fX7_7) (fun _ h9 => h9) rfl zkX7_87 ?_
  refine lv_iload_n hx hb zkX7_90 rfl (lv_at hl 0 rfl) ?_
  refine lv_iconst hx hb zkX7_91 (v := nI 0) rfl ?_
  refine at_back (a := 0) (b := 0) hx hb hml hown hts hP hS hA hl.1 ⟨Nat.le_of_ble_eq_true rfl, Nat.le_of_ble_eq_true rfl⟩ ⟨Nat.le_of_ble_eq_true rfl, Nat.le_of_ble_eq_true rfl⟩ (Nat.le_of_ble_eq_true rfl) zkX7_92 (fun H locs hP hS => ?_)
  refine lv_iconst hx hb zkX7_95 (v := nI 1) rfl ?_
  refine put_int hx hb hK hP hD hS 1 (k := 6) rfl (Nat.le_of_ble_eq_true rfl) (Nat.le_of_ble_eq_true rfl) zkX7_96 (fun H locs hP hD hS => ?_)
  have hP : va_P G.1 vwCl ([(h0, .inr (8, [.int 0, .int 0, .int 0, .int 0, .int 0, .int 0, .int 0, .int 0, .int 0, .ref q7, .ref q15, .ref q23, .ref q31, .ref q40, .ref q48, .ref q56, .int 0, .ref q64, .ref q73, .int 0, .int 0, .int 0, .int 0, .int 0, .int 0])), (q7, .inl (G.2.1 0, 126, .inl (upd (vF 0) 6 (nI 1)))), (q15, .inl (G.2.1 0, 126, .inl i0)), (q23, .inl (G.2.1 0, 126, .inl i0)), (q31, .inl (G.2.1 0, 126, .inl i0)), (q40, .inl (G.2.1 0, 1008, .inl i0)), (q48, .inl (G.2.1 0, 6, .inl i0)), (q56, .inl (G.2.1 0, 6, .inl i0)), (q64, .inl (G.2.1 0, 60, .inl i0)), (q73, .inl (G.2.1 0, 140, .inl i0))]) H := hP
  have hD : va_D (va_A [(h0, .inr (8, [.int 0, .int 0, .int 0, .int 0, .int 0, .int 0, .int 0, .int 0, .int 0, .null, .null, .null, .null, .null, .null, .null, .int 0, .null, .null, .int 0, .int 0, .int 0, .int 0, .int 0, .int 0]))] s.heap.size) ([(h0, .inr (8, [.int 0, .int 0, .int 0, .int 0, .int 0, .int 0, .int 0, .int 0, .int 0, .ref q7, .ref q15, .ref q23, .ref q31, .ref q40, .ref q48, .ref q56, .int 0, .ref q64, .ref q73, .int 0, .int 0, .int 0, .int 0, .int 0, .int 0])), (q7, .inl (G.2.1 0, 126, .inl (upd (vF 0) 6 (nI 1)))), (q15, .inl (G.2.1 0, 126, .inl i0)), (q23, .inl (G.2.1 0, 126, .inl i0)), (q31, .inl (G.2.1 0, 126, .inl i0)), (q40, .inl (G.2.1 0, 1008, .inl i0)), (q48, .inl (G.2.1 0, 6, .inl i0)), (q56, .inl (G.2.1 0, 6, .inl i0)), (q64, .inl (G.2.1 0, 60, .inl i0)), (q73, .inl (G.2.1 0, 140, .inl i0))]) := hD
  refine lv_aload_n hx hb zkX7_97 rfl (lv_at hl 1 rfl) ?_
  refine va_get (own := RX7) (ref := "CandleStatuteModel") (ci := 8) (v := .ref q7) (C := RX7) (T := TX7) (N := 25) hx hb htT uin_X7 hown hK hP 0 rfl rfl 9 (Nat.le_of_ble_eq_true rfl) (htT _ zw_fX7_7) (fun _ h9 => h9) rfl zkX7_98 ?_
  refine lv_iload_n hx hb zkX7_101 rfl (lv_at hl 0 rfl) ?_
  refine lv_iconst hx hb zkX7_102 (v := nI 1) rfl ?_
  refine at_back (a := 0) (b := 1) hx hb hml hown hts hP hS hA hl.1 ⟨Nat.le_of_ble_eq_true rfl, Nat.le_of_ble_eq_true rfl⟩ ⟨Nat.le_of_ble_eq_true rfl, Nat.le_of_ble_eq_true rfl⟩ (Nat.le_of_ble_eq_true rfl) zkX7_103 (fun H locs hP hS => ?_)
  refine lv_iload_n hx hb zkX7_106 rfl (lv_at hl 0 rfl) ?_
  refine lv_iconst hx hb zkX7_107 (v := nI 1) rfl ?_
  refine lv_iadd hx hb zkX7_108 ?_
  rw [show nI 0 + nI 1 = nI 1 from nI_add 0 1]
  refine lv_bipush hx hb zkX7_109 (v := nI 6) rfl ?_
  refine lv_irem hx hb zkX7_111 (by decide) ?_
  rw [show nI 1 - nI 1 / nI 6 * nI 6 = nI 1 from nI_mod (by decide) (by decide)]
  refine put_int hx hb hK hP hD hS 1 (k := 7) rfl (Nat.le_of_ble_eq_true rfl) (Nat.le_of_ble_eq_true rfl) zkX7_112 (fun H locs hP hD hS => ?_)
  have hP : va_P G.1 vwCl ([(h0, .inr (8, [.int 0, .int 0, .int 0, .int 0, .int 0, .int 0, .int 0, .int 0, .int 0, .ref q7, .ref q15, .ref q23, .ref q31, .ref q40, .ref q48, .ref q56, .int 0, .ref q64, .ref q73, .int 0, .int 0, .int 0, .int 0, .int 0, .int 0])), (q7, .inl (G.2.1 0, 126, .inl (vF 1))), (q15, .inl (G.2.1 0, 126, .inl i0)), (q23, .inl (G.2.1 0, 126, .inl i0)), (q31, .inl (G.2.1 0, 126, .inl i0)), (q40, .inl (G.2.1 0, 1008, .inl i0)), (q48, .inl (G.2.1 0, 6, .inl i0)), (q56, .inl (G.2.1 0, 6, .inl i0)), (q64, .inl (G.2.1 0, 60, .inl i0)), (q73, .inl (G.2.1 0, 140, .inl i0))]) H := hP
  have hD : va_D (va_A [(h0, .inr (8, [.int 0, .int 0, .int 0, .int 0, .int 0, .int 0, .int 0, .int 0, .int 0, .null, .null, .null, .null, .null, .null, .null, .int 0, .null, .null, .int 0, .int 0, .int 0, .int 0, .int 0, .int 0]))] s.heap.size) ([(h0, .inr (8, [.int 0, .int 0, .int 0, .int 0, .int 0, .int 0, .int 0, .int 0, .int 0, .ref q7, .ref q15, .ref q23, .ref q31, .ref q40, .ref q48, .ref q56, .int 0, .ref q64, .ref q73, .int 0, .int 0, .int 0, .int 0, .int 0, .int 0])), (q7, .inl (G.2.1 0, 126, .inl (vF 1))), (q15, .inl (G.2.1 0, 126, .inl i0)), (q23, .inl (G.2.1 0, 126, .inl i0)), (q31, .inl (G.2.1 0, 126, .inl i0)), (q40, .inl (G.2.1 0, 1008, .inl i0)), (q48, .inl (G.2.1 0, 6, .inl i0)), (q56, .inl (G.2.1 0, 6, .inl i0)), (q64, .inl (G.2.1 0, 60, .inl i0)), (q73, .inl (G.2.1 0, 140, .inl i0))]) := hD
  refine lv_iinc hx hb zkX7_113 hl (k := 0) rfl (v := nI 1) (by decide +kernel) (by decide) rfl (fun ls hl => ?_)
  have hl : lv_has ls 2 [(1, .int (nI 1)), (0, .ref h0)] := hl
  refine lv_goto hx hb zkX7_116 (tgt := 80) (by decide) ?_
  refine lv_iload_n hx hb zkX7_80 rfl (lv_at hl 0 rfl) ?_
  refine lv_bipush hx hb zkX7_81 (v := nI 6) rfl ?_
  refine lv_icmp_ge hx hb zkX7_83 (tgt := 119) (by decide) (fun hz => absurd hz (nI_ge (by decide) (by decide))) (fun _ => ?_)
  refine lv_aload_n hx hb zkX7_86 rfl (lv_at hl 1 rfl) ?_
  refine va_get (own := RX7) (ref := "CandleStatuteModel") (ci := 8) (v := .ref q7) (C := RX7) (T := TX7) (N := 25) hx hb htT uin_X7 hown hK hP 0 rfl rfl 9 (Nat.le_of_ble_eq_true rfl) (htT _ zw_fX7_7) (fun _ h9 => h9) rfl zkX7_87 ?_
  refine lv_iload_n hx hb zkX7_90 rfl (lv_at hl 0 rfl) ?_
  refine lv_iconst hx hb zkX7_91 (v := nI 0) rfl ?_
  refine at_back (a := 1) (b := 0) hx hb hml hown hts hP hS hA hl.1 ⟨Nat.le_of_ble_eq_true rfl, Nat.le_of_ble_eq_true rfl⟩ ⟨Nat.le_of_ble_eq_true rfl, Nat.le_of_ble_eq_true rfl⟩ (Nat.le_of_ble_eq_true rfl) zkX7_92 (fun H locs hP hS => ?_)
  refine lv_iconst hx hb zkX7_95 (v := nI 1) rfl ?_
  refine put_int hx hb hK hP hD hS 1 (k := 10) rfl (Nat.le_of_ble_eq_true rfl) (Nat.le_of_ble_eq_true rfl) zkX7_96 (fun H locs hP hD hS => ?_)
  have hP : va_P G.1 vwCl ([(h0, .inr (8, [.int 0, .int 0, .int 0, .int 0, .int 0, .int 0, .int 0, .int 0, .int 0, .ref q7, .ref q15, .ref q23, .ref q31, .ref q40, .ref q48, .ref q56, .int 0, .ref q64, .ref q73, .int 0, .int 0, .int 0, .int 0, .int 0, .int 0])), (q7, .inl (G.2.1 0, 126, .inl (upd (vF 1) 10 (nI 1)))), (q15, .inl (G.2.1 0, 126, .inl i0)), (q23, .inl (G.2.1 0, 126, .inl i0)), (q31, .inl (G.2.1 0, 126, .inl i0)), (q40, .inl (G.2.1 0, 1008, .inl i0)), (q48, .inl (G.2.1 0, 6, .inl i0)), (q56, .inl (G.2.1 0, 6, .inl i0)), (q64, .inl (G.2.1 0, 60, .inl i0)), (q73, .inl (G.2.1 0, 140, .inl i0))]) H := hP
  have hD : va_D (va_A [(h0, .inr (8, [.int 0, .int 0, .int 0, .int 0, .int 0, .int 0, .int 0, .int 0, .int 0, .null, .null, .null, .null, .null, .null, .null, .int 0, .null, .null, .int 0, .int 0, .int 0, .int 0, .int 0, .int 0]))] s.heap.size) ([(h0, .inr (8, [.int 0, .int 0, .int 0, .int 0, .int 0, .int 0, .int 0, .int 0, .int 0, .ref q7, .ref q15, .ref q23, .ref q31, .ref q40, .ref q48, .ref q56, .int 0, .ref q64, .ref q73, .int 0, .int 0, .int 0, .int 0, .int 0, .int 0])), (q7, .inl (G.2.1 0, 126, .inl (upd (vF 1) 10 (nI 1)))), (q15, .inl (G.2.1 0, 126, .inl i0)), (q23, .inl (G.2.1 0, 126, .inl i0)), (q31, .inl (G.2.1 0, 126, .inl i0)), (q40, .inl (G.2.1 0, 1008, .inl i0)), (q48, .inl (G.2.1 0, 6, .inl i0)), (q56, .inl (G.2.1 0, 6, .inl i0)), (q64, .inl (G.2.1 0, 60, .inl i0)), (q73, .inl (G.2.1 0, 140, .inl i0))]) := hD
  refine lv_aload_n hx hb zkX7_97 rfl (lv_at hl 1 rfl) ?_
  refine va_get (own := RX7) (ref := "CandleStatuteModel") (ci := 8) (v := .ref q7) (C := RX7) (T := TX7) (N := 25) hx hb htT uin_X7 hown hK hP 0 rfl rfl 9 (Nat.le_of_ble_eq_true rfl) (htT _ zw_fX7_7) (fun _ h9 => h9) rfl zkX7_98 ?_
  refine lv_iload_n hx hb zkX7_101 rfl (lv_at hl 0 rfl) ?_
  refine lv_iconst hx hb zkX7_102 (v := nI 1) rfl ?_
  refine at_back (a := 1) (b := 1) hx hb hml hown hts hP hS hA hl.1 ⟨Nat.le_of_ble_eq_true rfl, Nat.le_of_ble_eq_true rfl⟩ ⟨Nat.le_of_ble_eq_true rfl, Nat.le_of_ble_eq_true rfl⟩ (Nat.le_of_ble_eq_true rfl) zkX7_103 (fun H locs hP hS => ?_)
  refine lv_iload_n hx hb zkX7_106 rfl (lv_at hl 0 rfl) ?_
  refine lv_iconst hx hb zkX7_107 (v := nI 1) rfl ?_
  refine lv_iadd hx hb zkX7_108 ?_
  rw [show nI 1 + nI 1 = nI 2 from nI_add 1 1]
  refine lv_bipush hx hb zkX7_109 (v := nI 6) rfl ?_
  refine lv_irem hx hb zkX7_111 (by decide) ?_
  rw [show nI 2 - nI 2 / nI 6 * nI 6 = nI 2 from nI_mod (by decide) (by decide)]
  refine put_int hx hb hK hP hD hS 1 (k := 11) rfl (Nat.le_of_ble_eq_true rfl) (Nat.le_of_ble_eq_true rfl) zkX7_112 (fun H locs hP hD hS => ?_)
  have hP : va_P G.1 vwCl ([(h0, .inr (8, [.int 0, .int 0, .int 0, .int 0, .int 0, .int 0, .int 0, .int 0, .int 0, .ref q7, .ref q15, .ref q23, .ref q31, .ref q40, .ref q48, .ref q56, .int 0, .ref q64, .ref q73, .int 0, .int 0, .int 0, .int 0, .int 0, .int 0])), (q7, .inl (G.2.1 0, 126, .inl (vF 2))), (q15, .inl (G.2.1 0, 126, .inl i0)), (q23, .inl (G.2.1 0, 126, .inl i0)), (q31, .inl (G.2.1 0, 126, .inl i0)), (q40, .inl (G.2.1 0, 1008, .inl i0)), (q48, .inl (G.2.1 0, 6, .inl i0)), (q56, .inl (G.2.1 0, 6, .inl i0)), (q64, .inl (G.2.1 0, 60, .inl i0)), (q73, .inl (G.2.1 0, 140, .inl i0))]) H := hP
  have hD : va_D (va_A [(h0, .inr (8, [.int 0, .int 0, .int 0, .int 0, .int 0, .int 0, .int 0, .int 0, .int 0, .null, .null, .null, .null, .null, .null, .null, .int 0, .null, .null, .int 0, .int 0, .int 0, .int 0, .int 0, .int 0]))] s.heap.size) ([(h0, .inr (8, [.int 0, .int 0, .int 0, .int 0, .int 0, .int 0, .int 0, .int 0, .int 0, .ref q7, .ref q15, .ref q23, .ref q31, .ref q40, .ref q48, .ref q56, .int 0, .ref q64, .ref q73, .int 0, .int 0, .int 0, .int 0, .int 0, .int 0])), (q7, .inl (G.2.1 0, 126, .inl (vF 2))), (q15, .inl (G.2.1 0, 126, .inl i0)), (q23, .inl (G.2.1 0, 126, .inl i0)), (q31, .inl (G.2.1 0, 126, .inl i0)), (q40, .inl (G.2.1 0, 1008, .inl i0)), (q48, .inl (G.2.1 0, 6, .inl i0)), (q56, .inl (G.2.1 0, 6, .inl i0)), (q64, .inl (G.2.1 0, 60, .inl i0)), (q73, .inl (G.2.1 0, 140, .inl i0))]) := hD
  refine lv_iinc hx hb zkX7_113 hl (k := 0) rfl (v := nI 2) (by decide +kernel) (by decide) rfl (fun ls hl => ?_)
  have hl : lv_has ls 2 [(1, .int (nI 2)), (0, .ref h0)] := hl
  refine lv_goto hx hb zkX7_116 (tgt := 80) (by decide) ?_
  refine lv_iload_n hx hb zkX7_80 rfl (lv_at hl 0 rfl) ?_
  refine lv_bipush hx hb zkX7_81 (v := nI 6) rfl ?_
  refine lv_icmp_ge hx hb zkX7_83 (tgt := 119) (by decide) (fun hz => absurd hz (nI_ge (by decide) (by decide))) (fun _ => ?_)
  refine lv_aload_n hx hb zkX7_86 rfl (lv_at hl 1 rfl) ?_
  refine va_get (own := RX7) (ref := "CandleStatuteModel") (ci := 8) (v := .ref q7) (C := RX7) (T := TX7) (N := 25) hx hb htT uin_X7 hown hK hP 0 rfl rfl 9 (Nat.le_of_ble_eq_true rfl) (htT _ zw_fX7_7) (fun _ h9 => h9) rfl zkX7_87 ?_
  refine lv_iload_n hx hb zkX7_90 rfl (lv_at hl 0 rfl) ?_
  refine lv_iconst hx hb zkX7_91 (v := nI 0) rfl ?_
  refine at_back (a := 2) (b := 0) hx hb hml hown hts hP hS hA hl.1 ⟨Nat.le_of_ble_eq_true rfl, Nat.le_of_ble_eq_true rfl⟩ ⟨Nat.le_of_ble_eq_true rfl, Nat.le_of_ble_eq_true rfl⟩ (Nat.le_of_ble_eq_true rfl) zkX7_92 (fun H locs hP hS => ?_)
  refine lv_iconst hx hb zkX7_95 (v := nI 1) rfl ?_
  refine put_int hx hb hK hP hD hS 1 (k := 14) rfl (Nat.le_of_ble_eq_true rfl) (Nat.le_of_ble_eq_true rfl) zkX7_96 (fun H locs hP hD hS => ?_)
  have hP : va_P G.1 vwCl ([(h0, .inr (8, [.int 0, .int 0, .int 0, .int 0, .int 0, .int 0, .int 0, .int 0, .int 0, .ref q7, .ref q15, .ref q23, .ref q31, .ref q40, .ref q48, .ref q56, .int 0, .ref q64, .ref q73, .int 0, .int 0, .int 0, .int 0, .int 0, .int 0])), (q7, .inl (G.2.1 0, 126, .inl (upd (vF 2) 14 (nI 1)))), (q15, .inl (G.2.1 0, 126, .inl i0)), (q23, .inl (G.2.1 0, 126, .inl i0)), (q31, .inl (G.2.1 0, 126, .inl i0)), (q40, .inl (G.2.1 0, 1008, .inl i0)), (q48, .inl (G.2.1 0, 6, .inl i0)), (q56, .inl (G.2.1 0, 6, .inl i0)), (q64, .inl (G.2.1 0, 60, .inl i0)), (q73, .inl (G.2.1 0, 140, .inl i0))]) H := hP
  have hD : va_D (va_A [(h0, .inr (8, [.int 0, .int 0, .int 0, .int 0, .int 0, .int 0, .int 0, .int 0, .int 0, .null, .null, .null, .null, .null, .null, .null, .int 0, .null, .null, .int 0, .int 0, .int 0, .int 0, .int 0, .int 0]))] s.heap.size) ([(h0, .inr (8, [.int 0, .int 0, .int 0, .int 0, .int 0, .int 0, .int 0, .int 0, .int 0, .ref q7, .ref q15, .ref q23, .ref q31, .ref q40, .ref q48, .ref q56, .int 0, .ref q64, .ref q73, .int 0, .int 0, .int 0, .int 0, .int 0, .int 0])), (q7, .inl (G.2.1 0, 126, .inl (upd (vF 2) 14 (nI 1)))), (q15, .inl (G.2.1 0, 126, .inl i0)), (q23, .inl (G.2.1 0, 126, .inl i0)), (q31, .inl (G.2.1 0, 126, .inl i0)), (q40, .inl (G.2.1 0, 1008, .inl i0)), (q48, .inl (G.2.1 0, 6, .inl i0)), (q56, .inl (G.2.1 0, 6, .inl i0)), (q64, .inl (G.2.1 0, 60, .inl i0)), (q73, .inl (G.2.1 0, 140, .inl i0))]) := hD
  refine lv_aload_n hx hb zkX7_97 rfl (lv_at hl 1 rfl) ?_
  refine va_get (own := RX7) (ref := "CandleStatuteModel") (ci := 8) (v := .ref q7) (C := RX7) (T := TX7) (N := 25) hx hb htT uin_X7 hown hK hP 0 rfl rfl 9 (Nat.le_of_ble_eq_true rfl) (htT _ zw_fX7_7) (fun _ h9 => h9) rfl zkX7_98 ?_
  refine lv_iload_n hx hb zkX7_101 rfl (lv_at hl 0 rfl) ?_
  refine lv_iconst hx hb zkX7_102 (v := nI 1) rfl ?_
  refine at_back (a := 2) (b := 1) hx hb hml hown hts hP hS hA hl.1 ⟨Nat.le_of_ble_eq_true rfl, Nat.le_of_ble_eq_true rfl⟩ ⟨Nat.le_of_ble_eq_true rfl, Nat.le_of_ble_eq_true rfl⟩ (Nat.le_of_ble_eq_true rfl) zkX7_103 (fun H locs hP hS => ?_)
  refine lv_iload_n hx hb zkX7_106 rfl (lv_at hl 0 rfl) ?_
  refine lv_iconst hx hb zkX7_107 (v := nI 1) rfl ?_
  refine lv_iadd hx hb zkX7_108 ?_
  rw [show nI 2 + nI 1 = nI 3 from nI_add 2 1]
  refine lv_bipush hx hb zkX7_109 (v := nI 6) rfl ?_
  refine lv_irem hx hb zkX7_111 (by decide) ?_
  rw [show nI 3 - nI 3 / nI 6 * nI 6 = nI 3 from nI_mod (by decide) (by decide)]
  refine put_int hx hb hK hP hD hS 1 (k := 15) rfl (Nat.le_of_ble_eq_true rfl) (Nat.le_of_ble_eq_true rfl) zkX7_112 (fun H locs hP hD hS => ?_)
  have hP : va_P G.1 vwCl ([(h0, .inr (8, [.int 0, .int 0, .int 0, .int 0, .int 0, .int 0, .int 0, .int 0, .int 0, .ref q7, .ref q15, .ref q23, .ref q31, .ref q40, .ref q48, .ref q56, .int 0, .ref q64, .ref q73, .int 0, .int 0, .int 0, .int 0, .int 0, .int 0])), (q7, .inl (G.2.1 0, 126, .inl (vF 3))), (q15, .inl (G.2.1 0, 126, .inl i0)), (q23, .inl (G.2.1 0, 126, .inl i0)), (q31, .inl (G.2.1 0, 126, .inl i0)), (q40, .inl (G.2.1 0, 1008, .inl i0)), (q48, .inl (G.2.1 0, 6, .inl i0)), (q56, .inl (G.2.1 0, 6, .inl i0)), (q64, .inl (G.2.1 0, 60, .inl i0)), (q73, .inl (G.2.1 0, 140, .inl i0))]) H := hP
  have hD : va_D (va_A [(h0, .inr (8, [.int 0, .int 0, .int 0, .int 0, .int 0, .int 0, .int 0, .int 0, .int 0, .null, .null, .null, .null, .null, .null, .null, .int 0, .null, .null, .int 0, .int 0, .int 0, .int 0, .int 0, .int 0]))] s.heap.size) ([(h0, .inr (8, [.int 0, .int 0, .int 0, .int 0, .int 0, .int 0, .int 0, .int 0, .int 0, .ref q7, .ref q15, .ref q23, .ref q31, .ref q40, .ref q48, .ref q56, .int 0, .ref q64, .ref q73, .int 0, .int 0, .int 0, .int 0, .int 0, .int 0])), (q7, .inl (G.2.1 0, 126, .inl (vF 3))), (q15, .inl (G.2.1 0, 126, .inl i0)), (q23, .inl (G.2.1 0, 126, .inl i0)), (q31, .inl (G.2.1 0, 126, .inl i0)), (q40, .inl (G.2.1 0, 1008, .inl i0)), (q48, .inl (G.2.1 0, 6, .inl i0)), (q56, .inl (G.2.1 0, 6, .inl i0)), (q64, .inl (G.2.1 0, 60, .inl i0)), (q73, .inl (G.2.1 0, 140, .inl i0))]) := hD
  refine lv_iinc hx hb zkX7_113 hl (k := 0) rfl (v := nI 3) (by decide +kernel) (by decide) rfl (fun ls hl => ?_)
  have hl : lv_has ls 2 [(1, .int (nI 3)), (0, .ref h0)] := hl
  refine lv_goto hx hb zkX7_116 (tgt := 80) (by decide) ?_
  refine lv_iload_n hx hb zkX7_80 rfl (lv_at hl 0 rfl) ?_
  refine lv_bipush hx hb zkX7_81 (v := nI 6) rfl ?_
  refine lv_icmp_ge hx hb zkX7_83 (tgt := 119) (by decide) (fun hz => absurd hz (nI_ge (by decide) (by decide))) (fun _ => ?_)
  refine lv_aload_n hx hb zkX7_86 rfl (lv_at hl 1 rfl) ?_
  refine va_get (own := RX7) (ref := "CandleStatuteModel") (ci := 8) (v := .ref q7) (C := RX7) (T := TX7) (N := 25) hx hb htT uin_X7 hown hK hP 0 rfl rfl 9 (Nat.le_of_ble_eq_true rfl) (htT _ zw_fX7_7) (fun _ h9 => h9) rfl zkX7_87 ?_
  refine lv_iload_n hx hb zkX7_90 rfl (lv_at hl 0 rfl) ?_
  refine lv_iconst hx hb zkX7_91 (v := nI 0) rfl ?_
  refine at_back (a := 3) (b := 0) hx hb hml hown hts hP hS hA hl.1 ⟨Nat.le_of_ble_eq_true rfl, Nat.le_of_ble_eq_true rfl⟩ ⟨Nat.le_of_ble_eq_true rfl, Nat.le_of_ble_eq_true rfl⟩ (Nat.le_of_ble_eq_true rfl) zkX7_92 (fun H locs hP hS => ?_)
  refine lv_iconst hx hb zkX7_95 (v := nI 1) rfl ?_
  refine put_int hx hb hK hP hD hS 1 (k := 18) rfl (Nat.le_of_ble_eq_true rfl) (Nat.le_of_ble_eq_true rfl) zkX7_96 (fun H locs hP hD hS => ?_)
  have hP : va_P G.1 vwCl ([(h0, .inr (8, [.int 0, .int 0, .int 0, .int 0, .int 0, .int 0, .int 0, .int 0, .int 0, .ref q7, .ref q15, .ref q23, .ref q31, .ref q40, .ref q48, .ref q56, .int 0, .ref q64, .ref q73, .int 0, .int 0, .int 0, .int 0, .int 0, .int 0])), (q7, .inl (G.2.1 0, 126, .inl (upd (vF 3) 18 (nI 1)))), (q15, .inl (G.2.1 0, 126, .inl i0)), (q23, .inl (G.2.1 0, 126, .inl i0)), (q31, .inl (G.2.1 0, 126, .inl i0)), (q40, .inl (G.2.1 0, 1008, .inl i0)), (q48, .inl (G.2.1 0, 6, .inl i0)), (q56, .inl (G.2.1 0, 6, .inl i0)), (q64, .inl (G.2.1 0, 60, .inl i0)), (q73, .inl (G.2.1 0, 140, .inl i0))]) H := hP
  have hD : va_D (va_A [(h0, .inr (8, [.int 0, .int 0, .int 0, .int 0, .int 0, .int 0, .int 0, .int 0, .int 0, .null, .null, .null, .null, .null, .null, .null, .int 0, .null, .null, .int 0, .int 0, .int 0, .int 0, .int 0, .int 0]))] s.heap.size) ([(h0, .inr (8, [.int 0, .int 0, .int 0, .int 0, .int 0, .int 0, .int 0, .int 0, .int 0, .ref q7, .ref q15, .ref q23, .ref q31, .ref q40, .ref q48, .ref q56, .int 0, .ref q64, .ref q73, .int 0, .int 0, .int 0, .int 0, .int 0, .int 0])), (q7, .inl (G.2.1 0, 126, .inl (upd (vF 3) 18 (nI 1)))), (q15, .inl (G.2.1 0, 126, .inl i0)), (q23, .inl (G.2.1 0, 126, .inl i0)), (q31, .inl (G.2.1 0, 126, .inl i0)), (q40, .inl (G.2.1 0, 1008, .inl i0)), (q48, .inl (G.2.1 0, 6, .inl i0)), (q56, .inl (G.2.1 0, 6, .inl i0)), (q64, .inl (G.2.1 0, 60, .inl i0)), (q73, .inl (G.2.1 0, 140, .inl i0))]) := hD
  refine lv_aload_n hx hb zkX7_97 rfl (lv_at hl 1 rfl) ?_
  refine va_get (own := RX7) (ref := "CandleStatuteModel") (ci := 8) (v := .ref q7) (C := RX7) (T := TX7) (N := 25) hx hb htT uin_X7 hown hK hP 0 rfl rfl 9 (Nat.le_of_ble_eq_true rfl) (htT _ zw_fX7_7) (fun _ h9 => h9) rfl zkX7_98 ?_
  refine lv_iload_n hx hb zkX7_101 rfl (lv_at hl 0 rfl) ?_
  refine lv_iconst hx hb zkX7_102 (v := nI 1) rfl ?_
  refine at_back (a := 3) (b := 1) hx hb hml hown hts hP hS hA hl.1 ⟨Nat.le_of_ble_eq_true rfl, Nat.le_of_ble_eq_true rfl⟩ ⟨Nat.le_of_ble_eq_true rfl, Nat.le_of_ble_eq_true rfl⟩ (Nat.le_of_ble_eq_true rfl) zkX7_103 (fun H locs hP hS => ?_)
  refine lv_iload_n hx hb zkX7_106 rfl (lv_at hl 0 rfl) ?_
  refine lv_iconst hx hb zkX7_107 (v := nI 1) rfl ?_
  refine lv_iadd hx hb zkX7_108 ?_
  rw [show nI 3 + nI 1 = nI 4 from nI_add 3 1]
  refine lv_bipush hx hb zkX7_109 (v := nI 6) rfl ?_
  refine lv_irem hx hb zkX7_111 (by decide) ?_
  rw [show nI 4 - nI 4 / nI 6 * nI 6 = nI 4 from nI_mod (by decide) (by decide)]
  refine put_int hx hb hK hP hD hS 1 (k := 19) rfl (Nat.le_of_ble_eq_true rfl) (Nat.le_of_ble_eq_true rfl) zkX7_112 (fun H locs hP hD hS => ?_)
  have hP : va_P G.1 vwCl ([(h0, .inr (8, [.int 0, .int 0, .int 0, .int 0, .int 0, .int 0, .int 0, .int 0, .int 0, .ref q7, .ref q15, .ref q23, .ref q31, .ref q40, .ref q48, .ref q56, .int 0, .ref q64, .ref q73, .int 0, .int 0, .int 0, .int 0, .int 0, .int 0])), (q7, .inl (G.2.1 0, 126, .inl (vF 4))), (q15, .inl (G.2.1 0, 126, .inl i0)), (q23, .inl (G.2.1 0, 126, .inl i0)), (q31, .inl (G.2.1 0, 126, .inl i0)), (q40, .inl (G.2.1 0, 1008, .inl i0)), (q48, .inl (G.2.1 0, 6, .inl i0)), (q56, .inl (G.2.1 0, 6, .inl i0)), (q64, .inl (G.2.1 0, 60, .inl i0)), (q73, .inl (G.2.1 0, 140, .inl i0))]) H := hP
  have hD : va_D (va_A [(h0, .inr (8, [.int 0, .int 0, .int 0, .int 0, .int 0, .int 0, .int 0, .int 0, .int 0, .null, .null, .null, .null, .null, .null, .null, .int 0, .null, .null, .int 0, .int 0, .int 0, .int 0, .int 0, .int 0]))] s.heap.size) ([(h0, .inr (8, [.int 0, .int 0, .int 0, .int 0, .int 0, .int 0, .int 0, .int 0, .int 0, .ref q7, .ref q15, .ref q23, .ref q31, .ref q40, .ref q48, .ref q56, .int 0, .ref q64, .ref q73, .int 0, .int 0, .int 0, .int 0, .int 0, .int 0])), (q7, .inl (G.2.1 0, 126, .inl (vF 4))), (q15, .inl (G.2.1 0, 126, .inl i0)), (q23, .inl (G.2.1 0, 126, .inl i0)), (q31, .inl (G.2.1 0, 126, .inl i0)), (q40, .inl (G.2.1 0, 1008, .inl i0)), (q48, .inl (G.2.1 0, 6, .inl i0)), (q56, .inl (G.2.1 0, 6, .inl i0)), (q64, .inl (G.2.1 0, 60, .inl i0)), (q73, .inl (G.2.1 0, 140, .inl i0))]) := hD
  refine lv_iinc hx hb zkX7_113 hl (k := 0) rfl (v := nI 4) (by decide +kernel) (by decide) rfl (fun ls hl => ?_)
  have hl : lv_has ls 2 [(1, .int (nI 4)), (0, .ref h0)] := hl
  refine lv_goto hx hb zkX7_116 (tgt := 80) (by decide) ?_
  refine lv_iload_n hx hb zkX7_80 rfl (lv_at hl 0 rfl) ?_
  refine lv_bipush hx hb zkX7_81 (v := nI 6) rfl ?_
  refine lv_icmp_ge hx hb zkX7_83 (tgt := 119) (by decide) (fun hz => absurd hz (nI_ge (by decide) (by decide))) (fun _ => ?_)
  refine lv_aload_n hx hb zkX7_86 rfl (lv_at hl 1 rfl) ?_
  refine va_get (own := RX7) (ref := "CandleStatuteModel") (ci := 8) (v := .ref q7) (C := RX7) (T := TX7) (N := 25) hx hb htT uin_X7 hown hK hP 0 rfl rfl 9 (Nat.le_of_ble_eq_true rfl) (htT _ zw_fX7_7) (fun _ h9 => h9) rfl zkX7_87 ?_
  refine lv_iload_n hx hb zkX7_90 rfl (lv_at hl 0 rfl) ?_
  refine lv_iconst hx hb zkX7_91 (v := nI 0) rfl ?_
  refine at_back (a := 4) (b := 0) hx hb hml hown hts hP hS hA hl.1 ⟨Nat.le_of_ble_eq_true rfl, Nat.le_of_ble_eq_true rfl⟩ ⟨Nat.le_of_ble_eq_true rfl, Nat.le_of_ble_eq_true rfl⟩ (Nat.le_of_ble_eq_true rfl) zkX7_92 (fun H locs hP hS => ?_)
  refine lv_iconst hx hb zkX7_95 (v := nI 1) rfl ?_
  refine put_int hx hb hK hP hD hS 1 (k := 22) rfl (Nat.le_of_ble_eq_true rfl) (Nat.le_of_ble_eq_true rfl) zkX7_96 (fun H locs hP hD hS => ?_)
  have hP : va_P G.1 vwCl ([(h0, .inr (8, [.int 0, .int 0, .int 0, .int 0, .int 0, .int 0, .int 0, .int 0, .int 0, .ref q7, .ref q15, .ref q23, .ref q31, .ref q40, .ref q48, .ref q56, .int 0, .ref q64, .ref q73, .int 0, .int 0, .int 0, .int 0, .int 0, .int 0])), (q7, .inl (G.2.1 0, 126, .inl (upd (vF 4) 22 (nI 1)))), (q15, .inl (G.2.1 0, 126, .inl i0)), (q23, .inl (G.2.1 0, 126, .inl i0)), (q31, .inl (G.2.1 0, 126, .inl i0)), (q40, .inl (G.2.1 0, 1008, .inl i0)), (q48, .inl (G.2.1 0, 6, .inl i0)), (q56, .inl (G.2.1 0, 6, .inl i0)), (q64, .inl (G.2.1 0, 60, .inl i0)), (q73, .inl (G.2.1 0, 140, .inl i0))]) H := hP
  have hD : va_D (va_A [(h0, .inr (8, [.int 0, .int 0, .int 0, .int 0, .int 0, .int 0, .int 0, .int 0, .int 0, .null, .null, .null, .null, .null, .null, .null, .int 0, .null, .null, .int 0, .int 0, .int 0, .int 0, .int 0, .int 0]))] s.heap.size) ([(h0, .inr (8, [.int 0, .int 0, .int 0, .int 0, .int 0, .int 0, .int 0, .int 0, .int 0, .ref q7, .ref q15, .ref q23, .ref q31, .ref q40, .ref q48, .ref q56, .int 0, .ref q64, .ref q73, .int 0, .int 0, .int 0, .int 0, .int 0, .int 0])), (q7, .inl (G.2.1 0, 126, .inl (upd (vF 4) 22 (nI 1)))), (q15, .inl (G.2.1 0, 126, .inl i0)), (q23, .inl (G.2.1 0, 126, .inl i0)), (q31, .inl (G.2.1 0, 126, .inl i0)), (q40, .inl (G.2.1 0, 1008, .inl i0)), (q48, .inl (G.2.1 0, 6, .inl i0)), (q56, .inl (G.2.1 0, 6, .inl i0)), (q64, .inl (G.2.1 0, 60, .inl i0)), (q73, .inl (G.2.1 0, 140, .inl i0))]) := hD
  refine lv_aload_n hx hb zkX7_97 rfl (lv_at hl 1 rfl) ?_
  refine va_get (own := RX7) (ref := "CandleStatuteModel") (ci := 8) (v := .ref q7) (C := RX7) (T := TX7) (N := 25) hx hb htT uin_X7 hown hK hP 0 rfl rfl 9 (Nat.le_of_ble_eq_true rfl) (htT _ zw_fX7_7) (fun _ h9 => h9) rfl zkX7_98 ?_
  refine lv_iload_n hx hb zkX7_101 rfl (lv_at hl 0 rfl) ?_
  refine lv_iconst hx hb zkX7_102 (v := nI 1) rfl ?_
  refine at_back (a := 4) (b := 1) hx hb hml hown hts hP hS hA hl.1 ⟨Nat.le_of_ble_eq_true rfl, Nat.le_of_ble_eq_true rfl⟩ ⟨Nat.le_of_ble_eq_true rfl, Nat.le_of_ble_eq_true rfl⟩ (Nat.le_of_ble_eq_true rfl) zkX7_103 (fun H locs hP hS => ?_)
  refine lv_iload_n hx hb zkX7_106 rfl (lv_at hl 0 rfl) ?_
  refine lv_iconst hx hb zkX7_107 (v := nI 1) rfl ?_
  refine lv_iadd hx hb zkX7_108 ?_
  rw [show nI 4 + nI 1 = nI 5 from nI_add 4 1]
  refine lv_bipush hx hb zkX7_109 (v := nI 6) rfl ?_
  refine lv_irem hx hb zkX7_111 (by decide) ?_
  rw [show nI 5 - nI 5 / nI 6 * nI 6 = nI 5 from nI_mod (by decide) (by decide)]
  refine put_int hx hb hK hP hD hS 1 (k := 23) rfl (Nat.le_of_ble_eq_true rfl) (Nat.le_of_ble_eq_true rfl) zkX7_112 (fun H locs hP hD hS => ?_)
  have hP : va_P G.1 vwCl ([(h0, .inr (8, [.int 0, .int 0, .int 0, .int 0, .int 0, .int 0, .int 0, .int 0, .int 0, .ref q7, .ref q15, .ref q23, .ref q31, .ref q40, .ref q48, .ref q56, .int 0, .ref q64, .ref q73, .int 0, .int 0, .int 0, .int 0, .int 0, .int 0])), (q7, .inl (G.2.1 0, 126, .inl (vF 5))), (q15, .inl (G.2.1 0, 126, .inl i0)), (q23, .inl (G.2.1 0, 126, .inl i0)), (q31, .inl (G.2.1 0, 126, .inl i0)), (q40, .inl (G.2.1 0, 1008, .inl i0)), (q48, .inl (G.2.1 0, 6, .inl i0)), (q56, .inl (G.2.1 0, 6, .inl i0)), (q64, .inl (G.2.1 0, 60, .inl i0)), (q73, .inl (G.2.1 0, 140, .inl i0))]) H := hP
  have hD : va_D (va_A [(h0, .inr (8, [.int 0, .int 0, .int 0, .int 0, .int 0, .int 0, .int 0, .int 0, .int 0, .null, .null, .null, .null, .null, .null, .null, .int 0, .null, .null, .int 0, .int 0, .int 0, .int 0, .int 0, .int 0]))] s.heap.size) ([(h0, .inr (8, [.int 0, .int 0, .int 0, .int 0, .int 0, .int 0, .int 0, .int 0, .int 0, .ref q7, .ref q15, .ref q23, .ref q31, .ref q40, .ref q48, .ref q56, .int 0, .ref q64, .ref q73, .int 0, .int 0, .int 0, .int 0, .int 0, .int 0])), (q7, .inl (G.2.1 0, 126, .inl (vF 5))), (q15, .inl (G.2.1 0, 126, .inl i0)), (q23, .inl (G.2.1 0, 126, .inl i0)), (q31, .inl (G.2.1 0, 126, .inl i0)), (q40, .inl (G.2.1 0, 1008, .inl i0)), (q48, .inl (G.2.1 0, 6, .inl i0)), (q56, .inl (G.2.1 0, 6, .inl i0)), (q64, .inl (G.2.1 0, 60, .inl i0)), (q73, .inl (G.2.1 0, 140, .inl i0))]) := hD
  refine lv_iinc hx hb zkX7_113 hl (k := 0) rfl (v := nI 5) (by decide +kernel) (by decide) rfl (fun ls hl => ?_)
  have hl : lv_has ls 2 [(1, .int (nI 5)), (0, .ref h0)] := hl
  refine lv_goto hx hb zkX7_116 (tgt := 80) (by decide) ?_
  refine lv_iload_n hx hb zkX7_80 rfl (lv_at hl 0 rfl) ?_
  refine lv_bipush hx hb zkX7_81 (v := nI 6) rfl ?_
  refine lv_icmp_ge hx hb zkX7_83 (tgt := 119) (by decide) (fun hz => absurd hz (nI_ge (by decide) (by decide))) (fun _ => ?_)
  refine lv_aload_n hx hb zkX7_86 rfl (lv_at hl 1 rfl) ?_
  refine va_get (own := RX7) (ref := "CandleStatuteModel") (ci := 8) (v := .ref q7) (C := RX7) (T := TX7) (N := 25) hx hb htT uin_X7 hown hK hP 0 rfl rfl 9 (Nat.le_of_ble_eq_true rfl) (htT _ zw_fX7_7) (fun _ h9 => h9) rfl zkX7_87 ?_
  refine lv_iload_n hx hb zkX7_90 rfl (lv_at hl 0 rfl) ?_
  refine lv_iconst hx hb zkX7_91 (v := nI 0) rfl ?_
  refine at_back (a := 5) (b := 0) hx hb hml hown hts hP hS hA hl.1 ⟨Nat.le_of_ble_eq_true rfl, Nat.le_of_ble_eq_true rfl⟩ ⟨Nat.le_of_ble_eq_true rfl, Nat.le_of_ble_eq_true rfl⟩ (Nat.le_of_ble_eq_true rfl) zkX7_92 (fun H locs hP hS => ?_)
  refine lv_iconst hx hb zkX7_95 (v := nI 1) rfl ?_
  refine put_int hx hb hK hP hD hS 1 (k := 26) rfl (Nat.le_of_ble_eq_true rfl) (Nat.le_of_ble_eq_true rfl) zkX7_96 (fun H locs hP hD hS => ?_)
  have hP : va_P G.1 vwCl ([(h0, .inr (8, [.int 0, .int 0, .int 0, .int 0, .int 0, .int 0, .int 0, .int 0, .int 0, .ref q7, .ref q15, .ref q23, .ref q31, .ref q40, .ref q48, .ref q56, .int 0, .ref q64, .ref q73, .int 0, .int 0, .int 0, .int 0, .int 0, .int 0])), (q7, .inl (G.2.1 0, 126, .inl (upd (vF 5) 26 (nI 1)))), (q15, .inl (G.2.1 0, 126, .inl i0)), (q23, .inl (G.2.1 0, 126, .inl i0)), (q31, .inl (G.2.1 0, 126, .inl i0)), (q40, .inl (G.2.1 0, 1008, .inl i0)), (q48, .inl (G.2.1 0, 6, .inl i0)), (q56, .inl (G.2.1 0, 6, .inl i0)), (q64, .inl (G.2.1 0, 60, .inl i0)), (q73, .inl (G.2.1 0, 140, .inl i0))]) H := hP
  have hD : va_D (va_A [(h0, .inr (8, [.int 0, .int 0, .int 0, .int 0, .int 0, .int 0, .int 0, .int 0, .int 0, .null, .null, .null, .null, .null, .null, .null, .int 0, .null, .null, .int 0, .int 0, .int 0, .int 0, .int 0, .int 0]))] s.heap.size) ([(h0, .inr (8, [.int 0, .int 0, .int 0, .int 0, .int 0, .int 0, .int 0, .int 0, .int 0, .ref q7, .ref q15, .ref q23, .ref q31, .ref q40, .ref q48, .ref q56, .int 0, .ref q64, .ref q73, .int 0, .int 0, .int 0, .int 0, .int 0, .int 0])), (q7, .inl (G.2.1 0, 126, .inl (upd (vF 5) 26 (nI 1)))), (q15, .inl (G.2.1 0, 126, .inl i0)), (q23, .inl (G.2.1 0, 126, .inl i0)), (q31, .inl (G.2.1 0, 126, .inl i0)), (q40, .inl (G.2.1 0, 1008, .inl i0)), (q48, .inl (G.2.1 0, 6, .inl i0)), (q56, .inl (G.2.1 0, 6, .inl i0)), (q64, .inl (G.2.1 0, 60, .inl i0)), (q73, .inl (G.2.1 0, 140, .inl i0))]) := hD
  refine lv_aload_n hx hb zkX7_97 rfl (lv_at hl 1 rfl) ?_
  refine va_get (own := RX7) (ref := "CandleStatuteModel") (ci := 8) (v := .ref q7) (C := RX7) (T := TX7) (N := 25) hx hb htT uin_X7 hown hK hP 0 rfl rfl 9 (Nat.le_of_ble_eq_true rfl) (htT _ zw_fX7_7) (fun _ h9 => h9) rfl zkX7_98 ?_
  refine lv_iload_n hx hb zkX7_101 rfl (lv_at hl 0 rfl) ?_
  refine lv_iconst hx hb zkX7_102 (v := nI 1) rfl ?_
  refine at_back (a := 5) (b := 1) hx hb hml hown hts hP hS hA hl.1 ⟨Nat.le_of_ble_eq_true rfl, Nat.le_of_ble_eq_true rfl⟩ ⟨Nat.le_of_ble_eq_true rfl, Nat.le_of_ble_eq_true rfl⟩ (Nat.le_of_ble_eq_true rfl) zkX7_103 (fun H locs hP hS => ?_)
  refine lv_iload_n hx hb zkX7_106 rfl (lv_at hl 0 rfl) ?_
  refine lv_iconst hx hb zkX7_107 (v := nI 1) rfl ?_
  refine lv_iadd hx hb zkX7_108 ?_
  rw [show nI 5 + nI 1 = nI 6 from nI_add 5 1]
  refine lv_bipush hx hb zkX7_109 (v := nI 6) rfl ?_
  refine lv_irem hx hb zkX7_111 (by decide) ?_
  rw [show nI 6 - nI 6 / nI 6 * nI 6 = nI 0 from nI_mod (by decide) (by decide)]
  refine put_int hx hb hK hP hD hS 1 (k := 27) rfl (Nat.le_of_ble_eq_true rfl) (Nat.le_of_ble_eq_true rfl) zkX7_112 (fun H locs hP hD hS => ?_)
  have hP : va_P G.1 vwCl ([(h0, .inr (8, [.int 0, .int 0, .int 0, .int 0, .int 0, .int 0, .int 0, .int 0, .int 0, .ref q7, .ref q15, .ref q23, .ref q31, .ref q40, .ref q48, .ref q56, .int 0, .ref q64, .ref q73, .int 0, .int 0, .int 0, .int 0, .int 0, .int 0])), (q7, .inl (G.2.1 0, 126, .inl (vF 6))), (q15, .inl (G.2.1 0, 126, .inl i0)), (q23, .inl (G.2.1 0, 126, .inl i0)), (q31, .inl (G.2.1 0, 126, .inl i0)), (q40, .inl (G.2.1 0, 1008, .inl i0)), (q48, .inl (G.2.1 0, 6, .inl i0)), (q56, .inl (G.2.1 0, 6, .inl i0)), (q64, .inl (G.2.1 0, 60, .inl i0)), (q73, .inl (G.2.1 0, 140, .inl i0))]) H := hP
  have hD : va_D (va_A [(h0, .inr (8, [.int 0, .int 0, .int 0, .int 0, .int 0, .int 0, .int 0, .int 0, .int 0, .null, .null, .null, .null, .null, .null, .null, .int 0, .null, .null, .int 0, .int 0, .int 0, .int 0, .int 0, .int 0]))] s.heap.size) ([(h0, .inr (8, [.int 0, .int 0, .int 0, .int 0, .int 0, .int 0, .int 0, .int 0, .int 0, .ref q7, .ref q15, .ref q23, .ref q31, .ref q40, .ref q48, .ref q56, .int 0, .ref q64, .ref q73, .int 0, .int 0, .int 0, .int 0, .int 0, .int 0])), (q7, .inl (G.2.1 0, 126, .inl (vF 6))), (q15, .inl (G.2.1 0, 126, .inl i0)), (q23, .inl (G.2.1 0, 126, .inl i0)), (q31, .inl (G.2.1 0, 126, .inl i0)), (q40, .inl (G.2.1 0, 1008, .inl i0)), (q48, .inl (G.2.1 0, 6, .inl i0)), (q56, .inl (G.2.1 0, 6, .inl i0)), (q64, .inl (G.2.1 0, 60, .inl i0)), (q73, .inl (G.2.1 0, 140, .inl i0))]) := hD
  refine lv_iinc hx hb zkX7_113 hl (k := 0) rfl (v := nI 6) (by decide +kernel) (by decide) rfl (fun ls hl => ?_)
  have hl : lv_has ls 2 [(1, .int (nI 6)), (0, .ref h0)] := hl
  refine lv_goto hx hb zkX7_116 (tgt := 80) (by decide) ?_
  refine lv_iload_n hx hb zkX7_80 rfl (lv_at hl 0 rfl) ?_
  refine lv_bipush hx hb zkX7_81 (v := nI 6) rfl ?_
  refine lv_icmp_ge hx hb zkX7_83 (tgt := 119) (by decide) (fun _ => ?_) (fun hz => absurd (nI_le (by decide) (by decide)) hz)
  refine W.cs (cells' := 9) (slots' := 1724) (by omega) (by omega) ?_
  exact W.vret hx hb B.returns (fun t ht hW => ⟨⟨_, rfl, rfl, (fun j => [h0, q7, q15, q23, q31, q40, q48, q56, q64, q73].getD j 0), rfl, by rw [ht]; exact hP, hD⟩, hS.F ht⟩) hS.2.2 zkX7_119 hlocks
