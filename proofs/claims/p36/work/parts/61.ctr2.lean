/-! the constructors that call none of ours -/
def stuW (cA : Nat → ClassId) (f : Nat → Nat) : va_W := [(f 0, .inr (6, [.ref (f 1), .ref (f 2), .ref (f 3), .ref (f 4), .ref (f 5), .ref (f 6), .ref (f 7), .ref (f 8), .int 0])), (f 1, .inl (cA 0, 12, .inl i0)), (f 2, .inl (cA 0, 12, .inl i0)), (f 3, .inl (cA 0, 12, .inl i0)), (f 4, .inl (cA 0, 12, .inl i0)), (f 5, .inl (cA 0, 12, .inl i0)), (f 6, .inl (cA 0, 12, .inl i0)), (f 7, .inl (cA 0, 12, .inl i0)), (f 8, .inl (cA 0, 12, .inl i0))]
theorem zkX5_0 : decode cX5_init 0 = .ok (.aload_n 0, 1) := by decide +kernel
theorem zkX5_1 : decode cX5_init 1 = .ok (.invokespecial 3, 3) := by decide +kernel
theorem zkX5_4 : decode cX5_init 4 = .ok (.aload_n 0, 1) := by decide +kernel
theorem zkX5_5 : decode cX5_init 5 = .ok (.bipush 12, 2) := by decide +kernel
theorem zkX5_7 : decode cX5_init 7 = .ok (.newarray .int, 2) := by decide +kernel
theorem zkX5_9 : decode cX5_init 9 = .ok (.putfield 9, 3) := by decide +kernel
theorem zkX5_12 : decode cX5_init 12 = .ok (.aload_n 0, 1) := by decide +kernel
theorem zkX5_13 : decode cX5_init 13 = .ok (.bipush 12, 2) := by decide +kernel
theorem zkX5_15 : decode cX5_init 15 = .ok (.newarray .int, 2) := by decide +kernel
theorem zkX5_17 : decode cX5_init 17 = .ok (.putfield 15, 3) := by decide +kernel
theorem zkX5_20 : decode cX5_init 20 = .ok (.aload_n 0, 1) := by decide +kernel
theorem zkX5_21 : decode cX5_init 21 = .ok (.bipush 12, 2) := by decide +kernel
theorem zkX5_23 : decode cX5_init 23 = .ok (.newarray .int, 2) := by decide +kernel
theorem zkX5_25 : decode cX5_init 25 = .ok (.putfield 18, 3) := by decide +kernel
theorem zkX5_28 : decode cX5_init 28 = .ok (.aload_n 0, 1) := by decide +kernel
theorem zkX5_29 : decode cX5_init 29 = .ok (.bipush 12, 2) := by decide +kernel
theorem zkX5_31 : decode cX5_init 31 = .ok (.newarray .int, 2) := by decide +kernel
theorem zkX5_33 : decode cX5_init 33 = .ok (.putfield 21, 3) := by decide +kernel
theorem zkX5_36 : decode cX5_init 36 = .ok (.aload_n 0, 1) := by decide +kernel
theorem zkX5_37 : decode cX5_init 37 = .ok (.bipush 12, 2) := by decide +kernel
theorem zkX5_39 : decode cX5_init 39 = .ok (.newarray .int, 2) := by decide +kernel
theorem zkX5_41 : decode cX5_init 41 = .ok (.putfield 24, 3) := by decide +kernel
theorem zkX5_44 : decode cX5_init 44 = .ok (.aload_n 0, 1) := by decide +kernel
theorem zkX5_45 : decode cX5_init 45 = .ok (.bipush 12, 2) := by decide +kernel
theorem zkX5_47 : decode cX5_init 47 = .ok (.newarray .int, 2) := by decide +kernel
theorem zkX5_49 : decode cX5_init 49 = .ok (.putfield 27, 3) := by decide +kernel
theorem zkX5_52 : decode cX5_init 52 = .ok (.aload_n 0, 1) := by decide +kernel
theorem zkX5_53 : decode cX5_init 53 = .ok (.bipush 12, 2) := by decide +kernel
theorem zkX5_55 : decode cX5_init 55 = .ok (.newarray .int, 2) := by decide +kernel
theorem zkX5_57 : decode cX5_init 57 = .ok (.putfield 30, 3) := by decide +kernel
theorem zkX5_60 : decode cX5_init 60 = .ok (.aload_n 0, 1) := by decide +kernel
theorem zkX5_61 : decode cX5_init 61 = .ok (.bipush 12, 2) := by decide +kernel
theorem zkX5_63 : decode cX5_init 63 = .ok (.newarray .int, 2) := by decide +kernel
theorem zkX5_65 : decode cX5_init 65 = .ok (.putfield 33, 3) := by decide +kernel
theorem zkX5_68 : decode cX5_init 68 = .ok (.return_, 1) := by decide +kernel
def ordW (cA : Nat → ClassId) (f : Nat → Nat) : va_W := [(f 0, .inr (2, [.ref (f 1), .ref (f 2), .ref (f 3), .ref (f 4), .int 0, .int 0])), (f 1, .inl (cA 0, 60, .inl i0)), (f 2, .inl (cA 0, 60, .inl i0)), (f 3, .inl (cA 0, 60, .inl i0)), (f 4, .inl (cA 0, 60, .inl i0))]
theorem zkX1_0 : decode cX1_init 0 = .ok (.aload_n 0, 1) := by decide +kernel
theorem zkX1_1 : decode cX1_init 1 = .ok (.invokespecial 3, 3) := by decide +kernel
theorem zkX1_4 : decode cX1_init 4 = .ok (.aload_n 0, 1) := by decide +kernel
theorem zkX1_5 : decode cX1_init 5 = .ok (.bipush 60, 2) := by decide +kernel
theorem zkX1_7 : decode cX1_init 7 = .ok (.newarray .int, 2) := by decide +kernel
theorem zkX1_9 : decode cX1_init 9 = .ok (.putfield 9, 3) := by decide +kernel
theorem zkX1_12 : decode cX1_init 12 = .ok (.aload_n 0, 1) := by decide +kernel
theorem zkX1_13 : decode cX1_init 13 = .ok (.bipush 60, 2) := by decide +kernel
theorem zkX1_15 : decode cX1_init 15 = .ok (.newarray .int, 2) := by decide +kernel
theorem zkX1_17 : decode cX1_init 17 = .ok (.putfield 15, 3) := by decide +kernel
theorem zkX1_20 : decode cX1_init 20 = .ok (.aload_n 0, 1) := by decide +kernel
theorem zkX1_21 : decode cX1_init 21 = .ok (.bipush 60, 2) := by decide +kernel
theorem zkX1_23 : decode cX1_init 23 = .ok (.newarray .int, 2) := by decide +kernel
theorem zkX1_25 : decode cX1_init 25 = .ok (.putfield 18, 3) := by decide +kernel
theorem zkX1_28 : decode cX1_init 28 = .ok (.aload_n 0, 1) := by decide +kernel
theorem zkX1_29 : decode cX1_init 29 = .ok (.bipush 60, 2) := by decide +kernel
theorem zkX1_31 : decode cX1_init 31 = .ok (.newarray .int, 2) := by decide +kernel
theorem zkX1_33 : decode cX1_init 33 = .ok (.putfield 21, 3) := by decide +kernel
theorem zkX1_36 : decode cX1_init 36 = .ok (.return_, 1) := by decide +kernel
def reaW (cA : Nat → ClassId) (f : Nat → Nat) : va_W := [(f 0, .inr (3, [.ref (f 1), .ref (f 2), .int 0])), (f 1, .inl (cA 0, 3, .inl i0)), (f 2, .inl (cA 0, 3, .inl i0))]
theorem zkX2_0 : decode cX2_init 0 = .ok (.aload_n 0, 1) := by decide +kernel
theorem zkX2_1 : decode cX2_init 1 = .ok (.invokespecial 3, 3) := by decide +kernel
theorem zkX2_4 : decode cX2_init 4 = .ok (.aload_n 0, 1) := by decide +kernel
theorem zkX2_5 : decode cX2_init 5 = .ok (.iconst 3, 1) := by decide +kernel
theorem zkX2_6 : decode cX2_init 6 = .ok (.newarray .int, 2) := by decide +kernel
theorem zkX2_8 : decode cX2_init 8 = .ok (.putfield 9, 3) := by decide +kernel
theorem zkX2_11 : decode cX2_init 11 = .ok (.aload_n 0, 1) := by decide +kernel
theorem zkX2_12 : decode cX2_init 12 = .ok (.iconst 3, 1) := by decide +kernel
theorem zkX2_13 : decode cX2_init 13 = .ok (.newarray .int, 2) := by decide +kernel
theorem zkX2_15 : decode cX2_init 15 = .ok (.putfield 15, 3) := by decide +kernel
theorem zkX2_18 : decode cX2_init 18 = .ok (.return_, 1) := by decide +kernel
def shaW (cA : Nat → ClassId) (f : Nat → Nat) : va_W := [(f 0, .inr (4, [.ref (f 1), .ref (f 2), .ref (f 3)])), (f 1, .inl (cA 0, 6, .inl i0)), (f 2, .inl (cA 0, 6, .inl i0)), (f 3, .inl (cA 0, 6, .inl i0))]
theorem zkX3_0 : decode cX3_init 0 = .ok (.aload_n 0, 1) := by decide +kernel
theorem zkX3_1 : decode cX3_init 1 = .ok (.invokespecial 3, 3) := by decide +kernel
theorem zkX3_4 : decode cX3_init 4 = .ok (.aload_n 0, 1) := by decide +kernel
theorem zkX3_5 : decode cX3_init 5 = .ok (.bipush 6, 2) := by decide +kernel
theorem zkX3_7 : decode cX3_init 7 = .ok (.newarray .int, 2) := by decide +kernel
theorem zkX3_9 : decode cX3_init 9 = .ok (.putfield 9, 3) := by decide +kernel
theorem zkX3_12 : decode cX3_init 12 = .ok (.aload_n 0, 1) := by decide +kernel
theorem zkX3_13 : decode cX3_init 13 = .ok (.bipush 6, 2) := by decide +kernel
theorem zkX3_15 : decode cX3_init 15 = .ok (.newarray .int, 2) := by decide +kernel
theorem zkX3_17 : decode cX3_init 17 = .ok (.putfield 15, 3) := by decide +kernel
theorem zkX3_20 : decode cX3_init 20 = .ok (.aload_n 0, 1) := by decide +kernel
theorem zkX3_21 : decode cX3_init 21 = .ok (.bipush 6, 2) := by decide +kernel
theorem zkX3_23 : decode cX3_init 23 = .ok (.newarray .int, 2) := by decide +kernel
theorem zkX3_25 : decode cX3_init 25 = .ok (.putfield 18, 3) := by decide +kernel
theorem zkX3_28 : decode cX3_init 28 = .ok (.return_, 1) := by decide +kernel
def sbW (cA : Nat → ClassId) (f : Nat → Nat) : va_W := [(f 0, .inr (0, [.ref (f 1), .int 0, .int 0, .int 0])), (f 1, .inl (cA 2, 16, .inl b16))]
theorem zkJ5_0 : decode cJ5_init_d00df 0 = .ok (.aload_n 0, 1) := by decide +kernel
theorem zkJ5_1 : decode cJ5_init_d00df 1 = .ok (.invokespecial 3, 3) := by decide +kernel
theorem zkJ5_4 : decode cJ5_init_d00df 4 = .ok (.getstatic 18, 3) := by decide +kernel
theorem zkJ5_7 : decode cJ5_init_d00df 7 = .ok (.ifCond .eq 18, 3) := by decide +kernel
theorem zkJ5_10 : decode cJ5_init_d00df 10 = .ok (.aload_n 0, 1) := by decide +kernel
theorem zkJ5_11 : decode cJ5_init_d00df 11 = .ok (.iload_n 1, 1) := by decide +kernel
theorem zkJ5_12 : decode cJ5_init_d00df 12 = .ok (.newarray .byte, 2) := by decide +kernel
theorem zkJ5_14 : decode cJ5_init_d00df 14 = .ok (.putfield 15, 3) := by decide +kernel
theorem zkJ5_17 : decode cJ5_init_d00df 17 = .ok (.aload_n 0, 1) := by decide +kernel
theorem zkJ5_18 : decode cJ5_init_d00df 18 = .ok (.iconst 0, 1) := by decide +kernel
theorem zkJ5_19 : decode cJ5_init_d00df 19 = .ok (.putfield 22, 3) := by decide +kernel
theorem zkJ5_22 : decode cJ5_init_d00df 22 = .ok (.goto (16), 3) := by decide +kernel
theorem zkJ5_38 : decode cJ5_init_d00df 38 = .ok (.return_, 1) := by decide +kernel
theorem zkJ4_0 : decode cJ4_init_da8c8 0 = .ok (.aload_n 0, 1) := by decide +kernel
theorem zkJ4_1 : decode cJ4_init_da8c8 1 = .ok (.bipush 16, 2) := by decide +kernel
theorem zkJ4_3 : decode cJ4_init_da8c8 3 = .ok (.invokespecial 1, 3) := by decide +kernel
theorem zkJ4_6 : decode cJ4_init_da8c8 6 = .ok (.return_, 1) := by decide +kernel
theorem zw_lX5_3 : Cond.methodLink RX5 3 objectInit ∈ Tall := atT_in (i := 3040) (by decide +kernel)
theorem zw_fX5_9 : Cond.fieldLink "CandleStatute$Stubs" 9 "CandleStatute$Stubs" "house" "[I" ∈ Tall := atT_in (i := 3041) (by decide +kernel)
theorem zw_fX5_15 : Cond.fieldLink "CandleStatute$Stubs" 15 "CandleStatute$Stubs" "wax" "[I" ∈ Tall := atT_in (i := 3044) (by decide +kernel)
theorem zw_fX5_18 : Cond.fieldLink "CandleStatute$Stubs" 18 "CandleStatute$Stubs" "wick" "[I" ∈ Tall := atT_in (i := 3047) (by decide +kernel)
theorem zw_fX5_21 : Cond.fieldLink "CandleStatute$Stubs" 21 "CandleStatute$Stubs" "creditor" "[I" ∈ Tall := atT_in (i := 3050) (by decide +kernel)
theorem zw_fX5_24 : Cond.fieldLink "CandleStatute$Stubs" 24 "CandleStatute$Stubs" "debt" "[I" ∈ Tall := atT_in (i := 3053) (by decide +kernel)
theorem zw_fX5_27 : Cond.fieldLink "CandleStatute$Stubs" 27 "CandleStatute$Stubs" "snuffer" "[I" ∈ Tall := atT_in (i := 3055) (by decide +kernel)
theorem zw_fX5_30 : Cond.fieldLink "CandleStatute$Stubs" 30 "CandleStatute$Stubs" "snuffed" "[I" ∈ Tall := atT_in (i := 3058) (by decide +kernel)
theorem zw_fX5_33 : Cond.fieldLink "CandleStatute$Stubs" 33 "CandleStatute$Stubs" "gave" "[I" ∈ Tall := atT_in (i := 3060) (by decide +kernel)
theorem zw_lX1_3 : Cond.methodLink RX1 3 objectInit ∈ Tall := atT_in (i := 3177) (by decide +kernel)
theorem zw_fX1_9 : Cond.fieldLink "CandleStatute$Orders" 9 "CandleStatute$Orders" "kinds" "[I" ∈ Tall := atT_in (i := 3178) (by decide +kernel)
theorem zw_fX1_15 : Cond.fieldLink "CandleStatute$Orders" 15 "CandleStatute$Orders" "firsts" "[I" ∈ Tall := atT_in (i := 3180) (by decide +kernel)
theorem zw_fX1_18 : Cond.fieldLink "CandleStatute$Orders" 18 "CandleStatute$Orders" "seconds" "[I" ∈ Tall := atT_in (i := 3182) (by decide +kernel)
theorem zw_fX1_21 : Cond.fieldLink "CandleStatute$Orders" 21 "CandleStatute$Orders" "thirds" "[I" ∈ Tall := atT_in (i := 3184) (by decide +kernel)
theorem zw_lX2_3 : Cond.methodLink RX2 3 objectInit ∈ Tall := atT_in (i := 3158) (by decide +kernel)
theorem zw_fX2_9 : Cond.fieldLink "CandleStatute$Reasons" 9 "CandleStatute$Reasons" "codes" "[I" ∈ Tall := atT_in (i := 3159) (by decide +kernel)
theorem zw_fX2_15 : Cond.fieldLink "CandleStatute$Reasons" 15 "CandleStatute$Reasons" "details" "[I" ∈ Tall := atT_in (i := 3161) (by decide +kernel)
theorem zw_lX3_3 : Cond.methodLink RX3 3 objectInit ∈ Tall := atT_in (i := 3207) (by decide +kernel)
theorem zw_fX3_9 : Cond.fieldLink "CandleStatute$Sharing" 9 "CandleStatute$Sharing" "parts" "[I" ∈ Tall := atT_in (i := 3208) (by decide +kernel)
theorem zw_fX3_15 : Cond.fieldLink "CandleStatute$Sharing" 15 "CandleStatute$Sharing" "pieces" "[I" ∈ Tall := atT_in (i := 3210) (by decide +kernel)
theorem zw_fX3_18 : Cond.fieldLink "CandleStatute$Sharing" 18 "CandleStatute$Sharing" "rests" "[I" ∈ Tall := atT_in (i := 3212) (by decide +kernel)
theorem zw_lJ5_3 : Cond.methodLink RJ5 3 objectInit ∈ Tall := atT_in (i := 3228) (by decide +kernel)
theorem zw_fJ5_18 : Cond.fieldLink "java/lang/AbstractStringBuilder" 18 "java/lang/String" "COMPACT_STRINGS" "Z" ∈ Tall := atT_in (i := 3229) (by decide +kernel)
theorem zw_fJ5_15 : Cond.fieldLink "java/lang/AbstractStringBuilder" 15 "java/lang/AbstractStringBuilder" "value" "[B" ∈ Tall := atT_in (i := 3238) (by decide +kernel)
theorem zw_fJ5_22 : Cond.fieldLink "java/lang/AbstractStringBuilder" 22 "java/lang/AbstractStringBuilder" "coder" "B" ∈ Tall := atT_in (i := 3239) (by decide +kernel)
theorem zw_lJ4_1 : Cond.methodLink RJ4 1 yJ5_init_d00df ∈ Tall := atT_in (i := 3225) (by decide +kernel)
theorem zw_iyJ5_init_d00df : Cond.instanceMethod yJ5_init_d00df ∈ Tall := atT_in (i := 3226) (by decide +kernel)
theorem zw_cyJ5_init_d00df : Cond.code yJ5_init_d00df cJ5_init_d00df 2 none ∈ Tall := atT_in (i := 3227) (by decide +kernel)
theorem zw_nJ5 : Cond.initialized RJ5 ∈ Tall := atT_in (i := 3008) (by decide +kernel)
set_option maxHeartbeats 4000000 in
set_option maxRecDepth 100000 in
theorem ctr_X5 {l : Launch} {G : Gp} {h0 sz : Nat} : Met l yX5_init (Cond.code yX5_init cX5_init 1 none :: Tall) (rmC 1 8 96) (va_Pc [.ref h0] (CP G h0 (.inr (6, [.null, .null, .null, .null, .null, .null, .null, .null, .int 0])) sz)) (CQ G h0 (.inr (6, [.null, .null, .null, .null, .null, .null, .null, .null, .int 0])) sz (stuW G.2.1)) 8 96 (va_A [(h0, .inr (6, [.null, .null, .null, .null, .null, .null, .null, .null, .int 0]))] sz) := by
  refine va_MetF (cc := cX5_init) (maxL := 1) (ret := none) (by decide +kernel) rfl ?_
  intro p env s m args0 below meth c s₁ B hml hv
  obtain ⟨rfl, hsz, hP, hK, hD0, hX⟩ := hv
  have hts := atoms_spec (ws := Cond.code yX5_init cX5_init 1 none :: Tall) B.pre
  have htT := fun w hw => hts w (List.mem_cons_of_mem _ hw)
  have hown : s.vm.findClass RX5 = some m.cls := findClass_of_methodNamed B.named
  have hin : meth.name = "<init>" := (name_of_methodNamed B.named B.method).1
  have hx := B.exec
  have hb := B.bytes
  have hlocks := B.notSynchronized
  subst hsz
  have hD := hD0.self (sz := s.heap.size)
  have hA : ∀ q : Nat, s.heap.size ≤ q → va_A [(h0, .inr (6, [.null, .null, .null, .null, .null, .null, .null, .null, .int 0]))] s.heap.size q := fun q h => Or.inr h
  have hS : va_S (va_A [(h0, .inr (6, [.null, .null, .null, .null, .null, .null, .null, .null, .int 0]))] s.heap.size) s.heap s.heap [] := va_S.rf
  have hl := lv_entry [.ref h0] (n := 1) (Nat.le_of_ble_eq_true rfl)
  rw [lg_entry_eq]
  generalize (lg_sl [.ref h0] ++ List.replicate (1 - (lg_sl [.ref h0]).length) Slot.unset).toArray = ls at hl ⊢
  have hl : lv_has ls 1 [(0, .ref h0)] := hl
  refine lv_aload_n hx hb zkX5_0 rfl (lv_at hl 0 rfl) ?_
  refine W.objInit hx hb hown (htT _ zw_lX5_3) (htT _ zw_oI) (htT _ zw_oC) rfl (by rw [hml]; exact hl.1) rfl zkX5_1 (Nat.le_of_ble_eq_true rfl) (Nat.le_of_ble_eq_true rfl) ?_
  refine W.eq (g2 := F0 m 4 ls []) rfl ?_
  refine lv_aload_n hx hb zkX5_4 rfl (lv_at hl 0 rfl) ?_
  refine lv_bipush hx hb zkX5_5 (v := nI 12) rfl ?_
  refine new_int hx hb htT hK hP hD hS hA (n := 12) (Nat.le_of_ble_eq_true rfl) (Nat.le_of_ble_eq_true rfl) (Nat.le_of_ble_eq_true rfl) zkX5_7 (fun q7 H hP hD hS => ?_)
  have hP : va_P G.1 vwCl ([(h0, .inr (6, [.null, .null, .null, .null, .null, .null, .null, .null, .int 0])), (q7, .inl (G.2.1 0, 12, .inl i0))]) H := hP
  have hD : va_D (va_A [(h0, .inr (6, [.null, .null, .null, .null, .null, .null, .null, .null, .int 0]))] s.heap.size) ([(h0, .inr (6, [.null, .null, .null, .null, .null, .null, .null, .null, .int 0])), (q7, .inl (G.2.1 0, 12, .inl i0))]) := hD
  refine W.cs (cells' := 1) (slots' := 12) (by omega) (by omega) ?_
  refine va_putF (own := RX5) (ref := "CandleStatute$Stubs") (ci := 6) (v := .ref q7) (ty := .array .int) (C := RX5) (T := TX5) (N := 9) hx hb htT uin_X5 tyX5 tyX5_ok nmX5 hown hK hP hD hS 0 rfl rfl 0 (Nat.le_of_ble_eq_true rfl) (htT _ zw_fX5_9) (fun _ h9 => h9) rfl hin rfl (by decide +kernel) rfl rfl (Nat.le_of_ble_eq_true rfl) zkX5_9 (fun H locs hP hD hS => ?_)
  have hP : va_P G.1 vwCl ([(h0, .inr (6, [.ref q7, .null, .null, .null, .null, .null, .null, .null, .int 0])), (q7, .inl (G.2.1 0, 12, .inl i0))]) H := hP
  have hD : va_D (va_A [(h0, .inr (6, [.null, .null, .null, .null, .null, .null, .null, .null, .int 0]))] s.heap.size) ([(h0, .inr (6, [.ref q7, .null, .null, .null, .null, .null, .null, .null, .int 0])), (q7, .inl (G.2.1 0, 12, .inl i0))]) := hD
  refine lv_aload_n hx hb zkX5_12 rfl (lv_at hl 0 rfl) ?_
  refine lv_bipush hx hb zkX5_13 (v := nI 12) rfl ?_
  refine new_int hx hb htT hK hP hD hS hA (n := 12) (Nat.le_of_ble_eq_true rfl) (Nat.le_of_ble_eq_true rfl) (Nat.le_of_ble_eq_true rfl) zkX5_15 (fun q15 H hP hD hS => ?_)
  have hP : va_P G.1 vwCl ([(h0, .inr (6, [.ref q7, .null, .null, .null, .null, .null, .null, .null, .int 0])), (q7, .inl (G.2.1 0, 12, .inl i0)), (q15, .inl (G.2.1 0, 12, .inl i0))]) H := hP
  have hD : va_D (va_A [(h0, .inr (6, [.null, .null, .null, .null, .null, .null, .null, .null, .int 0]))] s.heap.size) ([(h0, .inr (6, [.ref q7, .null, .null, .null, .null, .null, .null, .null, .int 0])), (q7, .inl (G.2.1 0, 12, .inl i0)), (q15, .inl (G.2.1 0, 12, .inl i0))]) := hD
  refine W.cs (cells' := 2) (slots' := 24) (by omega) (by omega) ?_
  refine va_putF (own := RX5) (ref := "CandleStatute$Stubs") (ci := 6) (v := .ref q15) (ty := .array .int) (C := RX5) (T := TX5) (N := 9) hx hb htT uin_X5 tyX5 tyX5_ok nmX5 hown hK hP hD hS 0 rfl rfl 1 (Nat.le_of_ble_eq_true rfl) (htT _ zw_fX5_15) (fun _ h9 => h9) rfl hin rfl (by decide +kernel) rfl rfl (Nat.le_of_ble_eq_true rfl) zkX5_17 (fun H locs hP hD hS => ?_)
  have hP : va_P G.1 vwCl ([(h0, .inr (6, [.ref q7, .ref q15, .null, .null, .null, .null, .null, .null, .int 0])), (q7, .inl (G.2.1 0, 12, .inl i0)), (q15, .inl (G.2.1 0, 12, .inl i0))]) H := hP
  have hD : va_D (va_A [(h0, .inr (6, [.null, .null, .null, .null, .null, .null, .null, .null, .int 0]))] s.heap.size) ([(h0, .inr (6, [.ref q7, .ref q15, .null, .null, .null, .null, .null, .null, .int 0])), (q7, .inl (G.2.1 0, 12, .inl i0)), (q15, .inl (G.2.1 0, 12, .inl i0))]) := hD
  refine lv_aload_n hx hb zkX5_20 rfl (lv_at hl 0 rfl) ?_
  refine lv_bipush hx hb zkX5_21 (v := nI 12) rfl ?_
  refine new_int hx hb htT hK hP hD hS hA (n := 12) (Nat.le_of_ble_eq_true rfl) (Nat.le_of_ble_eq_true rfl) (Nat.le_of_ble_eq_true rfl) zkX5_23 (fun q23 H hP hD hS => ?_)
  have hP : va_P G.1 vwCl ([(h0, .inr (6, [.ref q7, .ref q15, .null, .null, .null, .null, .null, .null, .int 0])), (q7, .inl (G.2.1 0, 12, .inl i0)), (q15, .inl (G.2.1 0, 12, .inl i0)), (q23, .inl (G.2.1 0, 12, .inl i0))]) H := hP
  have hD : va_D (va_A [(h0, .inr (6, [.null, .null, .null, .null, .null, .null, .null, .null, .int 0]))] s.heap.size) ([(h0, .inr (6, [.ref q7, .ref q15, .null, .null, .null, .null, .null, .null, .int 0])), (q7, .inl (G.2.1 0, 12, .inl i0)), (q15, .inl (G.2.1 0, 12, .inl i0)), (q23, .inl (G.2.1 0, 12, .inl i0))]) := hD
  refine W.cs (cells' := 3) (slots' := 36) (by omega) (by omega) ?_
  refine va_putF (own := RX5) (ref := "CandleStatute$Stubs") (ci := 6) (v := .ref q23) (ty := .array .int) (C := RX5) (T := TX5) (N := 9) hx hb htT uin_X5 tyX5 tyX5_ok nmX5 hown hK hP hD hS 0 rfl rfl 2 (Nat.le_of_ble_eq_true rfl) (htT _ zw_fX5_18) (fun _ h9 => h9) rfl hin rfl (by decide +kernel) rfl rfl (Nat.le_of_ble_eq_true rfl) zkX5_25 (fun H locs hP hD hS => ?_)
  have hP : va_P G.1 vwCl ([(h0, .inr (6, [.ref q7, .ref q15, .ref q23, .null, .null, .null, .null, .null, .int 0])), (q7, .inl (G.2.1 0, 12, .inl i0)), (q15, .inl (G.2.1 0, 12, .inl i0)), (q23, .inl (G.2.1 0, 12, .inl i0))]) H := hP
  have hD : va_D (va_A [(h0, .inr (6, [.null, .null, .null, .null, .null, .null, .null, .null, .int 0]))] s.heap.size) ([(h0, .inr (6, [.ref q7, .ref q15, .ref q23, .null, .null, .null, .null, .null, .int 0])), (q7, .inl (G.2.1 0, 12, .inl i0)), (q15, .inl (G.2.1 0, 12, .inl i0)), (q23, .inl (G.2.1 0, 12, .inl i0))]) := hD
  refine lv_aload_n hx hb zkX5_28 rfl (lv_at hl 0 rfl) ?_
  refine lv_bipush hx hb zkX5_29 (v := nI 12) rfl ?_
  refine new_int hx hb htT hK hP hD hS hA (n := 12) (Nat.le_of_ble_eq_true rfl) (Nat.le_of_ble_eq_true rfl) (Nat.le_of_ble_eq_true rfl) zkX5_31 (fun q31 H hP hD hS => ?_)
  have hP : va_P G.1 vwCl ([(h0, .inr (6, [.ref q7, .ref q15, .ref q23, .null, .null, .null, .null, .null, .int 0])), (q7, .inl (G.2.1 0, 12, .inl i0)), (q15, .inl (G.2.1 0, 12, .inl i0)), (q23, .inl (G.2.1 0, 12, .inl i0)), (q31, .inl (G.2.1 0, 12, .inl i0))]) H := hP
  have hD : va_D (va_A [(h0, .inr (6, [.null, .null, .null, .null, .null, .null, .null, .null, .int 0]))] s.heap.size) ([(h0, .inr (6, [.ref q7, .ref q15, .ref q23, .null, .null, .null, .null, .null, .int 0])), (q7, .inl (G.2.1 0, 12, .inl i0)), (q15, .inl (G.2.1 0, 12, .inl i0)), (q23, .inl (G.2.1 0, 12, .inl i0)), (q31, .inl (G.2.1 0, 12, .inl i0))]) := hD
  refine W.cs (cells' := 4) (slots' := 48) (by omega) (by omega) ?_
  refine va_putF (own := RX5) (ref := "CandleStatute$Stubs") (ci := 6) (v := .ref q31) (ty := .array .int) (C := RX5) (T := TX5) (N := 9) hx hb htT uin_X5 tyX5 tyX5_ok nmX5 hown hK hP hD hS 0 rfl rfl 3 (Nat.le_of_ble_eq_true rfl) (htT _ zw_fX5_21) (fun _ h9 => h9) rfl hin rfl (by decide +kernel) rfl rfl (Nat.le_of_ble_eq_true rfl) zkX5_33 (fun H locs hP hD hS => ?_)
  have hP : va_P G.1 vwCl ([(h0, .inr (6, [.ref q7, .ref q15, .ref q23, .ref q31, .null, .null, .null, .null, .int 0])), (q7, .inl (G.2.1 0, 12, .inl i0)), (q15, .inl (G.2.1 0, 12, .inl i0)), (q23, .inl (G.2.1 0, 12, .inl i0)), (q31, .inl (G.2.1 0, 12, .inl i0))]) H := hP
  have hD : va_D (va_A [(h0, .inr (6, [.null, .null, .null, .null, .null, .null, .null, .null, .int 0]))] s.heap.size) ([(h0, .inr (6, [.ref q7, .ref q15, .ref q23, .ref q31, .null, .null, .null, .null, .int 0])), (q7, .inl (G.2.1 0, 12, .inl i0)), (q15, .inl (G.2.1 0, 12, .inl i0)), (q23, .inl (G.2.1 0, 12, .inl i0)), (q31, .inl (G.2.1 0, 12, .inl i0))]) := hD
  refine lv_aload_n hx hb zkX5_36 rfl (lv_at hl 0 rfl) ?_
  refine lv_bipush hx hb zkX5_37 (v := nI 12) rfl ?_
  refine new_int hx hb htT hK hP hD hS hA (n := 12) (Nat.le_of_ble_eq_true rfl) (Nat.le_of_ble_eq_true rfl) (Nat.le_of_ble_eq_true rfl) zkX5_39 (fun q39 H hP hD hS => ?_)
  have hP : va_P G.1 vwCl ([(h0, .inr (6, [.ref q7, .ref q15, .ref q23, .ref q31, .null, .null, .null, .null, .int 0])), (q7, .inl (G.2.1 0, 12, .inl i0)), (q15, .inl (G.2.1 0, 12, .inl i0)), (q23, .inl (G.2.1 0, 12, .inl i0)), (q31, .inl (G.2.1 0, 12, .inl i0)), (q39, .inl (G.2.1 0, 12, .inl i0))]) H := hP
  have hD : va_D (va_A [(h0, .inr (6, [.null, .null, .null, .null, .null, .null, .null, .null, .int 0]))] s.heap.size) ([(h0, .inr (6, [.ref q7, .ref q15, .ref q23, .ref q31, .null, .null, .null, .null, .int 0])), (q7, .inl (G.2.1 0, 12, .inl i0)), (q15, .inl (G.2.1 0, 12, .inl i0)), (q23, .inl (G.2.1 0, 12, .inl i0)), (q31, .inl (G.2.1 0, 12, .inl i0)), (q39, .inl (G.2.1 0, 12, .inl i0))]) := hD
  refine W.cs (cells' := 5) (slots' := 60) (by omega) (by omega) ?_
  refine va_putF (own := RX5) (ref := "CandleStatute$Stubs") (ci := 6) (v := .ref q39) (ty := .array .int) (C := RX5) (T := TX5) (N := 9) hx hb htT uin_X5 tyX5 tyX5_ok nmX5 hown hK hP hD hS 0 rfl rfl 4 (Nat.le_of_ble_eq_true rfl) (htT _ zw_fX5_24) (fun _ h9 => h9) rfl hin rfl (by decide +kernel) rfl rfl (Nat.le_of_ble_eq_true rfl) zkX5_41 (fun H locs hP hD hS => ?_)
  have hP : va_P G.1 vwCl ([(h0, .inr (6, [.ref q7, .ref q15, .ref q23, .ref q31, .ref q39, .null, .null, .null, .int 0])), (q7, .inl (G.2.1 0, 12, .inl i0)), (q15, .inl (G.2.1 0, 12, .inl i0)), (q23, .inl (G.2.1 0, 12, .inl i0)), (q31, .inl (G.2.1 0, 12, .inl i0)), (q39, .inl (G.2.1 0, 12, .inl i0))]) H := hP
  have hD : va_D (va_A [(h0, .inr (6, [.null, .null, .null, .null, .null, .null, .null, .null, .int 0]))] s.heap.size) ([(h0, .inr (6, [.ref q7, .ref q15, .ref q23, .ref q31, .ref q39, .null, .null, .null, .int 0])), (q7, .inl (G.2.1 0, 12, .inl i0)), (q15, .inl (G.2.1 0, 12, .inl i0)), (q23, .inl (G.2.1 0, 12, .inl i0)), (q31, .inl (G.2.1 0, 12, .inl i0)), (q39, .inl (G.2.1 0, 12, .inl i0))]) := hD
  refine lv_aload_n hx hb zkX5_44 rfl (lv_at hl 0 rfl) ?_
  refine lv_bipush hx hb zkX5_45 (v := nI 12) rfl ?_
  refine new_int hx hb htT hK hP hD hS hA (n := 12) (Nat.le_of_ble_eq_true rfl) (Nat.le_of_ble_eq_true rfl) (Nat.le_of_ble_eq_true rfl) zkX5_47 (fun q47 H hP hD hS => ?_)
  have hP : va_P G.1 vwCl ([(h0, .inr (6, [.ref q7, .ref q15, .ref q23, .ref q31, .ref q39, .null, .null, .null, .int 0])), (q7, .inl (G.2.1 0, 12, .inl i0)), (q15, .inl (G.2.1 0, 12, .inl i0)), (q23, .inl (G.2.1 0, 12, .inl i0)), (q31, .inl (G.2.1 0, 12, .inl i0)), (q39, .inl (G.2.1 0, 12, .inl i0)), (q47, .inl (G.2.1 0, 12, .inl i0))]) H := hP
  have hD : va_D (va_A [(h0, .inr (6, [.null, .null, .null, .null, .null, .null, .null, .null, .int 0]))] s.heap.size) ([(h0, .inr (6, [.ref q7, .ref q15, .ref q23, .ref q31, .ref q39, .null, .null, .null, .int 0])), (q7, .inl (G.2.1 0, 12, .inl i0)), (q15, .inl (G.2.1 0, 12, .inl i0)), (q23, .inl (G.2.1 0, 12, .inl i0)), (q31, .inl (G.2.1 0, 12, .inl i0)), (q39, .inl (G.2.1 0, 12, .inl i0)), (q47, .inl (G.2.1 0, 12, .inl i0))]) := hD
  refine W.cs (cells' := 6) (slots' := 72) (by omega) (by omega) ?_
  refine va_putF (own := RX5) (ref := "CandleStatute$Stubs") (ci := 6) (v := .ref q47) (ty := .array .int) (C := RX5) (T := TX5) (N := 9) hx hb htT uin_X5 tyX5 tyX5_ok nmX5 hown hK hP hD hS 0 rfl rfl 5 (Nat.le_of_ble_eq_true rfl) (htT _ zw_fX5_27) (fun _ h9 => h9) rfl hin rfl (by decide +kernel) rfl rfl (Nat.le_of_ble_eq_true rfl) zkX5_49 (fun H locs hP hD hS => ?_)
  have hP : va_P G.1 vwCl ([(h0, .inr (6, [.ref q7, .ref q15, .ref q23, .ref q31, .ref q39, .ref q47, .null, .null, .int 0])), (q7, .inl (G.2.1 0, 12, .inl i0)), (q15, .inl (G.2.1 0, 12, .inl i0)), (q23, .inl (G.2.1 0, 12, .inl i0)), (q31, .inl (G.2.1 0, 12, .inl i0)), (q39, .inl (G.2.1 0, 12, .inl i0)), (q47, .inl (G.2.1 0, 12, .inl i0))]) H := hP
  have hD : va_D (va_A [(h0, .inr (6, [.null, .null, .null, .null, .null, .null, .null, .null, .int 0]))] s.heap.size) ([(h0, .inr (6, [.ref q7, .ref q15, .ref q23, .ref q31, .ref q39, .ref q47, .null, .null, .int 0])), (q7, .inl (G.2.1 0, 12, .inl i0)), (q15, .inl (G.2.1 0, 12, .inl i0)), (q23, .inl (G.2.1 0, 12, .inl i0)), (q31, .inl (G.2.1 0, 12, .inl i0)), (q39, .inl (G.2.1 0, 12, .inl i0)), (q47, .inl (G.2.1 0, 12, .inl i0))]) := hD
  refine lv_aload_n hx hb zkX5_52 rfl (lv_at hl 0 rfl) ?_
  refine lv_bipush hx hb zkX5_53 (v := nI 12) rfl ?_
  refine new_int hx hb htT hK hP hD hS hA (n := 12) (Nat.le_of_ble_eq_true rfl) (Nat.le_of_ble_eq_true rfl) (Nat.le_of_ble_eq_true rfl) zkX5_55 (fun q55 H hP hD hS => ?_)
  have hP : va_P G.1 vwCl ([(h0, .inr (6, [.ref q7, .ref q15, .ref q23, .ref q31, .ref q39, .ref q47, .null, .null, .int 0])), (q7, .inl (G.2.1 0, 12, .inl i0)), (q15, .inl (G.2.1 0, 12, .inl i0)), (q23, .inl (G.2.1 0, 12, .inl i0)), (q31, .inl (G.2.1 0, 12, .inl i0)), (q39, .inl (G.2.1 0, 12, .inl i0)), (q47, .inl (G.2.1 0, 12, .inl i0)), (q55, .inl (G.2.1 0, 12, .inl i0))]) H := hP
  have hD : va_D (va_A [(h0, .inr (6, [.null, .null, .null, .null, .null, .null, .null, .null, .int 0]))] s.heap.size) ([(h0, .inr (6, [.ref q7, .ref q15, .ref q23, .ref q31, .ref q39, .ref q47, .null, .null, .int 0])), (q7, .inl (G.2.1 0, 12, .inl i0)), (q15, .inl (G.2.1 0, 12, .inl i0)), (q23, .inl (G.2.1 0, 12, .inl i0)), (q31, .inl (G.2.1 0, 12, .inl i0)), (q39, .inl (G.2.1 0, 12, .inl i0)), (q47, .inl (G.2.1 0, 12, .inl i0)), (q55, .inl (G.2.1 0, 12, .inl i0))]) := hD
  refine W.cs (cells' := 7) (slots' := 84) (by omega) (by omega) ?_
  refine va_putF (own := RX5) (ref := "CandleStatute$Stubs") (ci := 6) (v := .ref q55) (ty := .array .int) (C := RX5) (T := TX5) (N := 9) hx hb htT uin_X5 tyX5 tyX5_ok nmX5 hown hK hP hD hS 0 rfl rfl 6 (Nat.le_of_ble_eq_true rfl) (htT _ zw_fX5_30) (fun _ h9 => h9) rfl hin rfl (by decide +kernel) rfl rfl (Nat.le_of_ble_eq_true rfl) zkX5_57 (fun H locs hP hD hS => ?_)
  have hP : va_P G.1 vwCl ([(h0, .inr (6, [.ref q7, .ref q15, .ref q23, .ref q31, .ref q39, .ref q47, .ref q55, .null, .int 0])), (q7, .inl (G.2.1 0, 12, .inl i0)), (q15, .inl (G.2.1 0, 12, .inl i0)), (q23, .inl (G.2.1 0, 12, .inl i0)), (q31, .inl (G.2.1 0, 12, .inl i0)), (q39, .inl (G.2.1 0, 12, .inl i0)), (q47, .inl (G.2.1 0, 12, .inl i0)), (q55, .inl (G.2.1 0, 12, .inl i0))]) H := hP
  have hD : va_D (va_A [(h0, .inr (6, [.null, .null, .null, .null, .null, .null, .null, .null, .int 0]))] s.heap.size) ([(h0, .inr (6, [.ref q7, .ref q15, .ref q23, .ref q31, .ref q39, .ref q47, .ref q55, .null, .int 0])), (q7, .inl (G.2.1 0, 12, .inl i0)), (q15, .inl (G.2.1 0, 12, .inl i0)), (q23, .inl (G.2.1 0, 12, .inl i0)), (q31, .inl (G.2.1 0, 12, .inl i0)), (q39, .inl (G.2.1 0, 12, .inl i0)), (q47, .inl (G.2.1 0, 12, .inl i0)), (q55, .inl (G.2.1 0, 12, .inl i0))]) := hD
  refine lv_aload_n hx hb zkX5_60 rfl (lv_at hl 0 rfl) ?_
  refine lv_bipush hx hb zkX5_61 (v := nI 12) rfl ?_
  refine new_int hx hb htT hK hP hD hS hA (n := 12) (Nat.le_of_ble_eq_true rfl) (Nat.le_of_ble_eq_true rfl) (Nat.le_of_ble_eq_true rfl) zkX5_63 (fun q63 H hP hD hS => ?_)
  have hP : va_P G.1 vwCl ([(h0, .inr (6, [.ref q7, .ref q15, .ref q23, .ref q31, .ref q39, .ref q47, .ref q55, .null, .int 0])), (q7, .inl (G.2.1 0, 12, .inl i0)), (q15, .inl (G.2.1 0, 12, .inl i0)), (q23, .inl (G.2.1 0, 12, .inl i0)), (q31, .inl (G.2.1 0, 12, .inl i0)), (q39, .inl (G.2.1 0, 12, .inl i0)), (q47, .inl (G.2.1 0, 12, .inl i0)), (q55, .inl (G.2.1 0, 12, .inl i0)), (q63, .inl (G.2.1 0, 12, .inl i0))]) H := hP
  have hD : va_D (va_A [(h0, .inr (6, [.null, .null, .null, .null, .null, .null, .null, .null, .int 0]))] s.heap.size) ([(h0, .inr (6, [.ref q7, .ref q15, .ref q23, .ref q31, .ref q39, .ref q47, .ref q55, .null, .int 0])), (q7, .inl (G.2.1 0, 12, .inl i0)), (q15, .inl (G.2.1 0, 12, .inl i0)), (q23, .inl (G.2.1 0, 12, .inl i0)), (q31, .inl (G.2.1 0, 12, .inl i0)), (q39, .inl (G.2.1 0, 12, .inl i0)), (q47, .inl (G.2.1 0, 12, .inl i0)), (q55, .inl (G.2.1 0, 12, .inl i0)), (q63, .inl (G.2.1 0, 12, .inl i0))]) := hD
  refine W.cs (cells' := 8) (slots' := 96) (by omega) (by omega) ?_
  refine va_putF (own := RX5) (ref := "CandleStatute$Stubs") (ci := 6) (v := .ref q63) (ty := .array .int) (C := RX5) (T := TX5) (N := 9) hx hb htT uin_X5 tyX5 tyX5_ok nmX5 hown hK hP hD hS 0 rfl rfl 7 (Nat.le_of_ble_eq_true rfl) (htT _ zw_fX5_33) (fun _ h9 => h9) rfl hin rfl (by decide +kernel) rfl rfl (Nat.le_of_ble_eq_true rfl) zkX5_65 (fun H locs hP hD hS => ?_)
  have hP : va_P G.1 vwCl ([(h0, .inr (6, [.ref q7, .ref q15, .ref q23, .ref q31, .ref q39, .ref q47, .ref q55, .ref q63, .int 0])), (q7, .inl (G.2.1 0, 12, .inl i0)), (q15, .inl (G.2.1 0, 12, .inl i0)), (q23, .inl (G.2.1 0, 12, .inl i0)), (q31, .inl (G.2.1 0, 12, .inl i0)), (q39, .inl (G.2.1 0, 12, .inl i0)), (q47, .inl (G.2.1 0, 12, .inl i0)), (q55, .inl (G.2.1 0, 12, .inl i0)), (q63, .inl (G.2.1 0, 12, .inl i0))]) H := hP
  have hD : va_D (va_A [(h0, .inr (6, [.null, .null, .null, .null, .null, .null, .null, .null, .int 0]))] s.heap.size) ([(h0, .inr (6, [.ref q7, .ref q15, .ref q23, .ref q31, .ref q39, .ref q47, .ref q55, .ref q63, .int 0])), (q7, .inl (G.2.1 0, 12, .inl i0)), (q15, .inl (G.2.1 0, 12, .inl i0)), (q23, .inl (G.2.1 0, 12, .inl i0)), (q31, .inl (G.2.1 0, 12, .inl i0)), (q39, .inl (G.2.1 0, 12, .inl i0)), (q47, .inl (G.2.1 0, 12, .inl i0)), (q55, .inl (G.2.1 0, 12, .inl i0)), (q63, .inl (G.2.1 0, 12, .inl i0))]) := hD
  exact W.vret hx hb B.returns (fun t ht hW => ⟨⟨_, rfl, rfl, (fun j => [h0, q7, q15, q23, q31, q39, q47, q55, q63].getD j 0), rfl, by rw [ht]; exact hP, hD⟩, hS.F ht⟩) hS.2.2 zkX5_68 hlocks
set_option maxHeartbeats 4000000 in
set_option maxRecDepth 100000 in
theorem ctr_X1 {l : Launch} {G : Gp} {h0 sz : Nat} : Met l yX1_init (Cond.code yX1_init cX1_init 1 none :: Tall) (rmC 1 4 240) (va_Pc [.ref h0] (CP G h0 (.inr (2, [.null, .null, .null, .null, .int 0, .int 0])) sz)) (CQ G h0 (.inr (2, [.null, .null, .null, .null, .int 0, .int 0])) sz (ordW G.2.1)) 4 240 (va_A [(h0, .inr (2, [.null, .null, .null, .null, .int 0, .int 0]))] sz) := by
  refine va_MetF (cc := cX1_init) (maxL := 1) (ret := none) (by decide +kernel) rfl ?_
  intro p env s m args0 below meth c s₁ B hml hv
  obtain ⟨rfl, hsz, hP, hK, hD0, hX⟩ := hv
  have hts := atoms_spec (ws := Cond.code yX1_init cX1_init 1 none :: Tall) B.pre
  have htT := fun w hw => hts w (List.mem_cons_of_mem _ hw)
  have hown : s.vm.findClass RX1 = some m.cls := findClass_of_methodNamed B.named
  have hin : meth.name = "<init>" := (name_of_methodNamed B.named B.method).1
  have hx := B.exec
  have hb := B.bytes
  have hlocks := B.notSynchronized
  subst hsz
  have hD := hD0.self (sz := s.heap.size)
  have hA : ∀ q : Nat, s.heap.size ≤ q → va_A [(h0, .inr (2, [.null, .null, .null, .null, .int 0, .int 0]))] s.heap.size q := fun q h => Or.inr h
  have hS : va_S (va_A [(h0, .inr (2, [.null, .null, .null, .null, .int 0, .int 0]))] s.heap.size) s.heap s.heap [] := va_S.rf
  have hl := lv_entry [.ref h0] (n := 1) (Nat.le_of_ble_eq_true rfl)
  rw [lg_entry_eq]
  generalize (lg_sl [.ref h0] ++ List.replicate (1 - (lg_sl [.ref h0]).length) Slot.unset).toArray = ls at hl ⊢
  have hl : lv_has ls 1 [(0, .ref h0)] := hl
  refine lv_aload_n hx hb zkX1_0 rfl (lv_at hl 0 rfl) ?_
  refine W.objInit hx hb hown (htT _ zw_lX1_3) (htT _ zw_oI) (htT _ zw_oC) rfl (by rw [hml]; exact hl.1) rfl zkX1_1 (Nat.le_of_ble_eq_true rfl) (Nat.le_of_ble_eq_true rfl) ?_
  refine W.eq (g2 := F0 m 4 ls []) rfl ?_
  refine lv_aload_n hx hb zkX1_4 rfl (lv_at hl 0 rfl) ?_
  refine lv_bipush hx hb zkX1_5 (v := nI 60) rfl ?_
  refine new_int hx hb htT hK hP hD hS hA (n := 60) (Nat.le_of_ble_eq_true rfl) (Nat.le_of_ble_eq_true rfl) (Nat.le_of_ble_eq_true rfl) zkX1_7 (fun q7 H hP hD hS => ?_)
  have hP : va_P G.1 vwCl ([(h0, .inr (2, [.null, .null, .null, .null, .int 0, .int 0])), (q7, .inl (G.2.1 0, 60, .inl i0))]) H := hP
  have hD : va_D (va_A [(h0, .inr (2, [.null, .null, .null, .null, .int 0, .int 0]))] s.heap.size) ([(h0, .inr (2, [.null, .null, .null, .null, .int 0, .int 0])), (q7, .inl (G.2.1 0, 60, .inl i0))]) := hD
  refine W.cs (cells' := 1) (slots' := 60) (by omega) (by omega) ?_
  refine va_putF (own := RX1) (ref := "CandleStatute$Orders") (ci := 2) (v := .ref q7) (ty := .array .int) (C := RX1) (T := TX1) (N := 6) hx hb htT uin_X1 tyX1 tyX1_ok nmX1 hown hK hP hD hS 0 rfl rfl 0 (Nat.le_of_ble_eq_true rfl) (htT _ zw_fX1_9) (fun _ h9 => h9) rfl hin rfl (by decide +kernel) rfl rfl (Nat.le_of_ble_eq_true rfl) zkX1_9 (fun H locs hP hD hS => ?_)
  have hP : va_P G.1 vwCl ([(h0, .inr (2, [.ref q7, .null, .null, .null, .int 0, .int 0])), (q7, .inl (G.2.1 0, 60, .inl i0))]) H := hP
  have hD : va_D (va_A [(h0, .inr (2, [.null, .null, .null, .null, .int 0, .int 0]))] s.heap.size) ([(h0, .inr (2, [.ref q7, .null, .null, .null, .int 0, .int 0])), (q7, .inl (G.2.1 0, 60, .inl i0))]) := hD
  refine lv_aload_n hx hb zkX1_12 rfl (lv_at hl 0 rfl) ?_
  refine lv_bipush hx hb zkX1_13 (v := nI 60) rfl ?_
  refine new_int hx hb htT hK hP hD hS hA (n := 60) (Nat.le_of_ble_eq_true rfl) (Nat.le_of_ble_eq_true rfl) (Nat.le_of_ble_eq_true rfl) zkX1_15 (fun q15 H hP hD hS => ?_)
  have hP : va_P G.1 vwCl ([(h0, .inr (2, [.ref q7, .null, .null, .null, .int 0, .int 0])), (q7, .inl (G.2.1 0, 60, .inl i0)), (q15, .inl (G.2.1 0, 60, .inl i0))]) H := hP
  have hD : va_D (va_A [(h0, .inr (2, [.null, .null, .null, .null, .int 0, .int 0]))] s.heap.size) ([(h0, .inr (2, [.ref q7, .null, .null, .null, .int 0, .int 0])), (q7, .inl (G.2.1 0, 60, .inl i0)), (q15, .inl (G.2.1 0, 60, .inl i0))]) := hD
  refine W.cs (cells' := 2) (slots' := 120) (by omega) (by omega) ?_
  refine va_putF (own := RX1) (ref := "CandleStatute$Orders") (ci := 2) (v := .ref q15) (ty := .array .int) (C := RX1) (T := TX1) (N := 6) hx hb htT uin_X1 tyX1 tyX1_ok nmX1 hown hK hP hD hS 0 rfl rfl 1 (Nat.le_of_ble_eq_true rfl) (htT _ zw_fX1_15) (fun _ h9 => h9) rfl hin rfl (by decide +kernel) rfl rfl (Nat.le_of_ble_eq_true rfl) zkX1_17 (fun H locs hP hD hS => ?_)
  have hP : va_P G.1 vwCl ([(h0, .inr (2, [.ref q7, .ref q15, .null, .null, .int 0, .int 0])), (q7, .inl (G.2.1 0, 60, .inl i0)), (q15, .inl (G.2.1 0, 60, .inl i0))]) H := hP
  have hD : va_D (va_A [(h0, .inr (2, [.null, .null, .null, .null, .int 0, .int 0]))] s.heap.size) ([(h0, .inr (2, [.ref q7, .ref q15, .null, .null, .int 0, .int 0])), (q7, .inl (G.2.1 0, 60, .inl i0)), (q15, .inl (G.2.1 0, 60, .inl i0))]) := hD
  refine lv_aload_n hx hb zkX1_20 rfl (lv_at hl 0 rfl) ?_
  refine lv_bipush hx hb zkX1_21 (v := nI 60) rfl ?_
  refine new_int hx hb htT hK hP hD hS hA (n := 60) (Nat.le_of_ble_eq_true rfl) (Nat.le_of_ble_eq_true rfl) (Nat.le_of_ble_eq_true rfl) zkX1_23 (fun q23 H hP hD hS => ?_)
  have hP : va_P G.1 vwCl ([(h0, .inr (2, [.ref q7, .ref q15, .null, .null, .int 0, .int 0])), (q7, .inl (G.2.1 0, 60, .inl i0)), (q15, .inl (G.2.1 0, 60, .inl i0)), (q23, .inl (G.2.1 0, 60, .inl i0))]) H := hP
  have hD : va_D (va_A [(h0, .inr (2, [.null, .null, .null, .null, .int 0, .int 0]))] s.heap.size) ([(h0, .inr (2, [.ref q7, .ref q15, .null, .null, .int 0, .int 0])), (q7, .inl (G.2.1 0, 60, .inl i0)), (q15, .inl (G.2.1 0, 60, .inl i0)), (q23, .inl (G.2.1 0, 60, .inl i0))]) := hD
  refine W.cs (cells' := 3) (slots' := 180) (by omega) (by omega) ?_
  refine va_putF (own := RX1) (ref := "CandleStatute$Orders") (ci := 2) (v := .ref q23) (ty := .array .int) (C := RX1) (T := TX1) (N := 6) hx hb htT uin_X1 tyX1 tyX1_ok nmX1 hown hK hP hD hS 0 rfl rfl 2 (Nat.le_of_ble_eq_true rfl) (htT _ zw_fX1_18) (fun _ h9 => h9) rfl hin rfl (by decide +kernel) rfl rfl (Nat.le_of_ble_eq_true rfl) zkX1_25 (fun H locs hP hD hS => ?_)
  have hP : va_P G.1 vwCl ([(h0, .inr (2, [.ref q7, .ref q15, .ref q23, .null, .int 0, .int 0])), (q7, .inl (G.2.1 0, 60, .inl i0)), (q15, .inl (G.2.1 0, 60, .inl i0)), (q23, .inl (G.2.1 0, 60, .inl i0))]) H := hP
  have hD : va_D (va_A [(h0, .inr (2, [.null, .null, .null, .null, .int 0, .int 0]))] s.heap.size) ([(h0, .inr (2, [.ref q7, .ref q15, .ref q23, .null, .int 0, .int 0])), (q7, .inl (G.2.1 0, 60, .inl i0)), (q15, .inl (G.2.1 0, 60, .inl i0)), (q23, .inl (G.2.1 0, 60, .inl i0))]) := hD
  refine lv_aload_n hx hb zkX1_28 rfl (lv_at hl 0 rfl) ?_
  refine lv_bipush hx hb zkX1_29 (v := nI 60) rfl ?_
  refine new_int hx hb htT hK hP hD hS hA (n := 60) (Nat.le_of_ble_eq_true rfl) (Nat.le_of_ble_eq_true rfl) (Nat.le_of_ble_eq_true rfl) zkX1_31 (fun q31 H hP hD hS => ?_)
  have hP : va_P G.1 vwCl ([(h0, .inr (2, [.ref q7, .ref q15, .ref q23, .null, .int 0, .int 0])), (q7, .inl (G.2.1 0, 60, .inl i0)), (q15, .inl (G.2.1 0, 60, .inl i0)), (q23, .inl (G.2.1 0, 60, .inl i0)), (q31, .inl (G.2.1 0, 60, .inl i0))]) H := hP
  have hD : va_D (va_A [(h0, .inr (2, [.null, .null, .null, .null, .int 0, .int 0]))] s.heap.size) ([(h0, .inr (2, [.ref q7, .ref q15, .ref q23, .null, .int 0, .int 0])), (q7, .inl (G.2.1 0, 60, .inl i0)), (q15, .inl (G.2.1 0, 60, .inl i0)), (q23, .inl (G.2.1 0, 60, .inl i0)), (q31, .inl (G.2.1 0, 60, .inl i0))]) := hD
  refine W.cs (cells' := 4) (slots' := 240) (by omega) (by omega) ?_
  refine va_putF (own := RX1) (ref := "CandleStatute$Orders") (ci := 2) (v := .ref q31) (ty := .array .int) (C := RX1) (T := TX1) (N := 6) hx hb htT uin_X1 tyX1 tyX1_ok nmX1 hown hK hP hD hS 0 rfl rfl 3 (Nat.le_of_ble_eq_true rfl) (htT _ zw_fX1_21) (fun _ h9 => h9) rfl hin rfl (by decide +kernel) rfl rfl (Nat.le_of_ble_eq_true rfl) zkX1_33 (fun H locs hP hD hS => ?_)
  have hP : va_P G.1 vwCl ([(h0, .inr (2, [.ref q7, .ref q15, .ref q23, .ref q31, .int 0, .int 0])), (q7, .inl (G.2.1 0, 60, .inl i0)), (q15, .inl (G.2.1 0, 60, .inl i0)), (q23, .inl (G.2.1 0, 60, .inl i0)), (q31, .inl (G.2.1 0, 60, .inl i0))]) H := hP
  have hD : va_D (va_A [(h0, .inr (2, [.null, .null, .null, .null, .int 0, .int 0]))] s.heap.size) ([(h0, .inr (2, [.ref q7, .ref q15, .ref q23, .ref q31, .int 0, .int 0])), (q7, .inl (G.2.1 0, 60, .inl i0)), (q15, .inl (G.2.1 0, 60, .inl i0)), (q23, .inl (G.2.1 0, 60, .inl i0)), (q31, .inl (G.2.1 0, 60, .inl i0))]) := hD
  exact W.vret hx hb B.returns (fun t ht hW => ⟨⟨_, rfl, rfl, (fun j => [h0, q7, q15, q23, q31].getD j 0), rfl, by rw [ht]; exact hP, hD⟩, hS.F ht⟩) hS.2.2 zkX1_36 hlocks
set_option maxHeartbeats 4000000 in
set_option maxRecDepth 100000 in
theorem ctr_X2 {l : Launch} {G : Gp} {h0 sz : Nat} : Met l yX2_init (Cond.code yX2_init cX2_init 1 none :: Tall) (rmC 1 2 6) (va_Pc [.ref h0] (CP G h0 (.inr (3, [.null, .null, .int 0])) sz)) (CQ G h0 (.inr (3, [.null, .null, .int 0])) sz (reaW G.2.1)) 2 6 (va_A [(h0, .inr (3, [.null, .null, .int 0]))] sz) := by
  refine va_MetF (cc := cX2_init) (maxL := 1) (ret := none) (by decide +kernel) rfl ?_
  intro p env s m args0 below meth c s₁ B hml hv
  obtain ⟨rfl, hsz, hP, hK, hD0, hX⟩ := hv
  have hts := atoms_spec (ws := Cond.code yX2_init cX2_init 1 none :: Tall) B.pre
  have htT := fun w hw => hts w (List.mem_cons_of_mem _ hw)
  have hown : s.vm.findClass RX2 = some m.cls := findClass_of_methodNamed B.named
  have hin : meth.name = "<init>" := (name_of_methodNamed B.named B.method).1
  have hx := B.exec
  have hb := B.bytes
  have hlocks := B.notSynchronized
  subst hsz
  have hD := hD0.self (sz := s.heap.size)
  have hA : ∀ q : Nat, s.heap.size ≤ q → va_A [(h0, .inr (3, [.null, .null, .int 0]))] s.heap.size q := fun q h => Or.inr h
  have hS : va_S (va_A [(h0, .inr (3, [.null, .null, .int 0]))] s.heap.size) s.heap s.heap [] := va_S.rf
  have hl := lv_entry [.ref h0] (n := 1) (Nat.le_of_ble_eq_true rfl)
  rw [lg_entry_eq]
  generalize (lg_sl [.ref h0] ++ List.replicate (1 - (lg_sl [.ref h0]).length) Slot.unset).toArray = ls at hl ⊢
  have hl : lv_has ls 1 [(0, .ref h0)] := hl
  refine lv_aload_n hx hb zkX2_0 rfl (lv_at hl 0 rfl) ?_
  refine W.objInit hx hb hown (htT _ zw_lX2_3) (htT _ zw_oI) (htT _ zw_oC) rfl (by rw [hml]; exact hl.1) rfl zkX2_1 (Nat.le_of_ble_eq_true rfl) (Nat.le_of_ble_eq_true rfl) ?_
  refine W.eq (g2 := F0 m 4 ls []) rfl ?_
  refine lv_aload_n hx hb zkX2_4 rfl (lv_at hl 0 rfl) ?_
  refine lv_iconst hx hb zkX2_5 (v := nI 3) rfl ?_
  refine new_int hx hb htT hK hP hD hS hA (n := 3) (Nat.le_of_ble_eq_true rfl) (Nat.le_of_ble_eq_true rfl) (Nat.le_of_ble_eq_true rfl) zkX2_6 (fun q6 H hP hD hS => ?_)
  have hP : va_P G.1 vwCl ([(h0, .inr (3, [.null, .null, .int 0])), (q6, .inl (G.2.1 0, 3, .inl i0))]) H := hP
  have hD : va_D (va_A [(h0, .inr (3, [.null, .null, .int 0]))] s.heap.size) ([(h0, .inr (3, [.null, .null, .int 0])), (q6, .inl (G.2.1 0, 3, .inl i0))]) := hD
  refine W.cs (cells' := 1) (slots' := 3) (by omega) (by omega) ?_
  refine va_putF (own := RX2) (ref := "CandleStatute$Reasons") (ci := 3) (v := .ref q6) (ty := .array .int) (C := RX2) (T := TX2) (N := 3) hx hb htT uin_X2 tyX2 tyX2_ok nmX2 hown hK hP hD hS 0 rfl rfl 0 (Nat.le_of_ble_eq_true rfl) (htT _ zw_fX2_9) (fun _ h9 => h9) rfl hin rfl (by decide +kernel) rfl rfl (Nat.le_of_ble_eq_true rfl) zkX2_8 (fun H locs hP hD hS => ?_)
  have hP : va_P G.1 vwCl ([(h0, .inr (3, [.ref q6, .null, .int 0])), (q6, .inl (G.2.1 0, 3, .inl i0))]) H := hP
  have hD : va_D (va_A [(h0, .inr (3, [.null, .null, .int 0]))] s.heap.size) ([(h0, .inr (3, [.ref q6, .null, .int 0])), (q6, .inl (G.2.1 0, 3, .inl i0))]) := hD
  refine lv_aload_n hx hb zkX2_11 rfl (lv_at hl 0 rfl) ?_
  refine lv_iconst hx hb zkX2_12 (v := nI 3) rfl ?_
  refine new_int hx hb htT hK hP hD hS hA (n := 3) (Nat.le_of_ble_eq_true rfl) (Nat.le_of_ble_eq_true rfl) (Nat.le_of_ble_eq_true rfl) zkX2_13 (fun q13 H hP hD hS => ?_)
  have hP : va_P G.1 vwCl ([(h0, .inr (3, [.ref q6, .null, .int 0])), (q6, .inl (G.2.1 0, 3, .inl i0)), (q13, .inl (G.2.1 0, 3, .inl i0))]) H := hP
  have hD : va_D (va_A [(h0, .inr (3, [.null, .null, .int 0]))] s.heap.size) ([(h0, .inr (3, [.ref q6, .null, .int 0])), (q6, .inl (G.2.1 0, 3, .inl i0)), (q13, .inl (G.2.1 0, 3, .inl i0))]) := hD
  refine W.cs (cells' := 2) (slots' := 6) (by omega) (by omega) ?_
  refine va_putF (own := RX2) (ref := "CandleStatute$Reasons") (ci := 3) (v := .ref q13) (ty := .array .int) (C := RX2) (T := TX2) (N := 3) hx hb htT uin_X2 tyX2 tyX2_ok nmX2 hown hK hP hD hS 0 rfl rfl 1 (Nat.le_of_ble_eq_true rfl) (htT _ zw_fX2_15) (fun _ h9 => h9) rfl hin rfl (by decide +kernel) rfl rfl (Nat.le_of_ble_eq_true rfl) zkX2_15 (fun H locs hP hD hS => ?_)
  have hP : va_P G.1 vwCl ([(h0, .inr (3, [.ref q6, .ref q13, .int 0])), (q6, .inl (G.2.1 0, 3, .inl i0)), (q13, .inl (G.2.1 0, 3, .inl i0))]) H := hP
  have hD : va_D (va_A [(h0, .inr (3, [.null, .null, .int 0]))] s.heap.size) ([(h0, .inr (3, [.ref q6, .ref q13, .int 0])), (q6, .inl (G.2.1 0, 3, .inl i0)), (q13, .inl (G.2.1 0, 3, .inl i0))]) := hD
  exact W.vret hx hb B.returns (fun t ht hW => ⟨⟨_, rfl, rfl, (fun j => [h0, q6, q13].getD j 0), rfl, by rw [ht]; exact hP, hD⟩, hS.F ht⟩) hS.2.2 zkX2_18 hlocks
set_option maxHeartbeats 4000000 in
set_option maxRecDepth 100000 in
theorem ctr_X3 {l : Launch} {G : Gp} {h0 sz : Nat} : Met l yX3_init (Cond.code yX3_init cX3_init 1 none :: Tall) (rmC 1 3 18) (va_Pc [.ref h0] (CP G h0 (.inr (4, [.null, .null, .null])) sz)) (CQ G h0 (.inr (4, [.null, .null, .null])) sz (shaW G.2.1)) 3 18 (va_A [(h0, .inr (4, [.null, .null, .null]))] sz) := by
  refine va_MetF (cc := cX3_init) (maxL := 1) (ret := none) (by decide +kernel) rfl ?_
  intro p env s m args0 below meth c s₁ B hml hv
  obtain ⟨rfl, hsz, hP, hK, hD0, hX⟩ := hv
  have hts := atoms_spec (ws := Cond.code yX3_init cX3_init 1 none :: Tall) B.pre
  have htT := fun w hw => hts w (List.mem_cons_of_mem _ hw)
  have hown : s.vm.findClass RX3 = some m.cls := findClass_of_methodNamed B.named
  have hin : meth.name = "<init>" := (name_of_methodNamed B.named B.method).1
  have hx := B.exec
  have hb := B.bytes
  have hlocks := B.notSynchronized
  subst hsz
  have hD := hD0.self (sz := s.heap.size)
  have hA : ∀ q : Nat, s.heap.size ≤ q → va_A [(h0, .inr (4, [.null, .null, .null]))] s.heap.size q := fun q h => Or.inr h
  have hS : va_S (va_A [(h0, .inr (4, [.null, .null, .null]))] s.heap.size) s.heap s.heap [] := va_S.rf
  have hl := lv_entry [.ref h0] (n := 1) (Nat.le_of_ble_eq_true rfl)
  rw [lg_entry_eq]
  generalize (lg_sl [.ref h0] ++ List.replicate (1 - (lg_sl [.ref h0]).length) Slot.unset).toArray = ls at hl ⊢
  have hl : lv_has ls 1 [(0, .ref h0)] := hl
  refine lv_aload_n hx hb zkX3_0 rfl (lv_at hl 0 rfl) ?_
  refine W.objInit hx hb hown (htT _ zw_lX3_3) (htT _ zw_oI) (htT _ zw_oC) rfl (by rw [hml]; exact hl.1) rfl zkX3_1 (Nat.le_of_ble_eq_true rfl) (Nat.le_of_ble_eq_true rfl) ?_
  refine W.eq (g2 := F0 m 4 ls []) rfl ?_
  refine lv_aload_n hx hb zkX3_4 rfl (lv_at hl 0 rfl) ?_
  refine lv_bipush hx hb zkX3_5 (v := nI 6) rfl ?_
  refine new_int hx hb htT hK hP hD hS hA (n := 6) (Nat.le_of_ble_eq_true rfl) (Nat.le_of_ble_eq_true rfl) (Nat.le_of_ble_eq_true rfl) zkX3_7 (fun q7 H hP hD hS => ?_)
  have hP : va_P G.1 vwCl ([(h0, .inr (4, [.null, .null, .null])), (q7, .inl (G.2.1 0, 6, .inl i0))]) H := hP
  have hD : va_D (va_A [(h0, .inr (4, [.null, .null, .null]))] s.heap.size) ([(h0, .inr (4, [.null, .null, .null])), (q7, .inl (G.2.1 0, 6, .inl i0))]) := hD
  refine W.cs (cells' := 1) (slots' := 6) (by omega) (by omega) ?_
  refine va_putF (own := RX3) (ref := "CandleStatute$Sharing") (ci := 4) (v := .ref q7) (ty := .array .int) (C := RX3) (T := TX3) (N := 3) hx hb htT uin_X3 tyX3 tyX3_ok nmX3 hown hK hP hD hS 0 rfl rfl 0 (Nat.le_of_ble_eq_true rfl) (htT _ zw_fX3_9) (fun _ h9 => h9) rfl hin rfl (by decide +kernel) rfl rfl (Nat.le_of_ble_eq_true rfl) zkX3_9 (fun H locs hP hD hS => ?_)
  have hP : va_P G.1 vwCl ([(h0, .inr (4, [.ref q7, .null, .null])), (q7, .inl (G.2.1 0, 6, .inl i0))]) H := hP
  have hD : va_D (va_A [(h0, .inr (4, [.null, .null, .null]))] s.heap.size) ([(h0, .inr (4, [.ref q7, .null, .null])), (q7, .inl (G.2.1 0, 6, .inl i0))]) := hD
  refine lv_aload_n hx hb zkX3_12 rfl (lv_at hl 0 rfl) ?_
  refine lv_bipush hx hb zkX3_13 (v := nI 6) rfl ?_
  refine new_int hx hb htT hK hP hD hS hA (n := 6) (Nat.le_of_ble_eq_true rfl) (Nat.le_of_ble_eq_true rfl) (Nat.le_of_ble_eq_true rfl) zkX3_15 (fun q15 H hP hD hS => ?_)
  have hP : va_P G.1 vwCl ([(h0, .inr (4, [.ref q7, .null, .null])), (q7, .inl (G.2.1 0, 6, .inl i0)), (q15, .inl (G.2.1 0, 6, .inl i0))]) H := hP
  have hD : va_D (va_A [(h0, .inr (4, [.null, .null, .null]))] s.heap.size) ([(h0, .inr (4, [.ref q7, .null, .null])), (q7, .inl (G.2.1 0, 6, .inl i0)), (q15, .inl (G.2.1 0, 6, .inl i0))]) := hD
  refine W.cs (cells' := 2) (slots' := 12) (by omega) (by omega) ?_
  refine va_putF (own := RX3) (ref := "CandleStatute$Sharing") (ci := 4) (v := .ref q15) (ty := .array .int) (C := RX3) (T := TX3) (N := 3) hx hb htT uin_X3 tyX3 tyX3_ok nmX3 hown hK hP hD hS 0 rfl rfl 1 (Nat.le_of_ble_eq_true rfl) (htT _ zw_fX3_15) (fun _ h9 => h9) rfl hin rfl (by decide +kernel) rfl rfl (Nat.le_of_ble_eq_true rfl) zkX3_17 (fun H locs hP hD hS => ?_)
  have hP : va_P G.1 vwCl ([(h0, .inr (4, [.ref q7, .ref q15, .null])), (q7, .inl (G.2.1 0, 6, .inl i0)), (q15, .inl (G.2.1 0, 6, .inl i0))]) H := hP
  have hD : va_D (va_A [(h0, .inr (4, [.null, .null, .null]))] s.heap.size) ([(h0, .inr (4, [.ref q7, .ref q15, .null])), (q7, .inl (G.2.1 0, 6, .inl i0)), (q15, .inl (G.2.1 0, 6, .inl i0))]) := hD
  refine lv_aload_n hx hb zkX3_20 rfl (lv_at hl 0 rfl) ?_
  refine lv_bipush hx hb zkX3_21 (v := nI 6) rfl ?_
  refine new_int hx hb htT hK hP hD hS hA (n := 6) (Nat.le_of_ble_eq_true rfl) (Nat.le_of_ble_eq_true rfl) (Nat.le_of_ble_eq_true rfl) zkX3_23 (fun q23 H hP hD hS => ?_)
  have hP : va_P G.1 vwCl ([(h0, .inr (4, [.ref q7, .ref q15, .null])), (q7, .inl (G.2.1 0, 6, .inl i0)), (q15, .inl (G.2.1 0, 6, .inl i0)), (q23, .inl (G.2.1 0, 6, .inl i0))]) H := hP
  have hD : va_D (va_A [(h0, .inr (4, [.null, .null, .null]))] s.heap.size) ([(h0, .inr (4, [.ref q7, .ref q15, .null])), (q7, .inl (G.2.1 0, 6, .inl i0)), (q15, .inl (G.2.1 0, 6, .inl i0)), (q23, .inl (G.2.1 0, 6, .inl i0))]) := hD
  refine W.cs (cells' := 3) (slots' := 18) (by omega) (by omega) ?_
  refine va_putF (own := RX3) (ref := "CandleStatute$Sharing") (ci := 4) (v := .ref q23) (ty := .array .int) (C := RX3) (T := TX3) (N := 3) hx hb htT uin_X3 tyX3 tyX3_ok nmX3 hown hK hP hD hS 0 rfl rfl 2 (Nat.le_of_ble_eq_true rfl) (htT _ zw_fX3_18) (fun _ h9 => h9) rfl hin rfl (by decide +kernel) rfl rfl (Nat.le_of_ble_eq_true rfl) zkX3_25 (fun H locs hP hD hS => ?_)
  have hP : va_P G.1 vwCl ([(h0, .inr (4, [.ref q7, .ref q15, .ref q23])), (q7, .inl (G.2.1 0, 6, .inl i0)), (q15, .inl (G.2.1 0, 6, .inl i0)), (q23, .inl (G.2.1 0, 6, .inl i0))]) H := hP
  have hD : va_D (va_A [(h0, .inr (4, [.null, .null, .null]))] s.heap.size) ([(h0, .inr (4, [.ref q7, .ref q15, .ref q23])), (q7, .inl (G.2.1 0, 6, .inl i0)), (q15, .inl (G.2.1 0, 6, .inl i0)), (q23, .inl (G.2.1 0, 6, .inl i0))]) := hD
  exact W.vret hx hb B.returns (fun t ht hW => ⟨⟨_, rfl, rfl, (fun j => [h0, q7, q15, q23].getD j 0), rfl, by rw [ht]; exact hP, hD⟩, hS.F ht⟩) hS.2.2 zkX3_28 hlocks
set_option maxHeartbeats 4000000 in
set_option maxRecDepth 100000 in
theorem ctr_J5 {l : Launch} {G : Gp} {h0 sz : Nat} : Met l yJ5_init_d00df (Cond.code yJ5_init_d00df cJ5_init_d00df 2 none :: Tall) (rmC 1 1 16) (va_Pc [.ref h0, .int (nI 16)] (CP G h0 (.inr (0, [.null, .int 0, .int 0, .int 0])) sz)) (CQ G h0 (.inr (0, [.null, .int 0, .int 0, .int 0])) sz (sbW G.2.1)) 1 16 (va_A [(h0, .inr (0, [.null, .int 0, .int 0, .int 0]))] sz) := by
  refine va_MetF (cc := cJ5_init_d00df) (maxL := 2) (ret := none) (by decide +kernel) rfl ?_
  intro p env s m args0 below meth c s₁ B hml hv
  obtain ⟨rfl, hsz, hP, hK, hD0, hX⟩ := hv
  have hts := atoms_spec (ws := Cond.code yJ5_init_d00df cJ5_init_d00df 2 none :: Tall) B.pre
  have htT := fun w hw => hts w (List.mem_cons_of_mem _ hw)
  have hown : s.vm.findClass RJ5 = some m.cls := findClass_of_methodNamed B.named
  have hin : meth.name = "<init>" := (name_of_methodNamed B.named B.method).1
  have hx := B.exec
  have hb := B.bytes
  have hlocks := B.notSynchronized
  subst hsz
  have hD := hD0.self (sz := s.heap.size)
  have hA : ∀ q : Nat, s.heap.size ≤ q → va_A [(h0, .inr (0, [.null, .int 0, .int 0, .int 0]))] s.heap.size q := fun q h => Or.inr h
  have hS : va_S (va_A [(h0, .inr (0, [.null, .int 0, .int 0, .int 0]))] s.heap.size) s.heap s.heap [] := va_S.rf
  have hl := lv_entry [.ref h0, .int (nI 16)] (n := 2) (Nat.le_of_ble_eq_true rfl)
  rw [lg_entry_eq]
  generalize (lg_sl [.ref h0, .int (nI 16)] ++ List.replicate (2 - (lg_sl [.ref h0, .int (nI 16)]).length) Slot.unset).toArray = ls at hl ⊢
  have hl : lv_has ls 2 [(0, .ref h0), (1, .int (nI 16))] := hl
  refine lv_aload_n hx hb zkJ5_0 rfl (lv_at hl 0 rfl) ?_
  refine W.objInit hx hb hown (htT _ zw_lJ5_3) (htT _ zw_oI) (htT _ zw_oC) rfl (by rw [hml]; exact hl.1) rfl zkJ5_1 (Nat.le_of_ble_eq_true rfl) (Nat.le_of_ble_eq_true rfl) ?_
  refine W.eq (g2 := F0 m 4 ls []) rfl ?_
  refine va_gets hx hb hX.1 hS hown (htT _ zw_fJ5_18) (fun _ z => z) zkJ5_4 ?_
  refine lv_if_eq hx hb zkJ5_7 (tgt := 25) (by decide) (fun hz => absurd hz (by decide)) (fun _ => ?_)
  refine lv_aload_n hx hb zkJ5_10 rfl (lv_at hl 0 rfl) ?_
  refine lv_iload_n hx hb zkJ5_11 rfl (lv_at hl 1 rfl) ?_
  refine new_b16 hx hb htT hK hP hD hS hA (Nat.le_of_ble_eq_true rfl) (Nat.le_of_ble_eq_true rfl) zkJ5_12 (fun q12 H hP hD hS => ?_)
  have hP : va_P G.1 vwCl ([(h0, .inr (0, [.null, .int 0, .int 0, .int 0])), (q12, .inl (G.2.1 2, 16, .inl b16))]) H := hP
  have hD : va_D (va_A [(h0, .inr (0, [.null, .int 0, .int 0, .int 0]))] s.heap.size) ([(h0, .inr (0, [.null, .int 0, .int 0, .int 0])), (q12, .inl (G.2.1 2, 16, .inl b16))]) := hD
  refine W.cs (cells' := 1) (slots' := 16) (by omega) (by omega) ?_
  refine va_put (own := RJ5) (ref := "java/lang/AbstractStringBuilder") (ci := 0) (v := .ref q12) (ty := .array .byte) (C := RJ4) (T := TJ4) (N := 4) hx hb htT uin_J4 tyJ4 tyJ4_ok nmJ4 hown hK hP hD hS 0 rfl rfl 0 (Nat.le_of_ble_eq_true rfl) (htT _ zw_fJ5_15) (fun _ h9 => h9) rfl (by decide +kernel) rfl rfl (Nat.le_of_ble_eq_true rfl) zkJ5_14 (fun H locs hP hD hS => ?_)
  have hP : va_P G.1 vwCl ([(h0, .inr (0, [.ref q12, .int 0, .int 0, .int 0])), (q12, .inl (G.2.1 2, 16, .inl b16))]) H := hP
  have hD : va_D (va_A [(h0, .inr (0, [.null, .int 0, .int 0, .int 0]))] s.heap.size) ([(h0, .inr (0, [.ref q12, .int 0, .int 0, .int 0])), (q12, .inl (G.2.1 2, 16, .inl b16))]) := hD
  refine lv_aload_n hx hb zkJ5_17 rfl (lv_at hl 0 rfl) ?_
  refine lv_iconst hx hb zkJ5_18 (v := 0) rfl ?_
  refine va_put (own := RJ5) (ref := "java/lang/AbstractStringBuilder") (ci := 0) (v := .int 0) (ty := .byte) (C := RJ4) (T := TJ4) (N := 4) hx hb htT uin_J4 tyJ4 tyJ4_ok nmJ4 hown hK hP hD hS 0 rfl rfl 1 (Nat.le_of_ble_eq_true rfl) (htT _ zw_fJ5_22) (fun _ h9 => h9) rfl (by decide +kernel) rfl rfl (Nat.le_of_ble_eq_true rfl) zkJ5_19 (fun H locs hP hD hS => ?_)
  have hP : va_P G.1 vwCl ([(h0, .inr (0, [.ref q12, .int 0, .int 0, .int 0])), (q12, .inl (G.2.1 2, 16, .inl b16))]) H := hP
  have hD : va_D (va_A [(h0, .inr (0, [.null, .int 0, .int 0, .int 0]))] s.heap.size) ([(h0, .inr (0, [.ref q12, .int 0, .int 0, .int 0])), (q12, .inl (G.2.1 2, 16, .inl b16))]) := hD
  refine lv_goto hx hb zkJ5_22 (tgt := 38) (by decide) ?_
  exact W.vret hx hb B.returns (fun t ht hW => ⟨⟨_, rfl, rfl, (fun j => [h0, q12].getD j 0), rfl, by rw [ht]; exact hP, hD⟩, hS.F ht⟩) hS.2.2 zkJ5_38 hlocks
set_option maxHeartbeats 4000000 in
set_option maxRecDepth 100000 in
theorem ctr_J4 {l : Launch} {G : Gp} {h0 sz : Nat} : Met l yJ4_init_da8c8 (Cond.code yJ4_init_da8c8 cJ4_init_da8c8 1 none :: Tall) (rmC 2 1 16) (va_Pc [.ref h0] (CP G h0 (.inr (0, [.null, .int 0, .int 0, .int 0])) sz)) (CQ G h0 (.inr (0, [.null, .int 0, .int 0, .int 0])) sz (sbW G.2.1)) 1 16 (va_A [(h0, .inr (0, [.null, .int 0, .int 0, .int 0]))] sz) := by
  refine va_MetF (cc := cJ4_init_da8c8) (maxL := 1) (ret := none) (by decide +kernel) rfl ?_
  intro p env s m args0 below meth c s₁ B hml hv
  obtain ⟨rfl, hsz, hP, hK, hD0, hX⟩ := hv
  have hts := atoms_spec (ws := Cond.code yJ4_init_da8c8 cJ4_init_da8c8 1 none :: Tall) B.pre
  have htT := fun w hw => hts w (List.mem_cons_of_mem _ hw)
  have hown : s.vm.findClass RJ4 = some m.cls := findClass_of_methodNamed B.named
  have hin : meth.name = "<init>" := (name_of_methodNamed B.named B.method).1
  have hx := B.exec
  have hb := B.bytes
  have hlocks := B.notSynchronized
  subst hsz
  have hD := hD0.self (sz := s.heap.size)
  have hA : ∀ q : Nat, s.heap.size ≤ q → va_A [(h0, .inr (0, [.null, .int 0, .int 0, .int 0]))] s.heap.size q := fun q h => Or.inr h
  have hS : va_S (va_A [(h0, .inr (0, [.null, .int 0, .int 0, .int 0]))] s.heap.size) s.heap s.heap [] := va_S.rf
  have hl := lv_entry [.ref h0] (n := 1) (Nat.le_of_ble_eq_true rfl)
  rw [lg_entry_eq]
  generalize (lg_sl [.ref h0] ++ List.replicate (1 - (lg_sl [.ref h0]).length) Slot.unset).toArray = ls at hl ⊢
  have hl : lv_has ls 1 [(0, .ref h0)] := hl
  refine lv_aload_n hx hb zkJ4_0 rfl (lv_at hl 0 rfl) ?_
  refine lv_bipush hx hb zkJ4_1 (v := nI 16) rfl ?_
  refine ctor_back (Wr := []) (mc := 1) (ms := 16) hP hD hS hA (va_runI (As := [.int (nI 16)]) (rest := []) ⟨hx, hb, hml, hown, hts⟩ ctr_J5 (cwI 1 hts (good_c zw_cyJ5_init_d00df) rfl rfl rfl (htT _ zw_nJ5) (htT _ zw_lJ4_1) (htT _ zw_iyJ5_init_d00df) rfl ⟨by decide, by decide, by decide +kernel⟩ ⟨Nat.le_of_ble_eq_true rfl, Nat.le_of_ble_eq_true rfl⟩) ⟨CP_blind, CP_pre (Wr := []) hP hK hD hS hA hX⟩ rfl rfl hl.1 rfl (lv_room (Nat.le_of_ble_eq_true rfl)) zkJ4_3 ⟨Nat.le_of_ble_eq_true rfl, Nat.le_of_ble_eq_true rfl⟩) (fun f H locs ef hP hD hS => ?_)
  refine W.cs (cells' := 1) (slots' := 16) (by omega) (by omega) ?_
  exact W.vret hx hb B.returns (fun t ht hW => ⟨⟨_, rfl, rfl, f, ef, by rw [ht]; exact hP, hD⟩, hS.F ht⟩) hS.2.2 zkJ4_6 hlocks
