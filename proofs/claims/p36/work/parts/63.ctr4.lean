/-! the constructor of the class -/
theorem reaW_cg {cA : Nat → ClassId} {f g : Nat → Nat} (h : ∀ j, j < 3 → f j = g j) : reaW cA f = reaW cA g := by
  unfold reaW
  rw [h 0 (by decide), h 1 (by decide), h 2 (by decide)]
theorem ordW_cg {cA : Nat → ClassId} {f g : Nat → Nat} (h : ∀ j, j < 5 → f j = g j) : ordW cA f = ordW cA g := by
  unfold ordW
  rw [h 0 (by decide), h 1 (by decide), h 2 (by decide), h 3 (by decide), h 4 (by decide)]
theorem shaW_cg {cA : Nat → ClassId} {f g : Nat → Nat} (h : ∀ j, j < 4 → f j = g j) : shaW cA f = shaW cA g := by
  unfold shaW
  rw [h 0 (by decide), h 1 (by decide), h 2 (by decide), h 3 (by decide)]
theorem sbW_cg {cA : Nat → ClassId} {f g : Nat → Nat} (h : ∀ j, j < 2 → f j = g j) : sbW cA f = sbW cA g := by
  unfold sbW
  rw [h 0 (by decide), h 1 (by decide)]
theorem hisW_cg {cA : Nat → ClassId} {f g : Nat → Nat} (h : ∀ j, j < 128 → f j = g j) : hisW cA f = hisW cA g := by
  unfold hisW
  rw [h 0 (by decide), h 1 (by decide), h 2 (by decide), h 16 (by decide), h 30 (by decide), h 44 (by decide), h 58 (by decide), h 72 (by decide), h 86 (by decide), h 100 (by decide), h 114 (by decide), staW_cg (f := fun j => f (2 + j)) (g := fun j => g (2 + j)) (fun j hj => h _ (by omega)), staW_cg (f := fun j => f (16 + j)) (g := fun j => g (16 + j)) (fun j hj => h _ (by omega)), staW_cg (f := fun j => f (30 + j)) (g := fun j => g (30 + j)) (fun j hj => h _ (by omega)), staW_cg (f := fun j => f (44 + j)) (g := fun j => g (44 + j)) (fun j hj => h _ (by omega)), staW_cg (f := fun j => f (58 + j)) (g := fun j => g (58 + j)) (fun j hj => h _ (by omega)), staW_cg (f := fun j => f (72 + j)) (g := fun j => g (72 + j)) (fun j hj => h _ (by omega)), staW_cg (f := fun j => f (86 + j)) (g := fun j => g (86 + j)) (fun j hj => h _ (by omega)), staW_cg (f := fun j => f (100 + j)) (g := fun j => g (100 + j)) (fun j hj => h _ (by omega)), staW_cg (f := fun j => f (114 + j)) (g := fun j => g (114 + j)) (fun j hj => h _ (by omega))]
def x6W (cA : Nat → ClassId) (f : Nat → Nat) : va_W := [(f 0, .inr (7, [.ref (f 1), .ref (f 15), .int 0, .ref (f 155), .ref (f 157), .ref (f 160), .ref (f 165), .ref (f 169), .ref (f 170)]))] ++ staW cA (fun j => f (1 + j)) ++ staW cA (fun j => f (15 + j)) ++ hisW cA (fun j => f (if j < 2 then 155 + j else 27 + j)) ++ reaW cA (fun j => f (157 + j)) ++ ordW cA (fun j => f (160 + j)) ++ shaW cA (fun j => f (165 + j)) ++ sbW cA (fun j => f (if j = 0 then 169 else 181)) ++ sbW cA (fun j => f (if j = 0 then 170 else 182))
theorem zkX6_0 : decode cX6_init 0 = .ok (.aload_n 0, 1) := by decide +kernel
theorem zkX6_1 : decode cX6_init 1 = .ok (.invokespecial 1, 3) := by decide +kernel
theorem zkX6_4 : decode cX6_init 4 = .ok (.aload_n 0, 1) := by decide +kernel
theorem zkX6_5 : decode cX6_init 5 = .ok (.new 7, 3) := by decide +kernel
theorem zkX6_8 : decode cX6_init 8 = .ok (.dup, 1) := by decide +kernel
theorem zkX6_9 : decode cX6_init 9 = .ok (.invokespecial 9, 3) := by decide +kernel
theorem zkX6_12 : decode cX6_init 12 = .ok (.putfield 10, 3) := by decide +kernel
theorem zkX6_15 : decode cX6_init 15 = .ok (.aload_n 0, 1) := by decide +kernel
theorem zkX6_16 : decode cX6_init 16 = .ok (.new 7, 3) := by decide +kernel
theorem zkX6_19 : decode cX6_init 19 = .ok (.dup, 1) := by decide +kernel
theorem zkX6_20 : decode cX6_init 20 = .ok (.invokespecial 9, 3) := by decide +kernel
theorem zkX6_23 : decode cX6_init 23 = .ok (.putfield 16, 3) := by decide +kernel
theorem zkX6_26 : decode cX6_init 26 = .ok (.aload_n 0, 1) := by decide +kernel
theorem zkX6_27 : decode cX6_init 27 = .ok (.iconst 0, 1) := by decide +kernel
theorem zkX6_28 : decode cX6_init 28 = .ok (.putfield 19, 3) := by decide +kernel
theorem zkX6_31 : decode cX6_init 31 = .ok (.aload_n 0, 1) := by decide +kernel
theorem zkX6_32 : decode cX6_init 32 = .ok (.new 23, 3) := by decide +kernel
theorem zkX6_35 : decode cX6_init 35 = .ok (.dup, 1) := by decide +kernel
theorem zkX6_36 : decode cX6_init 36 = .ok (.invokespecial 25, 3) := by decide +kernel
theorem zkX6_39 : decode cX6_init 39 = .ok (.putfield 26, 3) := by decide +kernel
theorem zkX6_42 : decode cX6_init 42 = .ok (.aload_n 0, 1) := by decide +kernel
theorem zkX6_43 : decode cX6_init 43 = .ok (.new 30, 3) := by decide +kernel
theorem zkX6_46 : decode cX6_init 46 = .ok (.dup, 1) := by decide +kernel
theorem zkX6_47 : decode cX6_init 47 = .ok (.invokespecial 32, 3) := by decide +kernel
theorem zkX6_50 : decode cX6_init 50 = .ok (.putfield 33, 3) := by decide +kernel
theorem zkX6_53 : decode cX6_init 53 = .ok (.aload_n 0, 1) := by decide +kernel
theorem zkX6_54 : decode cX6_init 54 = .ok (.new 37, 3) := by decide +kernel
theorem zkX6_57 : decode cX6_init 57 = .ok (.dup, 1) := by decide +kernel
theorem zkX6_58 : decode cX6_init 58 = .ok (.invokespecial 39, 3) := by decide +kernel
theorem zkX6_61 : decode cX6_init 61 = .ok (.putfield 40, 3) := by decide +kernel
theorem zkX6_64 : decode cX6_init 64 = .ok (.aload_n 0, 1) := by decide +kernel
theorem zkX6_65 : decode cX6_init 65 = .ok (.new 44, 3) := by decide +kernel
theorem zkX6_68 : decode cX6_init 68 = .ok (.dup, 1) := by decide +kernel
theorem zkX6_69 : decode cX6_init 69 = .ok (.invokespecial 46, 3) := by decide +kernel
theorem zkX6_72 : decode cX6_init 72 = .ok (.putfield 47, 3) := by decide +kernel
theorem zkX6_75 : decode cX6_init 75 = .ok (.aload_n 0, 1) := by decide +kernel
theorem zkX6_76 : decode cX6_init 76 = .ok (.new 51, 3) := by decide +kernel
theorem zkX6_79 : decode cX6_init 79 = .ok (.dup, 1) := by decide +kernel
theorem zkX6_80 : decode cX6_init 80 = .ok (.invokespecial 53, 3) := by decide +kernel
theorem zkX6_83 : decode cX6_init 83 = .ok (.putfield 54, 3) := by decide +kernel
theorem zkX6_86 : decode cX6_init 86 = .ok (.aload_n 0, 1) := by decide +kernel
theorem zkX6_87 : decode cX6_init 87 = .ok (.new 51, 3) := by decide +kernel
theorem zkX6_90 : decode cX6_init 90 = .ok (.dup, 1) := by decide +kernel
theorem zkX6_91 : decode cX6_init 91 = .ok (.invokespecial 53, 3) := by decide +kernel
theorem zkX6_94 : decode cX6_init 94 = .ok (.putfield 58, 3) := by decide +kernel
theorem zkX6_97 : decode cX6_init 97 = .ok (.return_, 1) := by decide +kernel
theorem zw_lX6_1 : Cond.methodLink RX6 1 objectInit ∈ Tall := atT_in (i := 3026) (by decide +kernel)
theorem zw_kX6_7 : Cond.classLink RX6 7 RX4 ∈ Tall := atT_in (i := 3029) (by decide +kernel)
theorem zw_lX6_9 : Cond.methodLink RX6 9 yX4_init ∈ Tall := atT_in (i := 3031) (by decide +kernel)
theorem zw_fX6_10 : Cond.fieldLink "CandleStatute" 10 "CandleStatute" "now" "LCandleStatute$State;" ∈ Tall := atT_in (i := 4013) (by decide +kernel)
theorem zw_fX6_16 : Cond.fieldLink "CandleStatute" 16 "CandleStatute" "snapshot" "LCandleStatute$State;" ∈ Tall := atT_in (i := 4014) (by decide +kernel)
theorem zw_fX6_19 : Cond.fieldLink "CandleStatute" 19 "CandleStatute" "hasSnapshot" "Z" ∈ Tall := atT_in (i := 4015) (by decide +kernel)
theorem zw_kX6_23 : Cond.classLink RX6 23 RX0 ∈ Tall := atT_in (i := 3133) (by decide +kernel)
theorem zw_mX0 : Cond.instantiable RX0 3 ∈ Tall := atT_in (i := 3134) (by decide +kernel)
theorem zw_nX0 : Cond.initialized RX0 ∈ Tall := atT_in (i := 3004) (by decide +kernel)
theorem zw_cyX0_init : Cond.code yX0_init cX0_init 2 none ∈ Tall := atT_in (i := 3137) (by decide +kernel)
theorem zw_iyX0_init : Cond.instanceMethod yX0_init ∈ Tall := atT_in (i := 3136) (by decide +kernel)
theorem zw_lX6_25 : Cond.methodLink RX6 25 yX0_init ∈ Tall := atT_in (i := 3135) (by decide +kernel)
theorem zw_fX6_26 : Cond.fieldLink "CandleStatute" 26 "CandleStatute" "history" "LCandleStatute$History;" ∈ Tall := atT_in (i := 4016) (by decide +kernel)
theorem zw_kX6_30 : Cond.classLink RX6 30 RX2 ∈ Tall := atT_in (i := 3153) (by decide +kernel)
theorem zw_mX2 : Cond.instantiable RX2 3 ∈ Tall := atT_in (i := 3154) (by decide +kernel)
theorem zw_nX2 : Cond.initialized RX2 ∈ Tall := atT_in (i := 3005) (by decide +kernel)
theorem zw_cyX2_init : Cond.code yX2_init cX2_init 1 none ∈ Tall := atT_in (i := 3157) (by decide +kernel)
theorem zw_iyX2_init : Cond.instanceMethod yX2_init ∈ Tall := atT_in (i := 3156) (by decide +kernel)
theorem zw_fX6_33 : Cond.fieldLink "CandleStatute" 33 "CandleStatute" "reasons" "LCandleStatute$Reasons;" ∈ Tall := atT_in (i := 4017) (by decide +kernel)
theorem zw_kX6_37 : Cond.classLink RX6 37 RX1 ∈ Tall := atT_in (i := 3172) (by decide +kernel)
theorem zw_mX1 : Cond.instantiable RX1 6 ∈ Tall := atT_in (i := 3173) (by decide +kernel)
theorem zw_nX1 : Cond.initialized RX1 ∈ Tall := atT_in (i := 3006) (by decide +kernel)
theorem zw_cyX1_init : Cond.code yX1_init cX1_init 1 none ∈ Tall := atT_in (i := 3176) (by decide +kernel)
theorem zw_iyX1_init : Cond.instanceMethod yX1_init ∈ Tall := atT_in (i := 3175) (by decide +kernel)
theorem zw_fX6_40 : Cond.fieldLink "CandleStatute" 40 "CandleStatute" "orders" "LCandleStatute$Orders;" ∈ Tall := atT_in (i := 4018) (by decide +kernel)
theorem zw_kX6_44 : Cond.classLink RX6 44 RX3 ∈ Tall := atT_in (i := 3202) (by decide +kernel)
theorem zw_mX3 : Cond.instantiable RX3 3 ∈ Tall := atT_in (i := 3203) (by decide +kernel)
theorem zw_nX3 : Cond.initialized RX3 ∈ Tall := atT_in (i := 3007) (by decide +kernel)
theorem zw_cyX3_init : Cond.code yX3_init cX3_init 1 none ∈ Tall := atT_in (i := 3206) (by decide +kernel)
theorem zw_iyX3_init : Cond.instanceMethod yX3_init ∈ Tall := atT_in (i := 3205) (by decide +kernel)
theorem zw_fX6_47 : Cond.fieldLink "CandleStatute" 47 "CandleStatute" "sharing" "LCandleStatute$Sharing;" ∈ Tall := atT_in (i := 4019) (by decide +kernel)
theorem zw_kX6_51 : Cond.classLink RX6 51 RJ4 ∈ Tall := atT_in (i := 3220) (by decide +kernel)
theorem zw_mJ4 : Cond.instantiable RJ4 4 ∈ Tall := atT_in (i := 3221) (by decide +kernel)
theorem zw_nJ4 : Cond.initialized RJ4 ∈ Tall := atT_in (i := 3009) (by decide +kernel)
theorem zw_cyJ4_init_da8c8 : Cond.code yJ4_init_da8c8 cJ4_init_da8c8 1 none ∈ Tall := atT_in (i := 3224) (by decide +kernel)
theorem zw_iyJ4_init_da8c8 : Cond.instanceMethod yJ4_init_da8c8 ∈ Tall := atT_in (i := 3223) (by decide +kernel)
theorem zw_lX6_53 : Cond.methodLink RX6 53 yJ4_init_da8c8 ∈ Tall := atT_in (i := 3222) (by decide +kernel)
theorem zw_fX6_54 : Cond.fieldLink "CandleStatute" 54 "CandleStatute" "text" "Ljava/lang/StringBuilder;" ∈ Tall := atT_in (i := 4020) (by decide +kernel)
theorem zw_fX6_58 : Cond.fieldLink "CandleStatute" 58 "CandleStatute" "line" "Ljava/lang/StringBuilder;" ∈ Tall := atT_in (i := 4021) (by decide +kernel)
set_option maxHeartbeats 4000000 in
set_option maxRecDepth 100000 in
theorem ctr_X6 {l : Launch} {G : Gp} {h0 sz : Nat} : Met l yX6_init (Cond.code yX6_init cX6_init 1 none :: Tall) (rmC 4 172 1868) (va_Pc [.ref h0] (CP G h0 (.inr (7, [.null, .null, .int 0, .null, .null, .null, .null, .null, .null])) sz)) (CQ G h0 (.inr (7, [.null, .null, .int 0, .null, .null, .null, .null, .null, .null])) sz (x6W G.2.1)) 172 1868 (va_A [(h0, .inr (7, [.null, .null, .int 0, .null, .null, .null, .null, .null, .null]))] sz) := by
  refine va_MetF (cc := cX6_init) (maxL := 1) (ret := none) (by decide +kernel) rfl ?_
  intro p env s m args0 below meth c s₁ B hml hv
  obtain ⟨rfl, hsz, hP, hK, hD0, hX⟩ := hv
  have hts := atoms_spec (ws := Cond.code yX6_init cX6_init 1 none :: Tall) B.pre
  have htT := fun w hw => hts w (List.mem_cons_of_mem _ hw)
  have hown : s.vm.findClass RX6 = some m.cls := findClass_of_methodNamed B.named
  have hin : meth.name = "<init>" := (name_of_methodNamed B.named B.method).1
  have hx := B.exec
  have hb := B.bytes
  have hlocks := B.notSynchronized
  subst hsz
  have hD := hD0.self (sz := s.heap.size)
  have hA : ∀ q : Nat, s.heap.size ≤ q → va_A [(h0, .inr (7, [.null, .null, .int 0, .null, .null, .null, .null, .null, .null]))] s.heap.size q := fun q h => Or.inr h
  have hS : va_S (va_A [(h0, .inr (7, [.null, .null, .int 0, .null, .null, .null, .null, .null, .null]))] s.heap.size) s.heap s.heap [] := va_S.rf
  have hl := lv_entry [.ref h0] (n := 1) (Nat.le_of_ble_eq_true rfl)
  rw [lg_entry_eq]
  generalize (lg_sl [.ref h0] ++ List.replicate (1 - (lg_sl [.ref h0]).length) Slot.unset).toArray = ls at hl ⊢
  have hl : lv_has ls 1 [(0, .ref h0)] := hl
  refine lv_aload_n hx hb zkX6_0 rfl (lv_at hl 0 rfl) ?_
  refine W.objInit hx hb hown (htT _ zw_lX6_1) (htT _ zw_oI) (htT _ zw_oC) rfl (by rw [hml]; exact hl.1) rfl zkX6_1 (Nat.le_of_ble_eq_true rfl) (Nat.le_of_ble_eq_true rfl) ?_
  refine W.eq (g2 := F0 m 4 ls []) rfl ?_
  refine lv_aload_n hx hb zkX6_4 rfl (lv_at hl 0 rfl) ?_
  refine va_new (ci := 5) (fs := [.null, .null, .null, .null, .null, .int 0, .int 0, .int 0, .int 0, .int 0, .int 0]) (C := RX4) (T := TX4) (N := 11) hx hb htT uin_X4 tyX4 tyX4_ok hown (htT _ zw_kX6_7) (htT _ zw_mX4) (htT _ zw_nX4) hK hP hD hS hA rfl (by decide +kernel) (Nat.le_of_ble_eq_true rfl) (Nat.le_of_ble_eq_true rfl) zkX6_5 (fun q5 H hP hD hS => ?_)
  have hP : va_P G.1 vwCl ([(h0, .inr (7, [.null, .null, .int 0, .null, .null, .null, .null, .null, .null])), (q5, .inr (5, [.null, .null, .null, .null, .null, .int 0, .int 0, .int 0, .int 0, .int 0, .int 0]))]) H := hP
  have hD : va_D (va_A [(h0, .inr (7, [.null, .null, .int 0, .null, .null, .null, .null, .null, .null]))] s.heap.size) ([(h0, .inr (7, [.null, .null, .int 0, .null, .null, .null, .null, .null, .null])), (q5, .inr (5, [.null, .null, .null, .null, .null, .int 0, .int 0, .int 0, .int 0, .int 0, .int 0]))]) := hD
  refine W.cs (cells' := 1) (slots' := 11) (by omega) (by omega) ?_
  refine lv_dup hx hb zkX6_8 rfl ?_
  refine ctor_back (Wr := [(h0, .inr (7, [.null, .null, .int 0, .null, .null, .null, .null, .null, .null]))]) (mc := 13) (ms := 129) hP hD hS hA (va_runI (As := []) (rest := [.ref q5, .ref h0]) ⟨hx, hb, hml, hown, hts⟩ ctr_X4 (cwI 0 hts (good_c zw_cyX4_init) rfl rfl rfl (htT _ zw_nX4) (htT _ zw_lX6_9) (htT _ zw_iyX4_init) rfl ⟨by decide, by decide, by decide +kernel⟩ ⟨Nat.le_of_ble_eq_true rfl, Nat.le_of_ble_eq_true rfl⟩) ⟨CP_blind, CP_pre (Wr := [(h0, .inr (7, [.null, .null, .int 0, .null, .null, .null, .null, .null, .null]))]) hP hK hD hS hA hX⟩ rfl rfl hl.1 rfl (lv_room (Nat.le_of_ble_eq_true rfl)) zkX6_9 ⟨Nat.le_of_ble_eq_true rfl, Nat.le_of_ble_eq_true rfl⟩) (fun f1 H locs ef1 hP hD hS => ?_)
  have hP : va_P G.1 vwCl ([(h0, .inr (7, [.null, .null, .int 0, .null, .null, .null, .null, .null, .null]))] ++ staW G.2.1 f1) H := hP
  have hD : va_D (va_A [(h0, .inr (7, [.null, .null, .int 0, .null, .null, .null, .null, .null, .null]))] s.heap.size) ([(h0, .inr (7, [.null, .null, .int 0, .null, .null, .null, .null, .null, .null]))] ++ staW G.2.1 f1) := hD
  refine W.cs (cells' := 14) (slots' := 140) (by omega) (by omega) ?_
  refine va_putF (own := RX6) (ref := "CandleStatute") (ci := 7) (v := .ref q5) (ty := .object "CandleStatute$State") (C := RX6) (T := TX6) (N := 9) hx hb htT uin_X6 tyX6 tyX6_ok nmX6 hown hK hP hD hS 0 rfl rfl 0 (Nat.le_of_ble_eq_true rfl) (htT _ zw_fX6_10) (fun _ h9 => h9) rfl hin rfl (by decide +kernel) rfl rfl (Nat.le_of_ble_eq_true rfl) zkX6_12 (fun H locs hP hD hS => ?_)
  have hP : va_P G.1 vwCl ([(h0, .inr (7, [.ref q5, .null, .int 0, .null, .null, .null, .null, .null, .null]))] ++ staW G.2.1 f1) H := hP
  have hD : va_D (va_A [(h0, .inr (7, [.null, .null, .int 0, .null, .null, .null, .null, .null, .null]))] s.heap.size) ([(h0, .inr (7, [.ref q5, .null, .int 0, .null, .null, .null, .null, .null, .null]))] ++ staW G.2.1 f1) := hD
  refine lv_aload_n hx hb zkX6_15 rfl (lv_at hl 0 rfl) ?_
  refine va_new (ci := 5) (fs := [.null, .null, .null, .null, .null, .int 0, .int 0, .int 0, .int 0, .int 0, .int 0]) (C := RX4) (T := TX4) (N := 11) hx hb htT uin_X4 tyX4 tyX4_ok hown (htT _ zw_kX6_7) (htT _ zw_mX4) (htT _ zw_nX4) hK hP hD hS hA rfl (by decide +kernel) (Nat.le_of_ble_eq_true rfl) (Nat.le_of_ble_eq_true rfl) zkX6_16 (fun q16 H hP hD hS => ?_)
  have hP : va_P G.1 vwCl ([(h0, .inr (7, [.ref q5, .null, .int 0, .null, .null, .null, .null, .null, .null]))] ++ staW G.2.1 f1 ++ [(q16, .inr (5, [.null, .null, .null, .null, .null, .int 0, .int 0, .int 0, .int 0, .int 0, .int 0]))]) H := hP
  have hD : va_D (va_A [(h0, .inr (7, [.null, .null, .int 0, .null, .null, .null, .null, .null, .null]))] s.heap.size) ([(h0, .inr (7, [.ref q5, .null, .int 0, .null, .null, .null, .null, .null, .null]))] ++ staW G.2.1 f1 ++ [(q16, .inr (5, [.null, .null, .null, .null, .null, .int 0, .int 0, .int 0, .int 0, .int 0, .int 0]))]) := hD
  refine W.cs (cells' := 15) (slots' := 151) (by omega) (by omega) ?_
  refine lv_dup hx hb zkX6_19 rfl ?_
  refine ctor_back (Wr := [(h0, .inr (7, [.ref q5, .null, .int 0, .null, .null, .null, .null, .null, .null]))] ++ staW G.2.1 f1) (mc := 13) (ms := 129) hP hD hS hA (va_runI (As := []) (rest := [.ref q16, .ref h0]) ⟨hx, hb, hml, hown, hts⟩ ctr_X4 (cwI 0 hts (good_c zw_cyX4_init) rfl rfl rfl (htT _ zw_nX4) (htT _ zw_lX6_9) (htT _ zw_iyX4_init) rfl ⟨by decide, by decide, by decide +kernel⟩ ⟨Nat.le_of_ble_eq_true rfl, Nat.le_of_ble_eq_true rfl⟩) ⟨CP_blind, CP_pre (Wr := [(h0, .inr (7, [.ref q5, .null, .int 0, .null, .null, .null, .null, .null, .null]))] ++ staW G.2.1 f1) hP hK hD hS hA hX⟩ rfl rfl hl.1 rfl (lv_room (Nat.le_of_ble_eq_true rfl)) zkX6_20 ⟨Nat.le_of_ble_eq_true rfl, Nat.le_of_ble_eq_true rfl⟩) (fun f2 H locs ef2 hP hD hS => ?_)
  have hP : va_P G.1 vwCl ([(h0, .inr (7, [.ref q5, .null, .int 0, .null, .null, .null, .null, .null, .null]))] ++ staW G.2.1 f1 ++ staW G.2.1 f2) H := hP
  have hD : va_D (va_A [(h0, .inr (7, [.null, .null, .int 0, .null, .null, .null, .null, .null, .null]))] s.heap.size) ([(h0, .inr (7, [.ref q5, .null, .int 0, .null, .null, .null, .null, .null, .null]))] ++ staW G.2.1 f1 ++ staW G.2.1 f2) := hD
  refine W.cs (cells' := 28) (slots' := 280) (by omega) (by omega) ?_
  refine va_putF (own := RX6) (ref := "CandleStatute") (ci := 7) (v := .ref q16) (ty := .object "CandleStatute$State") (C := RX6) (T := TX6) (N := 9) hx hb htT uin_X6 tyX6 tyX6_ok nmX6 hown hK hP hD hS 0 rfl rfl 1 (Nat.le_of_ble_eq_true rfl) (htT _ zw_fX6_16) (fun _ h9 => h9) rfl hin rfl (by decide +kernel) rfl rfl (Nat.le_of_ble_eq_true rfl) zkX6_23 (fun H locs hP hD hS => ?_)
  have hP : va_P G.1 vwCl ([(h0, .inr (7, [.ref q5, .ref q16, .int 0, .null, .null, .null, .null, .null, .null]))] ++ staW G.2.1 f1 ++ staW G.2.1 f2) H := hP
  have hD : va_D (va_A [(h0, .inr (7, [.null, .null, .int 0, .null, .null, .null, .null, .null, .null]))] s.heap.size) ([(h0, .inr (7, [.ref q5, .ref q16, .int 0, .null, .null, .null, .null, .null, .null]))] ++ staW G.2.1 f1 ++ staW G.2.1 f2) := hD
  refine lv_aload_n hx hb zkX6_26 rfl (lv_at hl 0 rfl) ?_
  refine lv_iconst hx hb zkX6_27 (v := 0) rfl ?_
  refine va_put (own := RX6) (ref := "CandleStatute") (ci := 7) (v := .int 0) (ty := .boolean) (C := RX6) (T := TX6) (N := 9) hx hb htT uin_X6 tyX6 tyX6_ok nmX6 hown hK hP hD hS 0 rfl rfl 2 (Nat.le_of_ble_eq_true rfl) (htT _ zw_fX6_19) (fun _ h9 => h9) rfl (by decide +kernel) rfl rfl (Nat.le_of_ble_eq_true rfl) zkX6_28 (fun H locs hP hD hS => ?_)
  have hP : va_P G.1 vwCl ([(h0, .inr (7, [.ref q5, .ref q16, .int 0, .null, .null, .null, .null, .null, .null]))] ++ staW G.2.1 f1 ++ staW G.2.1 f2) H := hP
  have hD : va_D (va_A [(h0, .inr (7, [.null, .null, .int 0, .null, .null, .null, .null, .null, .null]))] s.heap.size) ([(h0, .inr (7, [.ref q5, .ref q16, .int 0, .null, .null, .null, .null, .null, .null]))] ++ staW G.2.1 f1 ++ staW G.2.1 f2) := hD
  refine lv_aload_n hx hb zkX6_31 rfl (lv_at hl 0 rfl) ?_
  refine va_new (ci := 1) (fs := [.null, .int 0, .int 0]) (C := RX0) (T := TX0) (N := 3) hx hb htT uin_X0 tyX0 tyX0_ok hown (htT _ zw_kX6_23) (htT _ zw_mX0) (htT _ zw_nX0) hK hP hD hS hA rfl (by decide +kernel) (Nat.le_of_ble_eq_true rfl) (Nat.le_of_ble_eq_true rfl) zkX6_32 (fun q32 H hP hD hS => ?_)
  have hP : va_P G.1 vwCl ([(h0, .inr (7, [.ref q5, .ref q16, .int 0, .null, .null, .null, .null, .null, .null]))] ++ staW G.2.1 f1 ++ staW G.2.1 f2 ++ [(q32, .inr (1, [.null, .int 0, .int 0]))]) H := hP
  have hD : va_D (va_A [(h0, .inr (7, [.null, .null, .int 0, .null, .null, .null, .null, .null, .null]))] s.heap.size) ([(h0, .inr (7, [.ref q5, .ref q16, .int 0, .null, .null, .null, .null, .null, .null]))] ++ staW G.2.1 f1 ++ staW G.2.1 f2 ++ [(q32, .inr (1, [.null, .int 0, .int 0]))]) := hD
  refine W.cs (cells' := 29) (slots' := 283) (by omega) (by omega) ?_
  refine lv_dup hx hb zkX6_35 rfl ?_
  refine ctor_back (Wr := [(h0, .inr (7, [.ref q5, .ref q16, .int 0, .null, .null, .null, .null, .null, .null]))] ++ staW G.2.1 f1 ++ staW G.2.1 f2) (mc := 127) (ms := 1269) hP hD hS hA (va_runI (As := []) (rest := [.ref q32, .ref h0]) ⟨hx, hb, hml, hown, hts⟩ ctr_X0 (cwI 0 hts (good_c zw_cyX0_init) rfl rfl rfl (htT _ zw_nX0) (htT _ zw_lX6_25) (htT _ zw_iyX0_init) rfl ⟨by decide, by decide, by decide +kernel⟩ ⟨Nat.le_of_ble_eq_true rfl, Nat.le_of_ble_eq_true rfl⟩) ⟨CP_blind, CP_pre (Wr := [(h0, .inr (7, [.ref q5, .ref q16, .int 0, .null, .null, .null, .null, .null, .null]))] ++ staW G.2.1 f1 ++ staW G.2.1 f2) hP hK hD hS hA hX⟩ rfl rfl hl.1 rfl (lv_room (Nat.le_of_ble_eq_true rfl)) zkX6_36 ⟨Nat.le_of_ble_eq_true rfl, Nat.le_of_ble_eq_true rfl⟩) (fun f3 H locs ef3 hP hD hS => ?_)
  have hP : va_P G.1 vwCl ([(h0, .inr (7, [.ref q5, .ref q16, .int 0, .null, .null, .null, .null, .null, .null]))] ++ staW G.2.1 f1 ++ staW G.2.1 f2 ++ hisW G.2.1 f3) H := hP
  have hD : va_D (va_A [(h0, .inr (7, [.null, .null, .int 0, .null, .null, .null, .null, .null, .null]))] s.heap.size) ([(h0, .inr (7, [.ref q5, .ref q16, .int 0, .null, .null, .null, .null, .null, .null]))] ++ staW G.2.1 f1 ++ staW G.2.1 f2 ++ hisW G.2.1 f3) := hD
  refine W.cs (cells' := 156) (slots' := 1552) (by omega) (by omega) ?_
  refine va_putF (own := RX6) (ref := "CandleStatute") (ci := 7) (v := .ref q32) (ty := .object "CandleStatute$History") (C := RX6) (T := TX6) (N := 9) hx hb htT uin_X6 tyX6 tyX6_ok nmX6 hown hK hP hD hS 0 rfl rfl 3 (Nat.le_of_ble_eq_true rfl) (htT _ zw_fX6_26) (fun _ h9 => h9) rfl hin rfl (by decide +kernel) rfl rfl (Nat.le_of_ble_eq_true rfl) zkX6_39 (fun H locs hP hD hS => ?_)
  have hP : va_P G.1 vwCl ([(h0, .inr (7, [.ref q5, .ref q16, .int 0, .ref q32, .null, .null, .null, .null, .null]))] ++ staW G.2.1 f1 ++ staW G.2.1 f2 ++ hisW G.2.1 f3) H := hP
  have hD : va_D (va_A [(h0, .inr (7, [.null, .null, .int 0, .null, .null, .null, .null, .null, .null]))] s.heap.size) ([(h0, .inr (7, [.ref q5, .ref q16, .int 0, .ref q32, .null, .null, .null, .null, .null]))] ++ staW G.2.1 f1 ++ staW G.2.1 f2 ++ hisW G.2.1 f3) := hD
  refine lv_aload_n hx hb zkX6_42 rfl (lv_at hl 0 rfl) ?_
  refine va_new (ci := 3) (fs := [.null, .null, .int 0]) (C := RX2) (T := TX2) (N := 3) hx hb htT uin_X2 tyX2 tyX2_ok hown (htT _ zw_kX6_30) (htT _ zw_mX2) (htT _ zw_nX2) hK hP hD hS hA rfl (by decide +kernel) (Nat.le_of_ble_eq_true rfl) (Nat.le_of_ble_eq_true rfl) zkX6_43 (fun q43 H hP hD hS => ?_)
  have hP : va_P G.1 vwCl ([(h0, .inr (7, [.ref q5, .ref q16, .int 0, .ref q32, .null, .null, .null, .null, .null]))] ++ staW G.2.1 f1 ++ staW G.2.1 f2 ++ hisW G.2.1 f3 ++ [(q43, .inr (3, [.null, .null, .int 0]))]) H := hP
  have hD : va_D (va_A [(h0, .inr (7, [.null, .null, .int 0, .null, .null, .null, .null, .null, .null]))] s.heap.size) ([(h0, .inr (7, [.ref q5, .ref q16, .int 0, .ref q32, .null, .null, .null, .null, .null]))] ++ staW G.2.1 f1 ++ staW G.2.1 f2 ++ hisW G.2.1 f3 ++ [(q43, .inr (3, [.null, .null, .int 0]))]) := hD
  refine W.cs (cells' := 157) (slots' := 1555) (by omega) (by omega) ?_
  refine lv_dup hx hb zkX6_46 rfl ?_
  refine ctor_back (Wr := [(h0, .inr (7, [.ref q5, .ref q16, .int 0, .ref q32, .null, .null, .null, .null, .null]))] ++ staW G.2.1 f1 ++ staW G.2.1 f2 ++ hisW G.2.1 f3) (mc := 2) (ms := 6) hP hD hS hA (va_runIN (As := []) (rest := [.ref q43, .ref h0]) ⟨hx, hb, hml, hown, hts⟩ ctr_X2 ⟨va_cnB 0 hts (good_c zw_cyX2_init) rfl rfl rfl hX.2.2.2.1 (htT _ zw_nX2) ⟨by decide, by decide, by decide +kernel⟩ ⟨Nat.le_of_ble_eq_true rfl, Nat.le_of_ble_eq_true rfl⟩, rfl, htT _ zw_iyX2_init⟩ ⟨CP_blind, CP_pre (Wr := [(h0, .inr (7, [.ref q5, .ref q16, .int 0, .ref q32, .null, .null, .null, .null, .null]))] ++ staW G.2.1 f1 ++ staW G.2.1 f2 ++ hisW G.2.1 f3) hP hK hD hS hA hX⟩ rfl rfl hl.1 rfl (lv_room (Nat.le_of_ble_eq_true rfl)) zkX6_47 ⟨Nat.le_of_ble_eq_true rfl, Nat.le_of_ble_eq_true rfl⟩) (fun f4 H locs ef4 hP hD hS => ?_)
  have hP : va_P G.1 vwCl ([(h0, .inr (7, [.ref q5, .ref q16, .int 0, .ref q32, .null, .null, .null, .null, .null]))] ++ staW G.2.1 f1 ++ staW G.2.1 f2 ++ hisW G.2.1 f3 ++ reaW G.2.1 f4) H := hP
  have hD : va_D (va_A [(h0, .inr (7, [.null, .null, .int 0, .null, .null, .null, .null, .null, .null]))] s.heap.size) ([(h0, .inr (7, [.ref q5, .ref q16, .int 0, .ref q32, .null, .null, .null, .null, .null]))] ++ staW G.2.1 f1 ++ staW G.2.1 f2 ++ hisW G.2.1 f3 ++ reaW G.2.1 f4) := hD
  refine W.cs (cells' := 159) (slots' := 1561) (by omega) (by omega) ?_
  refine va_putF (own := RX6) (ref := "CandleStatute") (ci := 7) (v := .ref q43) (ty := .object "CandleStatute$Reasons") (C := RX6) (T := TX6) (N := 9) hx hb htT uin_X6 tyX6 tyX6_ok nmX6 hown hK hP hD hS 0 rfl rfl 4 (Nat.le_of_ble_eq_true rfl) (htT _ zw_fX6_33) (fun _ h9 => h9) rfl hin rfl (by decide +kernel) rfl rfl (Nat.le_of_ble_eq_true rfl) zkX6_50 (fun H locs hP hD hS => ?_)
  have hP : va_P G.1 vwCl ([(h0, .inr (7, [.ref q5, .ref q16, .int 0, .ref q32, .ref q43, .null, .null, .null, .null]))] ++ staW G.2.1 f1 ++ staW G.2.1 f2 ++ hisW G.2.1 f3 ++ reaW G.2.1 f4) H := hP
  have hD : va_D (va_A [(h0, .inr (7, [.null, .null, .int 0, .null, .null, .null, .null, .null, .null]))] s.heap.size) ([(h0, .inr (7, [.ref q5, .ref q16, .int 0, .ref q32, .ref q43, .null, .null, .null, .null]))] ++ staW G.2.1 f1 ++ staW G.2.1 f2 ++ hisW G.2.1 f3 ++ reaW G.2.1 f4) := hD
  refine lv_aload_n hx hb zkX6_53 rfl (lv_at hl 0 rfl) ?_
  refine va_new (ci := 2) (fs := [.null, .null, .null, .null, .int 0, .int 0]) (C := RX1) (T := TX1) (N := 6) hx hb htT uin_X1 tyX1 tyX1_ok hown (htT _ zw_kX6_37) (htT _ zw_mX1) (htT _ zw_nX1) hK hP hD hS hA rfl (by decide +kernel) (Nat.le_of_ble_eq_true rfl) (Nat.le_of_ble_eq_true rfl) zkX6_54 (fun q54 H hP hD hS => ?_)
  have hP : va_P G.1 vwCl ([(h0, .inr (7, [.ref q5, .ref q16, .int 0, .ref q32, .ref q43, .null, .null, .null, .null]))] ++ staW G.2.1 f1 ++ staW G.2.1 f2 ++ hisW G.2.1 f3 ++ reaW G.2.1 f4 ++ [(q54, .inr (2, [.null, .null, .null, .null, .int 0, .int 0]))]) H := hP
  have hD : va_D (va_A [(h0, .inr (7, [.null, .null, .int 0, .null, .null, .null, .null, .null, .null]))] s.heap.size) ([(h0, .inr (7, [.ref q5, .ref q16, .int 0, .ref q32, .ref q43, .null, .null, .null, .null]))] ++ staW G.2.1 f1 ++ staW G.2.1 f2 ++ hisW G.2.1 f3 ++ reaW G.2.1 f4 ++ [(q54, .inr (2, [.null, .null, .null, .null, .int 0, .int 0]))]) := hD
  refine W.cs (cells' := 160) (slots' := 1567) (by omega) (by omega) ?_
  refine lv_dup hx hb zkX6_57 rfl ?_
  refine ctor_back (Wr := [(h0, .inr (7, [.ref q5, .ref q16, .int 0, .ref q32, .ref q43, .null, .null, .null, .null]))] ++ staW G.2.1 f1 ++ staW G.2.1 f2 ++ hisW G.2.1 f3 ++ reaW G.2.1 f4) (mc := 4) (ms := 240) hP hD hS hA (va_runIN (As := []) (rest := [.ref q54, .ref h0]) ⟨hx, hb, hml, hown, hts⟩ ctr_X1 ⟨va_cnB 0 hts (good_c zw_cyX1_init) rfl rfl rfl hX.2.2.2.2.1 (htT _ zw_nX1) ⟨by decide, by decide, by decide +kernel⟩ ⟨Nat.le_of_ble_eq_true rfl, Nat.le_of_ble_eq_true rfl⟩, rfl, htT _ zw_iyX1_init⟩ ⟨CP_blind, CP_pre (Wr := [(h0, .inr (7, [.ref q5, .ref q16, .int 0, .ref q32, .ref q43, .null, .null, .null, .null]))] ++ staW G.2.1 f1 ++ staW G.2.1 f2 ++ hisW G.2.1 f3 ++ reaW G.2.1 f4) hP hK hD hS hA hX⟩ rfl rfl hl.1 rfl (lv_room (Nat.le_of_ble_eq_true rfl)) zkX6_58 ⟨Nat.le_of_ble_eq_true rfl, Nat.le_of_ble_eq_true rfl⟩) (fun f5 H locs ef5 hP hD hS => ?_)
  have hP : va_P G.1 vwCl ([(h0, .inr (7, [.ref q5, .ref q16, .int 0, .ref q32, .ref q43, .null, .null, .null, .null]))] ++ staW G.2.1 f1 ++ staW G.2.1 f2 ++ hisW G.2.1 f3 ++ reaW G.2.1 f4 ++ ordW G.2.1 f5) H := hP
  have hD : va_D (va_A [(h0, .inr (7, [.null, .null, .int 0, .null, .null, .null, .null, .null, .null]))] s.heap.size) ([(h0, .inr (7, [.ref q5, .ref q16, .int 0, .ref q32, .ref q43, .null, .null, .null, .null]))] ++ staW G.2.1 f1 ++ staW G.2.1 f2 ++ hisW G.2.1 f3 ++ reaW G.2.1 f4 ++ ordW G.2.1 f5) := hD
  refine W.cs (cells' := 164) (slots' := 1807) (by omega) (by omega) ?_
  refine va_putF (own := RX6) (ref := "CandleStatute") (ci := 7) (v := .ref q54) (ty := .object "CandleStatute$Orders") (C := RX6) (T := TX6) (N := 9) hx hb htT uin_X6 tyX6 tyX6_ok nmX6 hown hK hP hD hS 0 rfl rfl 5 (Nat.le_of_ble_eq_true rfl) (htT _ zw_fX6_40) (fun _ h9 => h9) rfl hin rfl (by decide +kernel) rfl rfl (Nat.le_of_ble_eq_true rfl) zkX6_61 (fun H locs hP hD hS => ?_)
  have hP : va_P G.1 vwCl ([(h0, .inr (7, [.ref q5, .ref q16, .int 0, .ref q32, .ref q43, .ref q54, .null, .null, .null]))] ++ staW G.2.1 f1 ++ staW G.2.1 f2 ++ hisW G.2.1 f3 ++ reaW G.2.1 f4 ++ ordW G.2.1 f5) H := hP
  have hD : va_D (va_A [(h0, .inr (7, [.null, .null, .int 0, .null, .null, .null, .null, .null, .null]))] s.heap.size) ([(h0, .inr (7, [.ref q5, .ref q16, .int 0, .ref q32, .ref q43, .ref q54, .null, .null, .null]))] ++ staW G.2.1 f1 ++ staW G.2.1 f2 ++ hisW G.2.1 f3 ++ reaW G.2.1 f4 ++ ordW G.2.1 f5) := hD
  refine lv_aload_n hx hb zkX6_64 rfl (lv_at hl 0 rfl) ?_
  refine va_new (ci := 4) (fs := [.null, .null, .null]) (C := RX3) (T := TX3) (N := 3) hx hb htT uin_X3 tyX3 tyX3_ok hown (htT _ zw_kX6_44) (htT _ zw_mX3) (htT _ zw_nX3) hK hP hD hS hA rfl (by decide +kernel) (Nat.le_of_ble_eq_true rfl) (Nat.le_of_ble_eq_true rfl) zkX6_65 (fun q65 H hP hD hS => ?_)
  have hP : va_P G.1 vwCl ([(h0, .inr (7, [.ref q5, .ref q16, .int 0, .ref q32, .ref q43, .ref q54, .null, .null, .null]))] ++ staW G.2.1 f1 ++ staW G.2.1 f2 ++ hisW G.2.1 f3 ++ reaW G.2.1 f4 ++ ordW G.2.1 f5 ++ [(q65, .inr (4, [.null, .null, .null]))]) H := hP
  have hD : va_D (va_A [(h0, .inr (7, [.null, .null, .int 0, .null, .null, .null, .null, .null, .null]))] s.heap.size) ([(h0, .inr (7, [.ref q5, .ref q16, .int 0, .ref q32, .ref q43, .ref q54, .null, .null, .null]))] ++ staW G.2.1 f1 ++ staW G.2.1 f2 ++ hisW G.2.1 f3 ++ reaW G.2.1 f4 ++ ordW G.2.1 f5 ++ [(q65, .inr (4, [.null, .null, .null]))]) := hD
  refine W.cs (cells' := 165) (slots' := 1810) (by omega) (by omega) ?_
  refine lv_dup hx hb zkX6_68 rfl ?_
  refine ctor_back (Wr := [(h0, .inr (7, [.ref q5, .ref q16, .int 0, .ref q32, .ref q43, .ref q54, .null, .null, .null]))] ++ staW G.2.1 f1 ++ staW G.2.1 f2 ++ hisW G.2.1 f3 ++ reaW G.2.1 f4 ++ ordW G.2.1 f5) (mc := 3) (ms := 18) hP hD hS hA (va_runIN (As := []) (rest := [.ref q65, .ref h0]) ⟨hx, hb, hml, hown, hts⟩ ctr_X3 ⟨va_cnB 0 hts (good_c zw_cyX3_init) rfl rfl rfl hX.2.2.2.2.2 (htT _ zw_nX3) ⟨by decide, by decide, by decide +kernel⟩ ⟨Nat.le_of_ble_eq_true rfl, Nat.le_of_ble_eq_true rfl⟩, rfl, htT _ zw_iyX3_init⟩ ⟨CP_blind, CP_pre (Wr := [(h0, .inr (7, [.ref q5, .ref q16, .int 0, .ref q32, .ref q43, .ref q54, .null, .null, .null]))] ++ staW G.2.1 f1 ++ staW G.2.1 f2 ++ hisW G.2.1 f3 ++ reaW G.2.1 f4 ++ ordW G.2.1 f5) hP hK hD hS hA hX⟩ rfl rfl hl.1 rfl (lv_room (Nat.le_of_ble_eq_true rfl)) zkX6_69 ⟨Nat.le_of_ble_eq_true rfl, Nat.le_of_ble_eq_true rfl⟩) (fun f6 H locs ef6 hP hD hS => ?_)
  have hP : va_P G.1 vwCl ([(h0, .inr (7, [.ref q5, .ref q16, .int 0, .ref q32, .ref q43, .ref q54, .null, .null, .null]))] ++ staW G.2.1 f1 ++ staW G.2.1 f2 ++ hisW G.2.1 f3 ++ reaW G.2.1 f4 ++ ordW G.2.1 f5 ++ shaW G.2.1 f6) H := hP
  have hD : va_D (va_A [(h0, .inr (7, [.null, .null, .int 0, .null, .null, .null, .null, .null, .null]))] s.heap.size) ([(h0, .inr (7, [.ref q5, .ref q16, .int 0, .ref q32, .ref q43, .ref q54, .null, .null, .null]))] ++ staW G.2.1 f1 ++ staW G.2.1 f2 ++ hisW G.2.1 f3 ++ reaW G.2.1 f4 ++ ordW G.2.1 f5 ++ shaW G.2.1 f6) := hD
  refine W.cs (cells' := 168) (slots' := 1828) (by omega) (by omega) ?_
  refine va_putF (own := RX6) (ref := "CandleStatute") (ci := 7) (v := .ref q65) (ty := .object "CandleStatute$Sharing") (C := RX6) (T := TX6) (N := 9) hx hb htT uin_X6 tyX6 tyX6_ok nmX6 hown hK hP hD hS 0 rfl rfl 6 (Nat.le_of_ble_eq_true rfl) (htT _ zw_fX6_47) (fun _ h9 => h9) rfl hin rfl (by decide +kernel) rfl rfl (Nat.le_of_ble_eq_true rfl) zkX6_72 (fun H locs hP hD hS => ?_)
  have hP : va_P G.1 vwCl ([(h0, .inr (7, [.ref q5, .ref q16, .int 0, .ref q32, .ref q43, .ref q54, .ref q65, .null, .null]))] ++ staW G.2.1 f1 ++ staW G.2.1 f2 ++ hisW G.2.1 f3 ++ reaW G.2.1 f4 ++ ordW G.2.1 f5 ++ shaW G.2.1 f6) H := hP
  have hD : va_D (va_A [(h0, .inr (7, [.null, .null, .int 0, .null, .null, .null, .null, .null, .null]))] s.heap.size) ([(h0, .inr (7, [.ref q5, .ref q16, .int 0, .ref q32, .ref q43, .ref q54, .ref q65, .null, .null]))] ++ staW G.2.1 f1 ++ staW G.2.1 f2 ++ hisW G.2.1 f3 ++ reaW G.2.1 f4 ++ ordW G.2.1 f5 ++ shaW G.2.1 f6) := hD
  refine lv_aload_n hx hb zkX6_75 rfl (lv_at hl 0 rfl) ?_
  refine va_new (ci := 0) (fs := [.null, .int 0, .int 0, .int 0]) (C := RJ4) (T := TJ4) (N := 4) hx hb htT uin_J4 tyJ4 tyJ4_ok hown (htT _ zw_kX6_51) (htT _ zw_mJ4) (htT _ zw_nJ4) hK hP hD hS hA rfl (by decide +kernel) (Nat.le_of_ble_eq_true rfl) (Nat.le_of_ble_eq_true rfl) zkX6_76 (fun q76 H hP hD hS => ?_)
  have hP : va_P G.1 vwCl ([(h0, .inr (7, [.ref q5, .ref q16, .int 0, .ref q32, .ref q43, .ref q54, .ref q65, .null, .null]))] ++ staW G.2.1 f1 ++ staW G.2.1 f2 ++ hisW G.2.1 f3 ++ reaW G.2.1 f4 ++ ordW G.2.1 f5 ++ shaW G.2.1 f6 ++ [(q76, .inr (0, [.null, .int 0, .int 0, .int 0]))]) H := hP
  have hD : va_D (va_A [(h0, .inr (7, [.null, .null, .int 0, .null, .null, .null, .null, .null, .null]))] s.heap.size) ([(h0, .inr (7, [.ref q5, .ref q16, .int 0, .ref q32, .ref q43, .ref q54, .ref q65, .null, .null]))] ++ staW G.2.1 f1 ++ staW G.2.1 f2 ++ hisW G.2.1 f3 ++ reaW G.2.1 f4 ++ ordW G.2.1 f5 ++ shaW G.2.1 f6 ++ [(q76, .inr (0, [.null, .int 0, .int 0, .int 0]))]) := hD
  refine W.cs (cells' := 169) (slots' := 1832) (by omega) (by omega) ?_
  refine lv_dup hx hb zkX6_79 rfl ?_
  refine ctor_back (Wr := [(h0, .inr (7, [.ref q5, .ref q16, .int 0, .ref q32, .ref q43, .ref q54, .ref q65, .null, .null]))] ++ staW G.2.1 f1 ++ staW G.2.1 f2 ++ hisW G.2.1 f3 ++ reaW G.2.1 f4 ++ ordW G.2.1 f5 ++ shaW G.2.1 f6) (mc := 1) (ms := 16) hP hD hS hA (va_runI (As := []) (rest := [.ref q76, .ref h0]) ⟨hx, hb, hml, hown, hts⟩ ctr_J4 (cwI 0 hts (good_c zw_cyJ4_init_da8c8) rfl rfl rfl (htT _ zw_nJ4) (htT _ zw_lX6_53) (htT _ zw_iyJ4_init_da8c8) rfl ⟨by decide, by decide, by decide +kernel⟩ ⟨Nat.le_of_ble_eq_true rfl, Nat.le_of_ble_eq_true rfl⟩) ⟨CP_blind, CP_pre (Wr := [(h0, .inr (7, [.ref q5, .ref q16, .int 0, .ref q32, .ref q43, .ref q54, .ref q65, .null, .null]))] ++ staW G.2.1 f1 ++ staW G.2.1 f2 ++ hisW G.2.1 f3 ++ reaW G.2.1 f4 ++ ordW G.2.1 f5 ++ shaW G.2.1 f6) hP hK hD hS hA hX⟩ rfl rfl hl.1 rfl (lv_room (Nat.le_of_ble_eq_true rfl)) zkX6_80 ⟨Nat.le_of_ble_eq_true rfl, Nat.le_of_ble_eq_true rfl⟩) (fun f7 H locs ef7 hP hD hS => ?_)
  have hP : va_P G.1 vwCl ([(h0, .inr (7, [.ref q5, .ref q16, .int 0, .ref q32, .ref q43, .ref q54, .ref q65, .null, .null]))] ++ staW G.2.1 f1 ++ staW G.2.1 f2 ++ hisW G.2.1 f3 ++ reaW G.2.1 f4 ++ ordW G.2.1 f5 ++ shaW G.2.1 f6 ++ sbW G.2.1 f7) H := hP
  have hD : va_D (va_A [(h0, .inr (7, [.null, .null, .int 0, .null, .null, .null, .null, .null, .null]))] s.heap.size) ([(h0, .inr (7, [.ref q5, .ref q16, .int 0, .ref q32, .ref q43, .ref q54, .ref q65, .null, .null]))] ++ staW G.2.1 f1 ++ staW G.2.1 f2 ++ hisW G.2.1 f3 ++ reaW G.2.1 f4 ++ ordW G.2.1 f5 ++ shaW G.2.1 f6 ++ sbW G.2.1 f7) := hD
  refine W.cs (cells' := 170) (slots' := 1848) (by omega) (by omega) ?_
  refine va_putF (own := RX6) (ref := "CandleStatute") (ci := 7) (v := .ref q76) (ty := .object "java/lang/StringBuilder") (C := RX6) (T := TX6) (N := 9) hx hb htT uin_X6 tyX6 tyX6_ok nmX6 hown hK hP hD hS 0 rfl rfl 7 (Nat.le_of_ble_eq_true rfl) (htT _ zw_fX6_54) (fun _ h9 => h9) rfl hin rfl (by decide +kernel) rfl rfl (Nat.le_of_ble_eq_true rfl) zkX6_83 (fun H locs hP hD hS => ?_)
  have hP : va_P G.1 vwCl ([(h0, .inr (7, [.ref q5, .ref q16, .int 0, .ref q32, .ref q43, .ref q54, .ref q65, .ref q76, .null]))] ++ staW G.2.1 f1 ++ staW G.2.1 f2 ++ hisW G.2.1 f3 ++ reaW G.2.1 f4 ++ ordW G.2.1 f5 ++ shaW G.2.1 f6 ++ sbW G.2.1 f7) H := hP
  have hD : va_D (va_A [(h0, .inr (7, [.null, .null, .int 0, .null, .null, .null, .null, .null, .null]))] s.heap.size) ([(h0, .inr (7, [.ref q5, .ref q16, .int 0, .ref q32, .ref q43, .ref q54, .ref q65, .ref q76, .null]))] ++ staW G.2.1 f1 ++ staW G.2.1 f2 ++ hisW G.2.1 f3 ++ reaW G.2.1 f4 ++ ordW G.2.1 f5 ++ shaW G.2.1 f6 ++ sbW G.2.1 f7) := hD
  refine lv_aload_n hx hb zkX6_86 rfl (lv_at hl 0 rfl) ?_
  refine va_new (ci := 0) (fs := [.null, .int 0, .int 0, .int 0]) (C := RJ4) (T := TJ4) (N := 4) hx hb htT uin_J4 tyJ4 tyJ4_ok hown (htT _ zw_kX6_51) (htT _ zw_mJ4) (htT _ zw_nJ4) hK hP hD hS hA rfl (by decide +kernel) (Nat.le_of_ble_eq_true rfl) (Nat.le_of_ble_eq_true rfl) zkX6_87 (fun q87 H hP hD hS => ?_)
  have hP : va_P G.1 vwCl ([(h0, .inr (7, [.ref q5, .ref q16, .int 0, .ref q32, .ref q43, .ref q54, .ref q65, .ref q76, .null]))] ++ staW G.2.1 f1 ++ staW G.2.1 f2 ++ hisW G.2.1 f3 ++ reaW G.2.1 f4 ++ ordW G.2.1 f5 ++ shaW G.2.1 f6 ++ sbW G.2.1 f7 ++ [(q87, .inr (0, [.null, .int 0, .int 0, .int 0]))]) H := hP
  have hD : va_D (va_A [(h0, .inr (7, [.null, .null, .int 0, .null, .null, .null, .null, .null, .null]))] s.heap.size) ([(h0, .inr (7, [.ref q5, .ref q16, .int 0, .ref q32, .ref q43, .ref q54, .ref q65, .ref q76, .null]))] ++ staW G.2.1 f1 ++ staW G.2.1 f2 ++ hisW G.2.1 f3 ++ reaW G.2.1 f4 ++ ordW G.2.1 f5 ++ shaW G.2.1 f6 ++ sbW G.2.1 f7 ++ [(q87, .inr (0, [.null, .int 0, .int 0, .int 0]))]) := hD
  refine W.cs (cells' := 171) (slots' := 1852) (by omega) (by omega) ?_
  refine lv_dup hx hb zkX6_90 rfl ?_
  refine ctor_back (Wr := [(h0, .inr (7, [.ref q5, .ref q16, .int 0, .ref q32, .ref q43, .ref q54, .ref q65, .ref q76, .null]))] ++ staW G.2.1 f1 ++ staW G.2.1 f2 ++ hisW G.2.1 f3 ++ reaW G.2.1 f4 ++ ordW G.2.1 f5 ++ shaW G.2.1 f6 ++ sbW G.2.1 f7) (mc := 1) (ms := 16) hP hD hS hA (va_runI (As := []) (rest := [.ref q87, .ref h0]) ⟨hx, hb, hml, hown, hts⟩ ctr_J4 (cwI 0 hts (good_c zw_cyJ4_init_da8c8) rfl rfl rfl (htT _ zw_nJ4) (htT _ zw_lX6_53) (htT _ zw_iyJ4_init_da8c8) rfl ⟨by decide, by decide, by decide +kernel⟩ ⟨Nat.le_of_ble_eq_true rfl, Nat.le_of_ble_eq_true rfl⟩) ⟨CP_blind, CP_pre (Wr := [(h0, .inr (7, [.ref q5, .ref q16, .int 0, .ref q32, .ref q43, .ref q54, .ref q65, .ref q76, .null]))] ++ staW G.2.1 f1 ++ staW G.2.1 f2 ++ hisW G.2.1 f3 ++ reaW G.2.1 f4 ++ ordW G.2.1 f5 ++ shaW G.2.1 f6 ++ sbW G.2.1 f7) hP hK hD hS hA hX⟩ rfl rfl hl.1 rfl (lv_room (Nat.le_of_ble_eq_true rfl)) zkX6_91 ⟨Nat.le_of_ble_eq_true rfl, Nat.le_of_ble_eq_true rfl⟩) (fun f8 H locs ef8 hP hD hS => ?_)
  have hP : va_P G.1 vwCl ([(h0, .inr (7, [.ref q5, .ref q16, .int 0, .ref q32, .ref q43, .ref q54, .ref q65, .ref q76, .null]))] ++ staW G.2.1 f1 ++ staW G.2.1 f2 ++ hisW G.2.1 f3 ++ reaW G.2.1 f4 ++ ordW G.2.1 f5 ++ shaW G.2.1 f6 ++ sbW G.2.1 f7 ++ sbW G.2.1 f8) H := hP
  have hD : va_D (va_A [(h0, .inr (7, [.null, .null, .int 0, .null, .null, .null, .null, .null, .null]))] s.heap.size) ([(h0, .inr (7, [.ref q5, .ref q16, .int 0, .ref q32, .ref q43, .ref q54, .ref q65, .ref q76, .null]))] ++ staW G.2.1 f1 ++ staW G.2.1 f2 ++ hisW G.2.1 f3 ++ reaW G.2.1 f4 ++ ordW G.2.1 f5 ++ shaW G.2.1 f6 ++ sbW G.2.1 f7 ++ sbW G.2.1 f8) := hD
  refine W.cs (cells' := 172) (slots' := 1868) (by omega) (by omega) ?_
  refine va_putF (own := RX6) (ref := "CandleStatute") (ci := 7) (v := .ref q87) (ty := .object "java/lang/StringBuilder") (C := RX6) (T := TX6) (N := 9) hx hb htT uin_X6 tyX6 tyX6_ok nmX6 hown hK hP hD hS 0 rfl rfl 8 (Nat.le_of_ble_eq_true rfl) (htT _ zw_fX6_58) (fun _ h9 => h9) rfl hin rfl (by decide +kernel) rfl rfl (Nat.le_of_ble_eq_true rfl) zkX6_94 (fun H locs hP hD hS => ?_)
  have hP : va_P G.1 vwCl ([(h0, .inr (7, [.ref q5, .ref q16, .int 0, .ref q32, .ref q43, .ref q54, .ref q65, .ref q76, .ref q87]))] ++ staW G.2.1 f1 ++ staW G.2.1 f2 ++ hisW G.2.1 f3 ++ reaW G.2.1 f4 ++ ordW G.2.1 f5 ++ shaW G.2.1 f6 ++ sbW G.2.1 f7 ++ sbW G.2.1 f8) H := hP
  have hD : va_D (va_A [(h0, .inr (7, [.null, .null, .int 0, .null, .null, .null, .null, .null, .null]))] s.heap.size) ([(h0, .inr (7, [.ref q5, .ref q16, .int 0, .ref q32, .ref q43, .ref q54, .ref q65, .ref q76, .ref q87]))] ++ staW G.2.1 f1 ++ staW G.2.1 f2 ++ hisW G.2.1 f3 ++ reaW G.2.1 f4 ++ ordW G.2.1 f5 ++ shaW G.2.1 f6 ++ sbW G.2.1 f7 ++ sbW G.2.1 f8) := hD
  obtain ⟨g, hg⟩ : ∃ g : Nat → Nat, g = fun k => if k = 0 then h0 else if k < 15 then f1 (k - 1) else if k < 29 then f2 (k - 15) else if k < 155 then f3 (k - 27) else if k < 157 then f3 (k - 155) else if k < 160 then f4 (k - 157) else if k < 165 then f5 (k - 160) else if k < 169 then f6 (k - 165) else if k = 169 then f7 0 else if k = 170 then f8 0 else if k = 181 then f7 1 else f8 1 := ⟨_, rfl⟩
  have g0 : g 0 = h0 := by rw [hg]; rfl
  have e1 : ∀ j, j < 14 → f1 j = g (1 + j) := fun j hj => by
    rw [hg]
    show _ = if (1 + j) = 0 then h0 else if (1 + j) < 15 then f1 ((1 + j) - 1) else if (1 + j) < 29 then f2 ((1 + j) - 15) else if (1 + j) < 155 then f3 ((1 + j) - 27) else if (1 + j) < 157 then f3 ((1 + j) - 155) else if (1 + j) < 160 then f4 ((1 + j) - 157) else if (1 + j) < 165 then f5 ((1 + j) - 160) else if (1 + j) < 169 then f6 ((1 + j) - 165) else if (1 + j) = 169 then f7 0 else if (1 + j) = 170 then f8 0 else if (1 + j) = 181 then f7 1 else f8 1
    rw [if_neg (by omega), if_pos (by omega), Nat.add_sub_cancel_left]
  have e2 : ∀ j, j < 14 → f2 j = g (15 + j) := fun j hj => by
    rw [hg]
    show _ = if (15 + j) = 0 then h0 else if (15 + j) < 15 then f1 ((15 + j) - 1) else if (15 + j) < 29 then f2 ((15 + j) - 15) else if (15 + j) < 155 then f3 ((15 + j) - 27) else if (15 + j) < 157 then f3 ((15 + j) - 155) else if (15 + j) < 160 then f4 ((15 + j) - 157) else if (15 + j) < 165 then f5 ((15 + j) - 160) else if (15 + j) < 169 then f6 ((15 + j) - 165) else if (15 + j) = 169 then f7 0 else if (15 + j) = 170 then f8 0 else if (15 + j) = 181 then f7 1 else f8 1
    rw [if_neg (by omega), if_neg (by omega), if_pos (by omega), Nat.add_sub_cancel_left]
  have e3 : ∀ j, j < 128 → f3 j = g (if j < 2 then 155 + j else 27 + j) := fun j hj => by
    rw [hg]
    by_cases h2 : j < 2
    · rw [if_pos h2]
      show _ = if (155 + j) = 0 then h0 else if (155 + j) < 15 then f1 ((155 + j) - 1) else if (155 + j) < 29 then f2 ((155 + j) - 15) else if (155 + j) < 155 then f3 ((155 + j) - 27) else if (155 + j) < 157 then f3 ((155 + j) - 155) else if (155 + j) < 160 then f4 ((155 + j) - 157) else if (155 + j) < 165 then f5 ((155 + j) - 160) else if (155 + j) < 169 then f6 ((155 + j) - 165) else if (155 + j) = 169 then f7 0 else if (155 + j) = 170 then f8 0 else if (155 + j) = 181 then f7 1 else f8 1
      rw [if_neg (by omega), if_neg (by omega), if_neg (by omega), if_neg (by omega), if_pos (by omega), Nat.add_sub_cancel_left]
    · rw [if_neg h2]
      show _ = if (27 + j) = 0 then h0 else if (27 + j) < 15 then f1 ((27 + j) - 1) else if (27 + j) < 29 then f2 ((27 + j) - 15) else if (27 + j) < 155 then f3 ((27 + j) - 27) else if (27 + j) < 157 then f3 ((27 + j) - 155) else if (27 + j) < 160 then f4 ((27 + j) - 157) else if (27 + j) < 165 then f5 ((27 + j) - 160) else if (27 + j) < 169 then f6 ((27 + j) - 165) else if (27 + j) = 169 then f7 0 else if (27 + j) = 170 then f8 0 else if (27 + j) = 181 then f7 1 else f8 1
      rw [if_neg (by omega), if_neg (by omega), if_neg (by omega), if_pos (by omega), Nat.add_sub_cancel_left]
  have e4 : ∀ j, j < 3 → f4 j = g (157 + j) := fun j hj => by
    rw [hg]
    show _ = if (157 + j) = 0 then h0 else if (157 + j) < 15 then f1 ((157 + j) - 1) else if (157 + j) < 29 then f2 ((157 + j) - 15) else if (157 + j) < 155 then f3 ((157 + j) - 27) else if (157 + j) < 157 then f3 ((157 + j) - 155) else if (157 + j) < 160 then f4 ((157 + j) - 157) else if (157 + j) < 165 then f5 ((157 + j) - 160) else if (157 + j) < 169 then f6 ((157 + j) - 165) else if (157 + j) = 169 then f7 0 else if (157 + j) = 170 then f8 0 else if (157 + j) = 181 then f7 1 else f8 1
    rw [if_neg (by omega), if_neg (by omega), if_neg (by omega), if_neg (by omega), if_neg (by omega), if_pos (by omega), Nat.add_sub_cancel_left]
  have e5 : ∀ j, j < 5 → f5 j = g (160 + j) := fun j hj => by
    rw [hg]
    show _ = if (160 + j) = 0 then h0 else if (160 + j) < 15 then f1 ((160 + j) - 1) else if (160 + j) < 29 then f2 ((160 + j) - 15) else if (160 + j) < 155 then f3 ((160 + j) - 27) else if (160 + j) < 157 then f3 ((160 + j) - 155) else if (160 + j) < 160 then f4 ((160 + j) - 157) else if (160 + j) < 165 then f5 ((160 + j) - 160) else if (160 + j) < 169 then f6 ((160 + j) - 165) else if (160 + j) = 169 then f7 0 else if (160 + j) = 170 then f8 0 else if (160 + j) = 181 then f7 1 else f8 1
    rw [if_neg (by omega), if_neg (by omega), if_neg (by omega), if_neg (by omega), if_neg (by omega), if_neg (by omega), if_pos (by omega), Nat.add_sub_cancel_left]
  have e6 : ∀ j, j < 4 → f6 j = g (165 + j) := fun j hj => by
    rw [hg]
    show _ = if (165 + j) = 0 then h0 else if (165 + j) < 15 then f1 ((165 + j) - 1) else if (165 + j) < 29 then f2 ((165 + j) - 15) else if (165 + j) < 155 then f3 ((165 + j) - 27) else if (165 + j) < 157 then f3 ((165 + j) - 155) else if (165 + j) < 160 then f4 ((165 + j) - 157) else if (165 + j) < 165 then f5 ((165 + j) - 160) else if (165 + j) < 169 then f6 ((165 + j) - 165) else if (165 + j) = 169 then f7 0 else if (165 + j) = 170 then f8 0 else if (165 + j) = 181 then f7 1 else f8 1
    rw [if_neg (by omega), if_neg (by omega), if_neg (by omega), if_neg (by omega), if_neg (by omega), if_neg (by omega), if_neg (by omega), if_pos (by omega), Nat.add_sub_cancel_left]
  have e7 : ∀ j, j < 2 → f7 j = g (if j = 0 then 169 else 181) := fun j hj => by
    rw [hg]
    match j, hj with
    | 0, _ => rfl
    | 1, _ => rfl
  have e8 : ∀ j, j < 2 → f8 j = g (if j = 0 then 170 else 182) := fun j hj => by
    rw [hg]
    match j, hj with
    | 0, _ => rfl
    | 1, _ => rfl
  have hW : x6W G.2.1 g = [(h0, .inr (7, [.ref q5, .ref q16, .int 0, .ref q32, .ref q43, .ref q54, .ref q65, .ref q76, .ref q87]))] ++ staW G.2.1 f1 ++ staW G.2.1 f2 ++ hisW G.2.1 f3 ++ reaW G.2.1 f4 ++ ordW G.2.1 f5 ++ shaW G.2.1 f6 ++ sbW G.2.1 f7 ++ sbW G.2.1 f8 := by
    unfold x6W
    rw [g0, ← staW_cg (cA := G.2.1) (f := f1) (g := fun j => g (1 + j)) e1, ← staW_cg (cA := G.2.1) (f := f2) (g := fun j => g (15 + j)) e2, ← hisW_cg (cA := G.2.1) (f := f3) (g := fun j => g (if j < 2 then 155 + j else 27 + j)) e3, ← reaW_cg (cA := G.2.1) (f := f4) (g := fun j => g (157 + j)) e4, ← ordW_cg (cA := G.2.1) (f := f5) (g := fun j => g (160 + j)) e5, ← shaW_cg (cA := G.2.1) (f := f6) (g := fun j => g (165 + j)) e6, ← sbW_cg (cA := G.2.1) (f := f7) (g := fun j => g (if j = 0 then 169 else 181)) e7, ← sbW_cg (cA := G.2.1) (f := f8) (g := fun j => g (if j = 0 then 170 else 182)) e8,
      show g 1 = q5 from (e1 0 (by decide)).symm.trans ef1, show g 15 = q16 from (e2 0 (by decide)).symm.trans ef2, show g 155 = q32 from (e3 0 (by decide)).symm.trans ef3, show g 157 = q43 from (e4 0 (by decide)).symm.trans ef4, show g 160 = q54 from (e5 0 (by decide)).symm.trans ef5, show g 165 = q65 from (e6 0 (by decide)).symm.trans ef6, show g 169 = q76 from (e7 0 (by decide)).symm.trans ef7, show g 170 = q87 from (e8 0 (by decide)).symm.trans ef8]
  exact W.vret hx hb B.returns (fun t ht hW2 => ⟨⟨_, rfl, rfl, g, g0, by rw [ht, hW]; exact hP, by rw [hW]; exact hD⟩, hS.F ht⟩) hS.2.2 zkX6_97 hlocks
