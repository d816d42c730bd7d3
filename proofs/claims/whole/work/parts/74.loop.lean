/-! the law's loop and its entry -/
theorem mask63 (x : Int32) : ∃ t : Nat, t < 64 ∧ x &&& nI 63 = nI t := by
  refine ⟨x.toBitVec.toNat % 64, Nat.mod_lt _ (by decide), ?_⟩
  apply Int32.toBitVec_inj.mp
  show x.toBitVec &&& BitVec.ofNat 32 63 = BitVec.ofNat 32 (x.toBitVec.toNat % 64)
  apply BitVec.eq_of_toNat_eq
  rw [BitVec.toNat_and, BitVec.toNat_ofNat, BitVec.toNat_ofNat]
  have h63 : 63 % 2 ^ 32 = 2 ^ 6 - 1 := by decide
  rw [h63, Nat.and_two_pow_sub_one_eq_mod]
  omega
theorem end_iff {i L : Nat} (hL : L ≤ 2048) (hi : i ≤ 2048) (h : ¬ nI L - nI 4 < nI i) : i + 4 ≤ L := by
  rcases Nat.lt_or_ge L 4 with q | q
  · exfalso
    apply h
    apply Int32.lt_iff_toInt_lt.mpr
    rw [nI_toInt (n := i) (by omega)]
    have h4 : ∀ L, L < 4 → (nI L - nI 4).toInt < 0 := by decide +kernel
    have := h4 L q
    omega
  · rw [nI_sub q] at h
    rcases Nat.lt_or_ge (L - 4) i with z | z
    · exact absurd (nI_lt z (by omega)) h
    · omega
theorem x7_cg {cA : Nat → ClassId} {f g : Nat → Nat} (h : ∀ j, j < 10 → f j = g j) : x7W cA f = x7W cA g := by
  unfold x7W
  rw [h 0 (by decide), h 1 (by decide), h 2 (by decide), h 3 (by decide), h 4 (by decide), h 5 (by decide), h 6 (by decide), h 7 (by decide), h 8 (by decide), h 9 (by decide)]
section
variable {p : Program} {l : Launch} {e : Env} {s : State} {m : MethodId} {below : List Frame} {meth : Method} {c : Code} {b L : Nat} {xs : Nat → Int32} {G : Gp} {ad0 : Nat → Nat}
set_option maxHeartbeats 2000000 in
theorem law_loop (hX : LX p s m c b L xs G ad0) (hr : meth.sig.returnType = ret) (hlocks : meth.locks = false) : ∀ (n i V : Nat) (ad : Nat → Nat) (D : Mm) (H : Heap) (locs : List Loc) (ls : Array Slot), L < i + 4 * n + 4 → i ≤ 2048 → V + 30 * n ≤ 18000 → LH s G ad0 ad D H locs → J D V → lv_has ls 8 (lwv b i ad0) →
    W p l e room_1 s m #[Value.ref b] below meth c H locs (151 + pot D) (3562 + 2 * pot D) (lw_Z below #[Value.ref b] s) (F0 m 18 ls []) := by
  obtain ⟨hx, hb, hml, hown, hT, hXs, hbl, hK, hRO0, hL⟩ := id hX
  intro n
  induction n with
  | zero =>
    intro i V ad D H locs ls h1 h2 h3 hH hJ hl
    have h6 := J_pot hJ
    refine lv_iload_n hx hb zl_18 rfl (lv_at hl 3 rfl) ?_
    refine lv_aload_n hx hb zl_19 rfl (lv_at hl 0 rfl) ?_
    refine va_slen hx hb hXs hbl (Nat.not_le.mpr hbl) hH.2.2.2 zl_20 ?_
    refine lv_iconst hx hb zl_21 (v := nI 4) rfl ?_
    refine lv_isub hx hb zl_22 ?_
    refine lv_icmp_gt hx hb zl_23 (tgt := 1069) (by decide) (fun _ => ?_) (fun hz => ?_)
    · refine lv_iconst hx hb zl_1069 (v := 1) rfl ?_
      refine va_forget (fun q hq => hH.2.2.2.2.2 q hq) ?_
      refine W.widen (k := 600000) (n := 7302250) (by omega) (by omega) ?_
      exact W.base (lw_ret (Drawn.sameBut.refl s.drawn lw_cs) hx hb hr hlocks zl_1070)
    · exact absurd (end_iff hL h2 hz) (by omega)
  | succ n ih =>
    intro i V ad D H locs ls h1 h2 h3 hH hJ hl
    have h6 := J_pot hJ
    refine lv_iload_n hx hb zl_18 rfl (lv_at hl 3 rfl) ?_
    refine lv_aload_n hx hb zl_19 rfl (lv_at hl 0 rfl) ?_
    refine va_slen hx hb hXs hbl (Nat.not_le.mpr hbl) hH.2.2.2 zl_20 ?_
    refine lv_iconst hx hb zl_21 (v := nI 4) rfl ?_
    refine lv_isub hx hb zl_22 ?_
    refine lv_icmp_gt hx hb zl_23 (tgt := 1069) (by decide) (fun _ => ?_) (fun hz => ?_)
    · refine lv_iconst hx hb zl_1069 (v := 1) rfl ?_
      refine va_forget (fun q hq => hH.2.2.2.2.2 q hq) ?_
      refine W.widen (k := 600000) (n := 7302250) (by omega) (by omega) ?_
      exact W.base (lw_ret (Drawn.sameBut.refl s.drawn lw_cs) hx hb hr hlocks zl_1070)
    · have hi := end_iff hL h2 hz
      have tail : ∀ (ad3 : Nat → Nat) (D3 : Mm) (H3 : Heap) (locs3 : List Loc) (ls3 : Array Slot), LH s G ad0 ad3 D3 H3 locs3 → J D3 (V + 30) → lv_has ls3 8 (lwv b i ad0) → W p l e room_1 s m #[Value.ref b] below meth c H3 locs3 (151 + pot D3) (3562 + 2 * pot D3) (lw_Z below #[Value.ref b] s) (F0 m 1063 ls3 []) := by
        intro ad3 D3 H3 locs3 ls3 hH3 hJ3 hl3
        refine lv_iinc hx hb zl_1063 hl3 (k := 3) rfl (v := nI (i + 4)) (nI_add i 4) (by decide) rfl (fun ls4 hl4 => ?_)
        refine lv_goto hx hb zl_1066 (tgt := 18) (by decide) ?_
        exact ih (i + 4) (V + 30) ad3 D3 H3 locs3 ls4 (by omega) (by omega) (by omega) hH3 hJ3 (lv_sub hl4 [1, 2, 3, 0] rfl)
      have hV : V ≤ 18000 := by omega
      have e2 : (nI i).toNatClampNeg = i := nI_clamp (by omega)
      refine lv_aload_n hx hb zl_26 rfl (lv_at hl 0 rfl) ?_
      refine lv_iload_n hx hb zl_27 rfl (lv_at hl 3 rfl) ?_
      refine va_sld hx hb hXs hbl (Nat.not_le.mpr hbl) hH.2.2.2 (nI_in (show i < L by omega) (by omega)) zl_28 ?_
      refine lv_bipush hx hb zl_29 (v := nI 63) rfl ?_
      refine lv_iand hx hb zl_31 ?_
      obtain ⟨t, ht, et⟩ := mask63 (xs (nI i).toNatClampNeg)
      rw [et]
      match t, ht with
      | 0, _ => exact lv_tableIn hx hb zl_32 (off := 148) (tgt := 180) (by decide +kernel) (by decide +kernel) (by decide +kernel) (by decide) (arm_0 hX hH hJ hV hi hl tail)
      | 1, _ => exact lv_tableIn hx hb zl_32 (off := 191) (tgt := 223) (by decide +kernel) (by decide +kernel) (by decide +kernel) (by decide) (arm_1 hX hH hJ hV hi hl tail)
      | 2, _ => exact lv_tableIn hx hb zl_32 (off := 224) (tgt := 256) (by decide +kernel) (by decide +kernel) (by decide +kernel) (by decide) (arm_2 hX hH hJ hV hi hl tail)
      | 3, _ => exact lv_tableIn hx hb zl_32 (off := 267) (tgt := 299) (by decide +kernel) (by decide +kernel) (by decide +kernel) (by decide) (arm_3 hX hH hJ hV hi hl tail)
      | 4, _ => exact lv_tableIn hx hb zl_32 (off := 310) (tgt := 342) (by decide +kernel) (by decide +kernel) (by decide +kernel) (by decide) (arm_4 hX hH hJ hV hi hl tail)
      | 5, _ => exact lv_tableIn hx hb zl_32 (off := 343) (tgt := 375) (by decide +kernel) (by decide +kernel) (by decide +kernel) (by decide) (arm_5 hX hH hJ hV hi hl tail)
      | 6, _ => exact lv_tableIn hx hb zl_32 (off := 376) (tgt := 408) (by decide +kernel) (by decide +kernel) (by decide +kernel) (by decide) (arm_6 hX hH hJ hV hi hl tail)
      | 7, _ => exact lv_tableIn hx hb zl_32 (off := 389) (tgt := 421) (by decide +kernel) (by decide +kernel) (by decide +kernel) (by decide) (arm_7 hX hH hJ hV hi hl tail)
      | 8, _ => exact lv_tableIn hx hb zl_32 (off := 412) (tgt := 444) (by decide +kernel) (by decide +kernel) (by decide +kernel) (by decide) (arm_8 hX hH hJ hV hi hl tail)
      | 9, _ => exact lv_tableIn hx hb zl_32 (off := 435) (tgt := 467) (by decide +kernel) (by decide +kernel) (by decide +kernel) (by decide) (arm_9 hX hH hJ hV hi hl tail)
      | 10, _ => exact lv_tableIn hx hb zl_32 (off := 478) (tgt := 510) (by decide +kernel) (by decide +kernel) (by decide +kernel) (by decide) (arm_10 hX hH hJ hV hi hl tail)
      | 11, _ => exact lv_tableIn hx hb zl_32 (off := 511) (tgt := 543) (by decide +kernel) (by decide +kernel) (by decide +kernel) (by decide) (arm_11 hX hH hJ hV hi hl tail)
      | 12, _ => exact lv_tableIn hx hb zl_32 (off := 534) (tgt := 566) (by decide +kernel) (by decide +kernel) (by decide +kernel) (by decide) (arm_12 hX hH hJ hV hi hl tail)
      | 13, _ => exact lv_tableIn hx hb zl_32 (off := 557) (tgt := 589) (by decide +kernel) (by decide +kernel) (by decide +kernel) (by decide) (arm_13 hX hH hJ hV hi hl tail)
      | 14, _ => exact lv_tableIn hx hb zl_32 (off := 590) (tgt := 622) (by decide +kernel) (by decide +kernel) (by decide +kernel) (by decide) (arm_14 hX hH hJ hV hi hl tail)
      | 15, _ => exact lv_tableIn hx hb zl_32 (off := 613) (tgt := 645) (by decide +kernel) (by decide +kernel) (by decide +kernel) (by decide) (arm_15 hX hH hJ hV hi hl tail)
      | 16, _ => exact lv_tableIn hx hb zl_32 (off := 636) (tgt := 668) (by decide +kernel) (by decide +kernel) (by decide +kernel) (by decide) (arm_16 hX hH hJ hV hi hl tail)
      | 17, _ => exact lv_tableIn hx hb zl_32 (off := 659) (tgt := 691) (by decide +kernel) (by decide +kernel) (by decide +kernel) (by decide) (arm_17 hX hH hJ hV hi hl tail)
      | 18, _ => exact lv_tableIn hx hb zl_32 (off := 682) (tgt := 714) (by decide +kernel) (by decide +kernel) (by decide +kernel) (by decide) (arm_18 hX hH hJ hV hi hl tail)
      | 19, _ => exact lv_tableIn hx hb zl_32 (off := 705) (tgt := 737) (by decide +kernel) (by decide +kernel) (by decide +kernel) (by decide) (arm_19 hX hH hJ hV hi hl tail)
      | 20, _ => exact lv_tableIn hx hb zl_32 (off := 728) (tgt := 760) (by decide +kernel) (by decide +kernel) (by decide +kernel) (by decide) (arm_20 hX hH hJ hV hi hl tail)
      | 21, _ => exact lv_tableIn hx hb zl_32 (off := 751) (tgt := 783) (by decide +kernel) (by decide +kernel) (by decide +kernel) (by decide) (arm_21 hX hH hJ hV hi hl tail)
      | 22, _ => exact lv_tableIn hx hb zl_32 (off := 764) (tgt := 796) (by decide +kernel) (by decide +kernel) (by decide +kernel) (by decide) (arm_22 hX hH hJ hV hi hl tail)
      | 23, _ => exact lv_tableIn hx hb zl_32 (off := 787) (tgt := 819) (by decide +kernel) (by decide +kernel) (by decide +kernel) (by decide) (arm_23 hX hH hJ hV hi hl tail)
      | 24, _ => exact lv_tableIn hx hb zl_32 (off := 800) (tgt := 832) (by decide +kernel) (by decide +kernel) (by decide +kernel) (by decide) (arm_24 hX hH hJ hV hi hl tail)
      | 25, _ => exact lv_tableIn hx hb zl_32 (off := 823) (tgt := 855) (by decide +kernel) (by decide +kernel) (by decide +kernel) (by decide) (arm_25 hX hH hJ hV hi hl tail)
      | 26, _ => exact lv_tableIn hx hb zl_32 (off := 872) (tgt := 904) (by decide +kernel) (by decide +kernel) (by decide +kernel) (by decide) (arm_26 hX hH hJ hV hi hl tail)
      | 27, _ => exact lv_tableIn hx hb zl_32 (off := 895) (tgt := 927) (by decide +kernel) (by decide +kernel) (by decide +kernel) (by decide) (arm_27 hX hH hJ hV hi hl tail)
      | 28, _ => exact lv_tableIn hx hb zl_32 (off := 908) (tgt := 940) (by decide +kernel) (by decide +kernel) (by decide +kernel) (by decide) (arm_28 hX hH hJ hV hi hl tail)
      | 29, _ => exact lv_tableIn hx hb zl_32 (off := 949) (tgt := 981) (by decide +kernel) (by decide +kernel) (by decide +kernel) (by decide) (arm_29 hX hH hJ hV hi hl tail)
      | 30, _ => exact lv_tableIn hx hb zl_32 (off := 992) (tgt := 1024) (by decide +kernel) (by decide +kernel) (by decide +kernel) (by decide) (arm_30 hX hH hJ hV hi hl tail)
      | 31, _ => exact lv_tableIn hx hb zl_32 (off := 1005) (tgt := 1037) (by decide +kernel) (by decide +kernel) (by decide +kernel) (by decide) (arm_31 hX hH hJ hV hi hl tail)
      | 32, _ => exact lv_tableIn hx hb zl_32 (off := 1018) (tgt := 1050) (by decide +kernel) (by decide +kernel) (by decide +kernel) (by decide) (arm_32 hX hH hJ hV hi hl tail)
      | t + 33, ht =>
        refine lv_tableOut hx hb zl_32 (tgt := 1063) (Or.inr ?_) (by decide) (tail ad D H locs ls hH (hJ.mono (by omega)) hl)
        rw [nI_toInt (by omega)]
        omega
end
theorem zs_c6 : Cond.classLink R_law 7 RX6 ∈ Tall := atT_in (i := 6021) (by decide +kernel)
theorem zs_m6 : Cond.instantiable RX6 9 ∈ Tall := atT_in (i := 6022) (by decide +kernel)
theorem zs_n6 : Cond.initialized RX6 ∈ Tall := atT_in (i := 6001) (by decide +kernel)
theorem zs_l6 : Cond.methodLink R_law 9 yX6_init ∈ Tall := atT_in (i := 6023) (by decide +kernel)
theorem zs_i6 : Cond.instanceMethod yX6_init ∈ Tall := atT_in (i := 6024) (by decide +kernel)
theorem zs_k6 : Cond.code yX6_init cX6_init 1 none ∈ Tall := atT_in (i := 6025) (by decide +kernel)
theorem zs_c7 : Cond.classLink R_law 10 RX7 ∈ Tall := atT_in (i := 10022) (by decide +kernel)
theorem zs_m7 : Cond.instantiable RX7 25 ∈ Tall := atT_in (i := 10023) (by decide +kernel)
theorem zs_n7 : Cond.initialized RX7 ∈ Tall := atT_in (i := 6012) (by decide +kernel)
theorem zs_l7 : Cond.methodLink R_law 12 yX7_init ∈ Tall := atT_in (i := 10024) (by decide +kernel)
theorem zs_i7 : Cond.instanceMethod yX7_init ∈ Tall := atT_in (i := 10025) (by decide +kernel)
theorem zs_k7 : Cond.code yX7_init cX7_init 2 none ∈ Tall := atT_in (i := 10026) (by decide +kernel)
theorem good_t {w1 : Cond} (h : w1 ∈ Tall) : GoodIn Tall (w1 :: Tall) := fun w hw => by
  rcases List.mem_cons.mp hw with e | h2
  · rw [e]; exact ⟨h, (goodTall _ h).2⟩
  · exact ⟨h2, (goodTall _ h2).2⟩
set_option maxHeartbeats 4000000 in
set_option maxRecDepth 100000 in
theorem whole_start {p : Program} {e : Env} {s : State} {m : MethodId} {below : List Frame} {meth : Method} {c : Code} (l : Launch) (hflags : l.flags = flags0) {b L : Nat} {xs : Nat → Int32} (hL : L ≤ 2048) (C0 : lw_At p s m meth c b L xs) : W p l e room_1 s m #[Value.ref b] below meth c s.heap [] 0 0 (lw_Z below #[Value.ref b] s) (entryFrame m ([Value.ref b] : List Value).toArray 8) := by
  obtain ⟨hx, hb, hr, hml, hown, hts, hXs, hbl, hlocks, hgv⟩ := C0
  have hAn : ∀ a : Nat, a < s.heap.size → ¬ AL s a := fun a h => Nat.not_le.mpr h
  have hT := law_T hts
  obtain ⟨g, cA, hK⟩ := law_K hts
  obtain ⟨adS, fv, hRO⟩ := law_RO (A := AL s) hts hgv hAn
  have hXT := law_XT (A := AL s) hts hgv hAn
  obtain ⟨G, hG⟩ : ∃ G : Gp, G = (g, cA, fv) := ⟨_, rfl⟩
  have hK : va_K G.1 vwCl (tysA G.2.1) s := by rw [hG]; exact hK
  have hRO : RO adS G.2.2 (AL s) s s.heap := by rw [hG]; exact hRO
  have hA : ∀ q : Nat, s.heap.size ≤ q → AL s q := fun _ h => h
  have hS : va_S (AL s) s.heap s.heap [] := va_S.rf
  have hP : va_P G.1 vwCl [] s.heap := fun k q h => by simp at h
  have hD : va_D (AL s) [] := ⟨fun i j p q h => by simp at h, fun k q h => by simp at h⟩
  have hl := lv_entry [.ref b] (n := 8) (Nat.le_of_ble_eq_true rfl)
  rw [lg_entry_eq]
  generalize (lg_sl [.ref b] ++ List.replicate (8 - (lg_sl [.ref b]).length) Slot.unset).toArray = ls at hl ⊢
  have hl : lv_has ls 8 [(0, .ref b)] := hl
  refine va_new (ci := 7) (fs := [.null, .null, .int 0, .null, .null, .null, .null, .null, .null]) (C := RX6) (T := TX6) (N := 9) hx hb hT uin_X6 tyX6 tyX6_ok hown (hT _ zs_c6) (hT _ zs_m6) (hT _ zs_n6) hK hP hD hS hA rfl (by decide +kernel) (Nat.le_of_ble_eq_true rfl) (Nat.le_of_ble_eq_true rfl) zl_0 (fun q0 H hP hD hS => ?_)
  refine lv_dup hx hb zl_3 rfl ?_
  refine W.cs (cells' := 1) (slots' := 9) (by omega) (by omega) ?_
  refine ctor_back (Wr := []) (mc := 172) (ms := 1868) hP hD hS hA (va_runI (As := []) (rest := [.ref q0]) ⟨hx, hb, hml, hown, hT⟩ ctr_X6 (cwI 0 hT (good_t zs_k6) rfl rfl rfl (hT _ zs_n6) (hT _ zs_l6) (hT _ zs_i6) rfl ⟨by decide, by decide, by decide +kernel⟩ ⟨Nat.le_of_ble_eq_true rfl, Nat.le_of_ble_eq_true rfl⟩) ⟨CP_blind, CP_pre (Wr := []) hP hK hD hS hA hXT⟩ rfl rfl hl.1 rfl (lv_room (Nat.le_of_ble_eq_true rfl)) zl_4 ⟨Nat.le_of_ble_eq_true rfl, Nat.le_of_ble_eq_true rfl⟩) (fun f1 H locs ef1 hP hD hS => ?_)
  have hP : va_P G.1 vwCl (x6W G.2.1 f1) H := hP
  have hD : va_D (AL s) (x6W G.2.1 f1) := hD
  refine W.cs (cells' := 173) (slots' := 1877) (by omega) (by omega) ?_
  refine lv_astore_n hx hb zl_7 rfl hl (by decide) rfl (fun ls hl => ?_)
  have hl : lv_has ls 8 [(1, .ref q0), (0, .ref b)] := hl
  refine va_new (ci := 8) (fs := [.int 0, .int 0, .int 0, .int 0, .int 0, .int 0, .int 0, .int 0, .int 0, .null, .null, .null, .null, .null, .null, .null, .int 0, .null, .null, .int 0, .int 0, .int 0, .int 0, .int 0, .int 0]) (C := RX7) (T := TX7) (N := 25) hx hb hT uin_X7 tyX7 tyX7_ok hown (hT _ zs_c7) (hT _ zs_m7) (hT _ zs_n7) hK hP hD hS hA rfl (by decide +kernel) (Nat.le_of_ble_eq_true rfl) (Nat.le_of_ble_eq_true rfl) zl_8 (fun q1 H hP hD hS => ?_)
  refine lv_dup hx hb zl_11 rfl ?_
  refine W.cs (cells' := 174) (slots' := 1902) (by omega) (by omega) ?_
  refine ctor_back (Wr := x6W G.2.1 f1) (mc := 9) (ms := 1724) hP hD hS hA (va_runI (As := []) (rest := [.ref q1]) ⟨hx, hb, hml, hown, hT⟩ ctr_X7 (cwI 0 hT (good_t zs_k7) rfl rfl rfl (hT _ zs_n7) (hT _ zs_l7) (hT _ zs_i7) rfl ⟨by decide, by decide, by decide +kernel⟩ ⟨Nat.le_of_ble_eq_true rfl, Nat.le_of_ble_eq_true rfl⟩) ⟨CP_blind, CP_pre (Wr := x6W G.2.1 f1) hP hK hD hS hA hXT⟩ rfl rfl hl.1 rfl (lv_room (Nat.le_of_ble_eq_true rfl)) zl_12 ⟨Nat.le_of_ble_eq_true rfl, Nat.le_of_ble_eq_true rfl⟩) (fun f2 H locs ef2 hP hD hS => ?_)
  refine W.cs (cells' := 183) (slots' := 3626) (by omega) (by omega) ?_
  refine lv_astore_n hx hb zl_15 rfl hl (by decide) rfl (fun ls hl => ?_)
  have hl : lv_has ls 8 [(2, .ref q1), (1, .ref q0), (0, .ref b)] := hl
  refine lv_iconst hx hb zl_16 (v := nI 0) rfl ?_
  refine lv_istore_n hx hb zl_17 rfl hl (by decide) rfl (fun ls hl => ?_)
  have hl : lv_has ls 8 [(3, .int (nI 0)), (2, .ref q1), (1, .ref q0), (0, .ref b)] := hl
  obtain ⟨ad0, ha0⟩ : ∃ ad0 : Nat → Nat, ad0 = fun k => if 171 ≤ k ∧ k < 181 then f2 (k - 171) else if k < 1000 then f1 k else adS k := ⟨_, rfl⟩
  have a1 : ∀ k, k < 171 ∨ k = 181 ∨ k = 182 → f1 k = ad0 k := fun k h => by
    rw [ha0]
    show _ = if 171 ≤ k ∧ k < 181 then f2 (k - 171) else if k < 1000 then f1 k else adS k
    rw [if_neg (by omega), if_pos (by omega)]
  have a2 : ∀ j, j < 10 → f2 j = ad0 (171 + j) := fun j h => by
    rw [ha0]
    show _ = if 171 ≤ 171 + j ∧ 171 + j < 181 then f2 (171 + j - 171) else if 171 + j < 1000 then f1 (171 + j) else adS (171 + j)
    rw [if_pos (by omega), Nat.add_sub_cancel_left]
  have a3 : ∀ k, 1000 ≤ k → ad0 k = adS k := fun k h => by
    rw [ha0]
    show (if 171 ≤ k ∧ k < 181 then f2 (k - 171) else if k < 1000 then f1 k else adS k) = _
    rw [if_neg (by omega), if_neg (by omega)]
  have e0 : ad0 0 = q0 := (a1 0 (by decide)).symm.trans ef1
  have e1 : ad0 171 = q1 := (a2 0 (by decide)).symm.trans ef2
  have eW : x6W G.2.1 f1 ++ x7W G.2.1 f2 = frag G.2.1 ad0 LL := by
    unfold LL
    rw [frag_app, ← x6_frag, ← x7_frag, x6_cg a1, x7_cg a2]
  rw [eW] at hP hD
  obtain ⟨hP0, hD0⟩ := ws_start hP hD
  have hX : LX p s m c b L xs G ad0 := ⟨hx, hb, hml, hown, hT, hXs, hbl, hK, RO_hi a3 hRO, hL⟩
  refine W.cs (cells' := 151 + pot D0) (slots' := 3562 + 2 * pot D0) (by rw [pot_start]) (by rw [pot_start]) ?_
  refine law_loop hX hr hlocks 512 0 0 ad0 D0 H locs ls (by omega) (by omega) (by omega) ⟨agree.rf, hP0, hD0, hS⟩ J_start ?_
  show lv_has ls 8 [(0, .ref b), (1, .ref (ad0 0)), (2, .ref (ad0 171)), (3, .int (nI 0))]
  rw [e0, e1]
  exact lv_sub hl [3, 2, 1, 0] rfl
