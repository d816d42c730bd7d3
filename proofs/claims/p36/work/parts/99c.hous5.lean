/-! the law's houses: one round, and all -/
theorem nz_op {n B h : Nat} {V : Nat → Int32} (H : IV n V B) (hh : h < 6) : (opc V h = 1 ∧ vOpen V h) ∨ (opc V h = 0 ∧ ¬ vOpen V h) := by
  have a := opc_01 H hh
  by_cases z : vOpen V h
  · exact Or.inl ⟨a.2.2.mp z, z⟩
  · refine Or.inr ⟨?_, z⟩
    have : opc V h ≠ 1 := fun q => z (a.2.2.mpr q)
    omega
theorem th_len {O S P : Nat → Nat} {h : Nat} (hh : h ≤ 6) : (thL O S P h).length ≤ 12 * h := thL_len h
set_option maxHeartbeats 1000000 in
theorem hs_body {d : Nat} {D : Mm} {Q : Option Value → Mm → Prop} {n B h o b lo uu : Nat} {V : Nat → Int32} {l5 : Int32} {u8 u9 u10 u11 u12 u13 u14 u15 u16 : Value} (n8 : nvQ u8) (n9 : nvQ u9) (n10 : nvQ u10) (n11 : nvQ u11) (n12 : nvQ u12) (n13 : nvQ u13) (n14 : nvQ u14) (n15 : nvQ u15) (n16 : nvQ u16) (R : Rel D n V) (H : IV n V B) (hB : B ≤ 9000) (X : XG n V B) (hh : h < 6) (g : SbX D lo 80 uu o b (thL (opc V) (stc V) (poc V) h)) (hu1 : uu ≤ 500000)
    (hl : (h = 0 ∧ l5 = -1) ∨ (0 < h ∧ ∃ r0, r0 < 6 ∧ rkN 6 (ordK (clmI n V) (stoI V)) r0 = h - 1 ∧ l5 = nI r0))
    (hk : ∀ (D2 : Mm) (b2 u2 r : Nat) (u8 u9 u10 u11 u12 u13 u14 u15 u16 : Value), SbX D2 lo 80 u2 o b2 (thL (opc V) (stc V) (poc V) (h + 1)) → u2 ≤ uu + 210 → FrL lo D D2 → r < 6 → rkN 6 (ordK (clmI n V) (stoI V)) r = h → nvQ u8 → nvQ u9 → nvQ u10 → nvQ u11 → nvQ u12 → nvQ u13 → nvQ u14 → nvQ u15 → nvQ u16 → Wp (d + 10) 114 Q 24 [.ref 0, .int (nI (sN6 (h + 1) (opc V))), .int (nI (sN6 (h + 1) (stc V))), .int (nI (sN6 (h + 1) (poc V))), .int (nI (sN6 (h + 1) (clmN n V))), .int (nI r), .ref o, .int (nI (h + 1)), u8, u9, u10, u11, u12, u13, u14, u15, u16] [] D2) :
    Wp (d + 10) 114 Q 24 [.ref 0, .int (nI (sN6 (h) (opc V))), .int (nI (sN6 (h) (stc V))), .int (nI (sN6 (h) (poc V))), .int (nI (sN6 (h) (clmN n V))), .int l5, .ref o, .int (nI (h)), u8, u9, u10, u11, u12, u13, u14, u15, u16] [] D := by
  have hBE := DBv
  have h12 := H.2.1
  have hop := H.op
  have ho := ho_nat H hh
  have hsm := SM_le H
  have hst := sN6_elt (f := stc V) 6 hh
  have hpo := sN6_elt (f := poc V) 6 hh
  have hcs := clm_sum H X hB hh
  have hln := thL_len (O := opc V) (S := stc V) (P := poc V) h
  have he1 : thL (opc V) (stc V) (poc V) (h + 1) = thL (opc V) (stc V) (poc V) h ++ (if h = 0 then [] else [32]) ++ thS (opc V h) (stc V h) (poc V h) := rfl
  obtain ⟨r, hr, hrk, hrf⟩ := ranked_at H (show B ≤ 20000 by omega) hh
  -- what is right
  have C5 : ∀ (D4 : Mm) (b4 u4 q : Nat) (x : Int32) (u16 : Value), nvQ u16 → SbX D4 lo 80 u4 o b4 (thL (opc V) (stc V) (poc V) (h + 1)) → u4 ≤ uu + 210 → FrL lo D D4 → (q = 1 ∧ vOpen V h ∨ q = 0 ∧ ¬ vOpen V h) → 0 ≤ x → (x = 0 → l5 ≤ nI r) → Wp (d + 10) 114 Q 438 [.ref 0, .int (nI (sN6 h (opc V) + opc V h)), .int (nI (sN6 h (stc V) + stc V h)), .int (nI (sN6 h (poc V) + poc V h)), .int (nI (sN6 h (clmN n V) + clmN n V h)), .int l5, .ref o, .int (nI (h)), .int (nI (sN6 n (trc V h))), .int (nI (sN6 n (mnc h V))), .int (nI (sN6 n (wrc h V))), .int (nI (sN6 n (oec h V))), .int (nI (clmN n V h)), .int (nI (q)), .int (nI (r)), .int x, u16] [] D4 := by
    intro D4 b4 u4 q x u16 m16 g4 hu4 f hq hx hx0
    have R4 := f.rel R
    have k := hk D4 b4 u4 r (.int (nI (sN6 n (trc V h)))) (.int (nI (sN6 n (mnc h V)))) (.int (nI (sN6 n (wrc h V)))) (.int (nI (sN6 n (oec h V)))) (.int (nI (clmN n V h))) (.int (nI q)) (.int (nI r)) (.int x) (.int (nI 1)) g4 hu4 f hr hrk (nvQ.i _) (nvQ.i _) (nvQ.i _) (nvQ.i _) (nvQ.i _) (nvQ.i _) (nvQ.i _) (nvQ.i _) (nvQ.i _)
    have c4 := (clm_nat H (show B ≤ 20000 by omega) hh).1
    have cw := tray_nat H (o := h)
    have cb := (H.wb h hh).trans cw
    have hW := X.1.2.2 h hh
    have hX := H.2.2.2.2.2.1 h hh
    rcases hq with ⟨rfl, z⟩ | ⟨rfl, z⟩
    · exact hs_e1 m16 R4 h12 hop hh g4.ob.1 hr c4 cnt_nat2 mWr_nat (oes_nat H) cw cb hW hX hx hx0 k
    · have e := (X.1.2.1 h hh).resolve_left z
      exact hs_e0 m16 R4 h12 hop hh g4.ob.1 hr c4 cnt_nat2 mWr_nat (oes_nat H) cw cb hW hX hx hx0 (mnc_shut X hh z) e.1 e.2 k
  -- the order
  have C4 : ∀ (D4 : Mm) (b4 u4 q : Nat) (u14 u15 u16 : Value), nvQ u14 → nvQ u15 → nvQ u16 → SbX D4 lo 80 u4 o b4 (thL (opc V) (stc V) (poc V) (h + 1)) → u4 ≤ uu + 210 → FrL lo D D4 → (q = 1 ∧ vOpen V h ∨ q = 0 ∧ ¬ vOpen V h) → Wp (d + 10) 114 Q 377 [.ref 0, .int (nI (sN6 h (opc V) + opc V h)), .int (nI (sN6 h (stc V) + stc V h)), .int (nI (sN6 h (poc V) + poc V h)), .int (nI (sN6 h (clmN n V) + clmN n V h)), .int l5, .ref o, .int (nI (h)), .int (nI (sN6 n (trc V h))), .int (nI (sN6 n (mnc h V))), .int (nI (sN6 n (wrc h V))), .int (nI (sN6 n (oec h V))), .int (nI (clmN n V h)), .int (nI (q)), u14, u15, u16] [] D4 := by
    intro D4 b4 u4 q u14 u15 u16 m14 m15 m16 g4 hu4 f hq
    have R4 := f.rel R
    have hcl := H.clN (show B ≤ 20000 by omega)
    rcases hl with ⟨hs0, rfl⟩ | ⟨hs0, r0, hr0, hk0, rfl⟩
    · exact hs_d0 m14 m15 m16 R4 h12 hop hcl H.stN hh g4.ob.1 hrf (C5 D4 b4 u4 q _ u16 m16 g4 hu4 f hq (by decide) (fun e => absurd e (by decide)))
    · refine hs_d1 m14 m15 m16 R4 h12 hop hcl H.stN hh g4.ob.1 hrf hr0 hr (fun x ex => ?_)
      have ho := rk_ord (ordK_ok (N := 6) (x := clmI n V) (y := stoI V)) hr0 hr (by omega)
      have hi := mBy_int H (show B ≤ 20000 by omega) hr hr0
      rw [← ex] at hi
      refine C5 D4 b4 u4 q x u16 m16 g4 hu4 f hq ?_ (fun e => ?_)
      · rw [Int32.le_iff_toInt_le, hi, show (0 : Int32).toInt = 0 from rfl]
        unfold ordK at ho
        split <;> omega
      · rw [e, show (0 : Int32).toInt = 0 from rfl] at hi
        unfold ordK at ho
        refine (nle (by omega) (by omega)).mpr ?_
        split at hi <;> omega
  -- the text
  have C3 : ∀ (D4 : Mm) (b4 u4 q : Nat) (tt : List Nat) (u14 u15 u16 : Value), nvQ u14 → nvQ u15 → nvQ u16 → SbX D4 lo 80 u4 o b4 tt → tt = thL (opc V) (stc V) (poc V) h ++ (if h = 0 then [] else [32]) → u4 ≤ uu → FrL lo D D4 → (q = 1 ∧ vOpen V h ∨ q = 0 ∧ ¬ vOpen V h) → Wp (d + 10) 114 Q 290 [.ref 0, .int (nI (sN6 h (opc V) + opc V h)), .int (nI (sN6 h (stc V) + stc V h)), .int (nI (sN6 h (poc V) + poc V h)), .int (nI (sN6 h (clmN n V) + clmN n V h)), .int l5, .ref o, .int (nI (h)), .int (nI (sN6 n (trc V h))), .int (nI (sN6 n (mnc h V))), .int (nI (sN6 n (wrc h V))), .int (nI (sN6 n (oec h V))), .int (nI (clmN n V h)), .int (nI (q)), u14, u15, u16] [.ref o] D4 := by
    intro D4 b4 u4 q tt u14 u15 u16 m14 m15 m16 g4 et hu4 f hq
    have R4 := f.rel R
    have htl : tt.length ≤ 61 := by
      rw [et, List.length_append]
      have : (if h = 0 then ([] : List Nat) else [32]).length ≤ 1 := by split <;> decide
      omega
    rcases hq with ⟨rfl, z⟩ | ⟨rfl, z⟩
    · have eo : opc V h = 1 := (opc_01 H hh).2.2.mp z
      refine hs_t2o m14 m15 m16 R4 h12 hop hh g4 (by omega) (by omega) (u := stc V h) (by omega) ho.1.1 (fun D5 b5 u5 g5 hu5 f5 => ?_)
      have R5 := f5.rel R4
      have dl := @dgl_len (stc V h)
      have tl5 : (tt ++ dgl (stc V h)).length ≤ 66 := by rw [List.length_append]; omega
      rcases Nat.eq_zero_or_pos (poc V h) with zp | zp
      · refine hs_t3z m14 m15 m16 R5 h12 hop hh g5 (by omega) (by omega) (by rw [ho.2.1.1, zp]) (fun D6 b6 u6 g6 hu6 f6 => ?_)
        refine C4 D6 b6 u6 1 u14 u15 u16 m14 m15 m16 ?_ (by omega) (f.tr (f5.tr f6)) (Or.inl ⟨rfl, z⟩)
        rw [he1, ← et, eo]
        unfold thS
        rw [if_neg (by decide), if_pos zp, List.append_nil]
        exact g6
      · refine hs_t3o m14 m15 m16 R5 h12 hop hh g5 (by omega) (by omega) (u := poc V h) (by omega) zp ho.2.1.1 (fun D6 b6 u6 g6 hu6 f6 => ?_)
        refine C4 D6 b6 u6 1 u14 u15 u16 m14 m15 m16 ?_ (by omega) (f.tr (f5.tr f6)) (Or.inl ⟨rfl, z⟩)
        rw [he1, ← et, eo]
        unfold thS
        rw [if_neg (by decide), if_neg (by omega), ← List.append_assoc]
        exact g6
    · have eo : opc V h ≠ 1 := fun y => z ((opc_01 H hh).2.2.mpr y)
      refine hs_t2x m14 m15 m16 R4 h12 hop hh g4 (by omega) (by omega) (fun D5 b5 u5 g5 hu5 f5 => ?_)
      have R5 := f5.rel R4
      refine hs_t3x m14 m15 m16 R5 h12 hop hh g5 (by omega) (by rw [List.length_append, List.length_cons, List.length_nil]; omega) (fun D6 b6 u6 g6 hu6 f6 => ?_)
      refine C4 D6 b6 u6 0 u14 u15 u16 m14 m15 m16 ?_ (by omega) (f.tr (f5.tr f6)) (Or.inr ⟨rfl, z⟩)
      rw [he1, ← et]
      unfold thS
      rw [if_pos eo]
      exact g6
  have C2 : ∀ (q : Nat) (u14 u15 u16 : Value), nvQ u14 → nvQ u15 → nvQ u16 → (q = 1 ∧ vOpen V h ∨ q = 0 ∧ ¬ vOpen V h) → Wp (d + 10) 114 Q 273 [.ref 0, .int (nI (sN6 h (opc V) + opc V h)), .int (nI (sN6 h (stc V) + stc V h)), .int (nI (sN6 h (poc V) + poc V h)), .int (nI (sN6 h (clmN n V) + clmN n V h)), .int l5, .ref o, .int (nI (h)), .int (nI (sN6 n (trc V h))), .int (nI (sN6 n (mnc h V))), .int (nI (sN6 n (wrc h V))), .int (nI (sN6 n (oec h V))), .int (nI (clmN n V h)), .int (nI (q)), u14, u15, u16] [] D := by
    intro q u14 u15 u16 m14 m15 m16 hq
    have hq2 := hq
    rcases hq with ⟨rfl, z⟩ | ⟨rfl, z⟩
    · by_cases h0 : h = 0
      · exact hs_t1a1 m14 m15 m16 R h12 hop hh g (by omega) (by omega) h0 (fun D5 b5 u5 g5 hu5 f5 => C3 D5 b5 u5 1 _ u14 u15 u16 m14 m15 m16 g5 (by rw [if_pos h0, List.append_nil]) (by omega) f5 hq2)
      · exact hs_t1b1 m14 m15 m16 R h12 hop hh g (by omega) (by omega) h0 (fun D5 b5 u5 g5 hu5 f5 => C3 D5 b5 u5 1 _ u14 u15 u16 m14 m15 m16 g5 (by rw [if_neg h0]) (by omega) f5 hq2)
    · by_cases h0 : h = 0
      · exact hs_t1a0 m14 m15 m16 R h12 hop hh g (by omega) (by omega) h0 (fun D5 b5 u5 g5 hu5 f5 => C3 D5 b5 u5 0 _ u14 u15 u16 m14 m15 m16 g5 (by rw [if_pos h0, List.append_nil]) (by omega) f5 hq2)
      · exact hs_t1b0 m14 m15 m16 R h12 hop hh g (by omega) (by omega) h0 (fun D5 b5 u5 g5 hu5 f5 => C3 D5 b5 u5 0 _ u14 u15 u16 m14 m15 m16 g5 (by rw [if_neg h0]) (by omega) f5 hq2)
  have hby := (H.hc (show B ≤ 20000 by omega)).2.2.1
  refine hs_h hh ?_
  rcases nz_op H hh with ⟨eo, z⟩ | ⟨eo, z⟩
  · have hO : V (6 + 4 * h + 0) = nI 1 := z
    refine hs_o1 n8 n9 n10 n11 n12 n13 n14 n15 n16 R h12 hop hh g.ob.1 hO ho.2.1.1 ?_
    rw [if_pos eo] at hcs
    refine hs_loop (C0 := poc V h) n15 n16 R H hB hh g.ob.1 (fun u14 m14 => ?_) n 0 u14 (Nat.zero_add _) n14
    rw [← hcs]
    have c := C2 1 u14 u15 u16 m14 n15 n16 (Or.inl ⟨rfl, z⟩)
    rw [eo] at c
    exact hs_s1 m14 n15 n16 R h12 hop hh g.ob.1 ho.1.1 ho.2.1.1 hO c
  · have hO : V (6 + 4 * h + 0) = nI 0 := by rw [(opc_01 H hh).2.1, eo]
    refine hs_o0 n8 n9 n10 n11 n12 n13 n14 n15 n16 R h12 hop hh g.ob.1 hO ?_
    rw [if_neg (by omega)] at hcs
    refine hs_loop (C0 := 0) n15 n16 R H hB hh g.ob.1 (fun u14 m14 => ?_) n 0 u14 (Nat.zero_add _) n14
    rw [← hcs]
    have c := C2 0 u14 u15 u16 m14 n15 n16 (Or.inr ⟨rfl, z⟩)
    rw [eo] at c
    exact hs_s0 m14 n15 n16 R h12 hop hh g.ob.1 ho.1.1 ho.2.1.1 hO c
