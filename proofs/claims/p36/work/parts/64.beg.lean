/-! the cells as the constructors leave them, and that both objects begin alike -/
def heirC : List Nat := [12, 26, 40, 54, 68, 82, 96, 110, 124, 138, 152]
def D00 : Mm := fun k => if (sh k).1 = 21 then opF 6 else if (sh k).1 = 22 then b16 else if heirC.contains k then heF 6 else i0
def k0B (k : Nat) : Bool := !decide ((sh k).1 = 21) && !decide ((sh k).1 = 22) && !heirC.contains k
theorem D0_i {k : Nat} (h : k0B k = true) : D00 k = i0 := by
  unfold k0B at h
  simp only [Bool.and_eq_true, Bool.not_eq_true', decide_eq_false_iff_not] at h
  obtain ⟨⟨h2, h3⟩, h4⟩ := h
  unfold D00
  rw [if_neg h2, if_neg h3, if_neg (by rw [h4]; decide)]
theorem D0_h {k : Nat} (h : (!decide ((sh k).1 = 21) && !decide ((sh k).1 = 22) && heirC.contains k) = true) : D00 k = heF 6 := by
  simp only [Bool.and_eq_true, Bool.not_eq_true', decide_eq_false_iff_not] at h
  obtain ⟨⟨h2, h3⟩, h4⟩ := h
  unfold D00
  rw [if_neg h2, if_neg h3, if_pos h4]
theorem D0_o {k : Nat} (h : (decide ((sh k).1 = 21)) = true) : D00 k = opF 6 := by
  unfold D00
  rw [if_pos (of_decide_eq_true h)]
theorem D0_b {k : Nat} (h : (!decide ((sh k).1 = 21) && decide ((sh k).1 = 22)) = true) : D00 k = b16 := by
  simp only [Bool.and_eq_true, Bool.not_eq_true', decide_eq_false_iff_not, decide_eq_true_eq] at h
  unfold D00
  rw [if_neg h.1, if_pos h.2]
theorem ce_obj {cA : Nat → ClassId} {ad : Nat → Nat} {k ci n : Nat} {rs : List (Option Nat)} (h : sh k = (ci, n, rs)) (hc : ci < 20) (hd : D00 k = i0) : cellOf cA ad D00 k = .inr (ci, (List.range n).map (fun j => match rs[j]? with
    | some (some q) => .ref (ad q)
    | _ => .int 0)) := by
  rw [cell_obj (by rw [h]; exact hc), h]
  show Sum.inr (ci, (List.range n).map (fld ad D00 k rs)) = _
  have e : fld ad D00 k rs = (fun j => match rs[j]? with
    | some (some q) => .ref (ad q)
    | _ => .int 0) := by
    funext j
    unfold fld
    rw [hd]
    rfl
  rw [e]
  rfl
theorem ce_int {cA : Nat → ClassId} {ad : Nat → Nat} {k n : Nat} {f : Nat → Int32} {rs : List (Option Nat)} (h : sh k = (20, n, rs)) (hd : D00 k = f) : cellOf cA ad D00 k = .inl (cA 0, n, .inl f) := by
  rw [cell_int (by rw [h]), h, hd]
theorem ce_bool {cA : Nat → ClassId} {ad : Nat → Nat} {k n : Nat} {f : Nat → Int32} {rs : List (Option Nat)} (h : sh k = (21, n, rs)) (hd : D00 k = f) : cellOf cA ad D00 k = .inl (cA 1, n, .inl f) := by
  rw [cell_bool (by rw [h]), h, hd]
theorem ce_byte {cA : Nat → ClassId} {ad : Nat → Nat} {k n : Nat} {rs : List (Option Nat)} (h : sh k = (22, n, rs)) (hd : D00 k = b16) : cellOf cA ad D00 k = .inl (cA 2, 16, .inl b16) := by
  have e : cap D00 k = 16 := by unfold cap; rw [hd]; decide +kernel
  rw [cell_byte (by rw [h]), e, hd]
theorem cel_0 {cA : Nat → ClassId} {ad : Nat → Nat} : cellOf cA ad D00 0 = .inr (7, [.ref (ad 1), .ref (ad 15), .int 0, .ref (ad 155), .ref (ad 157), .ref (ad 160), .ref (ad 165), .ref (ad 169), .ref (ad 170)]) := (ce_obj (ci := 7) (n := 9) (rs := [some 1, some 15, none, some 155, some 157, some 160, some 165, some 169, some 170]) (by decide +kernel) (by decide) (D0_i (by decide +kernel))).trans rfl
theorem cel_1 {cA : Nat → ClassId} {ad : Nat → Nat} : cellOf cA ad D00 1 = .inr (5, [.ref (ad 2), .ref (ad 11), .ref (ad 12), .ref (ad 13), .ref (ad 14), .int 0, .int 0, .int 0, .int 0, .int 0, .int 0]) := (ce_obj (ci := 5) (n := 11) (rs := [some 2, some 11, some 12, some 13, some 14, none, none, none, none, none, none]) (by decide +kernel) (by decide) (D0_i (by decide +kernel))).trans rfl
theorem cel_2 {cA : Nat → ClassId} {ad : Nat → Nat} : cellOf cA ad D00 2 = .inr (6, [.ref (ad 3), .ref (ad 4), .ref (ad 5), .ref (ad 6), .ref (ad 7), .ref (ad 8), .ref (ad 9), .ref (ad 10), .int 0]) := (ce_obj (ci := 6) (n := 9) (rs := [some 3, some 4, some 5, some 6, some 7, some 8, some 9, some 10, none]) (by decide +kernel) (by decide) (D0_i (by decide +kernel))).trans rfl
theorem cel_3 {cA : Nat → ClassId} {ad : Nat → Nat} : cellOf cA ad D00 3 = .inl (cA 0, 12, .inl i0) := ce_int (n := 12) (rs := []) (by decide +kernel) (D0_i (by decide +kernel))
theorem cel_4 {cA : Nat → ClassId} {ad : Nat → Nat} : cellOf cA ad D00 4 = .inl (cA 0, 12, .inl i0) := ce_int (n := 12) (rs := []) (by decide +kernel) (D0_i (by decide +kernel))
theorem cel_5 {cA : Nat → ClassId} {ad : Nat → Nat} : cellOf cA ad D00 5 = .inl (cA 0, 12, .inl i0) := ce_int (n := 12) (rs := []) (by decide +kernel) (D0_i (by decide +kernel))
theorem cel_6 {cA : Nat → ClassId} {ad : Nat → Nat} : cellOf cA ad D00 6 = .inl (cA 0, 12, .inl i0) := ce_int (n := 12) (rs := []) (by decide +kernel) (D0_i (by decide +kernel))
theorem cel_7 {cA : Nat → ClassId} {ad : Nat → Nat} : cellOf cA ad D00 7 = .inl (cA 0, 12, .inl i0) := ce_int (n := 12) (rs := []) (by decide +kernel) (D0_i (by decide +kernel))
theorem cel_8 {cA : Nat → ClassId} {ad : Nat → Nat} : cellOf cA ad D00 8 = .inl (cA 0, 12, .inl i0) := ce_int (n := 12) (rs := []) (by decide +kernel) (D0_i (by decide +kernel))
theorem cel_9 {cA : Nat → ClassId} {ad : Nat → Nat} : cellOf cA ad D00 9 = .inl (cA 0, 12, .inl i0) := ce_int (n := 12) (rs := []) (by decide +kernel) (D0_i (by decide +kernel))
theorem cel_10 {cA : Nat → ClassId} {ad : Nat → Nat} : cellOf cA ad D00 10 = .inl (cA 0, 12, .inl i0) := ce_int (n := 12) (rs := []) (by decide +kernel) (D0_i (by decide +kernel))
theorem cel_11 {cA : Nat → ClassId} {ad : Nat → Nat} : cellOf cA ad D00 11 = .inl (cA 1, 6, .inl (opF 6)) := ce_bool (n := 6) (rs := []) (by decide +kernel) (D0_o (by decide +kernel))
theorem cel_12 {cA : Nat → ClassId} {ad : Nat → Nat} : cellOf cA ad D00 12 = .inl (cA 0, 6, .inl (heF 6)) := ce_int (n := 6) (rs := []) (by decide +kernel) (D0_h (by decide +kernel))
theorem cel_13 {cA : Nat → ClassId} {ad : Nat → Nat} : cellOf cA ad D00 13 = .inl (cA 0, 6, .inl i0) := ce_int (n := 6) (rs := []) (by decide +kernel) (D0_i (by decide +kernel))
theorem cel_14 {cA : Nat → ClassId} {ad : Nat → Nat} : cellOf cA ad D00 14 = .inl (cA 0, 6, .inl i0) := ce_int (n := 6) (rs := []) (by decide +kernel) (D0_i (by decide +kernel))
theorem cel_15 {cA : Nat → ClassId} {ad : Nat → Nat} : cellOf cA ad D00 15 = .inr (5, [.ref (ad 16), .ref (ad 25), .ref (ad 26), .ref (ad 27), .ref (ad 28), .int 0, .int 0, .int 0, .int 0, .int 0, .int 0]) := (ce_obj (ci := 5) (n := 11) (rs := [some 16, some 25, some 26, some 27, some 28, none, none, none, none, none, none]) (by decide +kernel) (by decide) (D0_i (by decide +kernel))).trans rfl
theorem cel_16 {cA : Nat → ClassId} {ad : Nat → Nat} : cellOf cA ad D00 16 = .inr (6, [.ref (ad 17), .ref (ad 18), .ref (ad 19), .ref (ad 20), .ref (ad 21), .ref (ad 22), .ref (ad 23), .ref (ad 24), .int 0]) := (ce_obj (ci := 6) (n := 9) (rs := [some 17, some 18, some 19, some 20, some 21, some 22, some 23, some 24, none]) (by decide +kernel) (by decide) (D0_i (by decide +kernel))).trans rfl
theorem cel_17 {cA : Nat → ClassId} {ad : Nat → Nat} : cellOf cA ad D00 17 = .inl (cA 0, 12, .inl i0) := ce_int (n := 12) (rs := []) (by decide +kernel) (D0_i (by decide +kernel))
theorem cel_18 {cA : Nat → ClassId} {ad : Nat → Nat} : cellOf cA ad D00 18 = .inl (cA 0, 12, .inl i0) := ce_int (n := 12) (rs := []) (by decide +kernel) (D0_i (by decide +kernel))
theorem cel_19 {cA : Nat → ClassId} {ad : Nat → Nat} : cellOf cA ad D00 19 = .inl (cA 0, 12, .inl i0) := ce_int (n := 12) (rs := []) (by decide +kernel) (D0_i (by decide +kernel))
theorem cel_20 {cA : Nat → ClassId} {ad : Nat → Nat} : cellOf cA ad D00 20 = .inl (cA 0, 12, .inl i0) := ce_int (n := 12) (rs := []) (by decide +kernel) (D0_i (by decide +kernel))
theorem cel_21 {cA : Nat → ClassId} {ad : Nat → Nat} : cellOf cA ad D00 21 = .inl (cA 0, 12, .inl i0) := ce_int (n := 12) (rs := []) (by decide +kernel) (D0_i (by decide +kernel))
theorem cel_22 {cA : Nat → ClassId} {ad : Nat → Nat} : cellOf cA ad D00 22 = .inl (cA 0, 12, .inl i0) := ce_int (n := 12) (rs := []) (by decide +kernel) (D0_i (by decide +kernel))
theorem cel_23 {cA : Nat → ClassId} {ad : Nat → Nat} : cellOf cA ad D00 23 = .inl (cA 0, 12, .inl i0) := ce_int (n := 12) (rs := []) (by decide +kernel) (D0_i (by decide +kernel))
theorem cel_24 {cA : Nat → ClassId} {ad : Nat → Nat} : cellOf cA ad D00 24 = .inl (cA 0, 12, .inl i0) := ce_int (n := 12) (rs := []) (by decide +kernel) (D0_i (by decide +kernel))
theorem cel_25 {cA : Nat → ClassId} {ad : Nat → Nat} : cellOf cA ad D00 25 = .inl (cA 1, 6, .inl (opF 6)) := ce_bool (n := 6) (rs := []) (by decide +kernel) (D0_o (by decide +kernel))
theorem cel_26 {cA : Nat → ClassId} {ad : Nat → Nat} : cellOf cA ad D00 26 = .inl (cA 0, 6, .inl (heF 6)) := ce_int (n := 6) (rs := []) (by decide +kernel) (D0_h (by decide +kernel))
theorem cel_27 {cA : Nat → ClassId} {ad : Nat → Nat} : cellOf cA ad D00 27 = .inl (cA 0, 6, .inl i0) := ce_int (n := 6) (rs := []) (by decide +kernel) (D0_i (by decide +kernel))
theorem cel_28 {cA : Nat → ClassId} {ad : Nat → Nat} : cellOf cA ad D00 28 = .inl (cA 0, 6, .inl i0) := ce_int (n := 6) (rs := []) (by decide +kernel) (D0_i (by decide +kernel))
theorem cel_29 {cA : Nat → ClassId} {ad : Nat → Nat} : cellOf cA ad D00 29 = .inr (5, [.ref (ad 30), .ref (ad 39), .ref (ad 40), .ref (ad 41), .ref (ad 42), .int 0, .int 0, .int 0, .int 0, .int 0, .int 0]) := (ce_obj (ci := 5) (n := 11) (rs := [some 30, some 39, some 40, some 41, some 42, none, none, none, none, none, none]) (by decide +kernel) (by decide) (D0_i (by decide +kernel))).trans rfl
theorem cel_30 {cA : Nat → ClassId} {ad : Nat → Nat} : cellOf cA ad D00 30 = .inr (6, [.ref (ad 31), .ref (ad 32), .ref (ad 33), .ref (ad 34), .ref (ad 35), .ref (ad 36), .ref (ad 37), .ref (ad 38), .int 0]) := (ce_obj (ci := 6) (n := 9) (rs := [some 31, some 32, some 33, some 34, some 35, some 36, some 37, some 38, none]) (by decide +kernel) (by decide) (D0_i (by decide +kernel))).trans rfl
theorem cel_31 {cA : Nat → ClassId} {ad : Nat → Nat} : cellOf cA ad D00 31 = .inl (cA 0, 12, .inl i0) := ce_int (n := 12) (rs := []) (by decide +kernel) (D0_i (by decide +kernel))
theorem cel_32 {cA : Nat → ClassId} {ad : Nat → Nat} : cellOf cA ad D00 32 = .inl (cA 0, 12, .inl i0) := ce_int (n := 12) (rs := []) (by decide +kernel) (D0_i (by decide +kernel))
theorem cel_33 {cA : Nat → ClassId} {ad : Nat → Nat} : cellOf cA ad D00 33 = .inl (cA 0, 12, .inl i0) := ce_int (n := 12) (rs := []) (by decide +kernel) (D0_i (by decide +kernel))
theorem cel_34 {cA : Nat → ClassId} {ad : Nat → Nat} : cellOf cA ad D00 34 = .inl (cA 0, 12, .inl i0) := ce_int (n := 12) (rs := []) (by decide +kernel) (D0_i (by decide +kernel))
theorem cel_35 {cA : Nat → ClassId} {ad : Nat → Nat} : cellOf cA ad D00 35 = .inl (cA 0, 12, .inl i0) := ce_int (n := 12) (rs := []) (by decide +kernel) (D0_i (by decide +kernel))
theorem cel_36 {cA : Nat → ClassId} {ad : Nat → Nat} : cellOf cA ad D00 36 = .inl (cA 0, 12, .inl i0) := ce_int (n := 12) (rs := []) (by decide +kernel) (D0_i (by decide +kernel))
theorem cel_37 {cA : Nat → ClassId} {ad : Nat → Nat} : cellOf cA ad D00 37 = .inl (cA 0, 12, .inl i0) := ce_int (n := 12) (rs := []) (by decide +kernel) (D0_i (by decide +kernel))
theorem cel_38 {cA : Nat → ClassId} {ad : Nat → Nat} : cellOf cA ad D00 38 = .inl (cA 0, 12, .inl i0) := ce_int (n := 12) (rs := []) (by decide +kernel) (D0_i (by decide +kernel))
theorem cel_39 {cA : Nat → ClassId} {ad : Nat → Nat} : cellOf cA ad D00 39 = .inl (cA 1, 6, .inl (opF 6)) := ce_bool (n := 6) (rs := []) (by decide +kernel) (D0_o (by decide +kernel))
theorem cel_40 {cA : Nat → ClassId} {ad : Nat → Nat} : cellOf cA ad D00 40 = .inl (cA 0, 6, .inl (heF 6)) := ce_int (n := 6) (rs := []) (by decide +kernel) (D0_h (by decide +kernel))
theorem cel_41 {cA : Nat → ClassId} {ad : Nat → Nat} : cellOf cA ad D00 41 = .inl (cA 0, 6, .inl i0) := ce_int (n := 6) (rs := []) (by decide +kernel) (D0_i (by decide +kernel))
theorem cel_42 {cA : Nat → ClassId} {ad : Nat → Nat} : cellOf cA ad D00 42 = .inl (cA 0, 6, .inl i0) := ce_int (n := 6) (rs := []) (by decide +kernel) (D0_i (by decide +kernel))
theorem cel_43 {cA : Nat → ClassId} {ad : Nat → Nat} : cellOf cA ad D00 43 = .inr (5, [.ref (ad 44), .ref (ad 53), .ref (ad 54), .ref (ad 55), .ref (ad 56), .int 0, .int 0, .int 0, .int 0, .int 0, .int 0]) := (ce_obj (ci := 5) (n := 11) (rs := [some 44, some 53, some 54, some 55, some 56, none, none, none, none, none, none]) (by decide +kernel) (by decide) (D0_i (by decide +kernel))).trans rfl
theorem cel_44 {cA : Nat → ClassId} {ad : Nat → Nat} : cellOf cA ad D00 44 = .inr (6, [.ref (ad 45), .ref (ad 46), .ref (ad 47), .ref (ad 48), .ref (ad 49), .ref (ad 50), .ref (ad 51), .ref (ad 52), .int 0]) := (ce_obj (ci := 6) (n := 9) (rs := [some 45, some 46, some 47, some 48, some 49, some 50, some 51, some 52, none]) (by decide +kernel) (by decide) (D0_i (by decide +kernel))).trans rfl
theorem cel_45 {cA : Nat → ClassId} {ad : Nat → Nat} : cellOf cA ad D00 45 = .inl (cA 0, 12, .inl i0) := ce_int (n := 12) (rs := []) (by decide +kernel) (D0_i (by decide +kernel))
theorem cel_46 {cA : Nat → ClassId} {ad : Nat → Nat} : cellOf cA ad D00 46 = .inl (cA 0, 12, .inl i0) := ce_int (n := 12) (rs := []) (by decide +kernel) (D0_i (by decide +kernel))
theorem cel_47 {cA : Nat → ClassId} {ad : Nat → Nat} : cellOf cA ad D00 47 = .inl (cA 0, 12, .inl i0) := ce_int (n := 12) (rs := []) (by decide +kernel) (D0_i (by decide +kernel))
theorem cel_48 {cA : Nat → ClassId} {ad : Nat → Nat} : cellOf cA ad D00 48 = .inl (cA 0, 12, .inl i0) := ce_int (n := 12) (rs := []) (by decide +kernel) (D0_i (by decide +kernel))
theorem cel_49 {cA : Nat → ClassId} {ad : Nat → Nat} : cellOf cA ad D00 49 = .inl (cA 0, 12, .inl i0) := ce_int (n := 12) (rs := []) (by decide +kernel) (D0_i (by decide +kernel))
theorem cel_50 {cA : Nat → ClassId} {ad : Nat → Nat} : cellOf cA ad D00 50 = .inl (cA 0, 12, .inl i0) := ce_int (n := 12) (rs := []) (by decide +kernel) (D0_i (by decide +kernel))
theorem cel_51 {cA : Nat → ClassId} {ad : Nat → Nat} : cellOf cA ad D00 51 = .inl (cA 0, 12, .inl i0) := ce_int (n := 12) (rs := []) (by decide +kernel) (D0_i (by decide +kernel))
theorem cel_52 {cA : Nat → ClassId} {ad : Nat → Nat} : cellOf cA ad D00 52 = .inl (cA 0, 12, .inl i0) := ce_int (n := 12) (rs := []) (by decide +kernel) (D0_i (by decide +kernel))
theorem cel_53 {cA : Nat → ClassId} {ad : Nat → Nat} : cellOf cA ad D00 53 = .inl (cA 1, 6, .inl (opF 6)) := ce_bool (n := 6) (rs := []) (by decide +kernel) (D0_o (by decide +kernel))
theorem cel_54 {cA : Nat → ClassId} {ad : Nat → Nat} : cellOf cA ad D00 54 = .inl (cA 0, 6, .inl (heF 6)) := ce_int (n := 6) (rs := []) (by decide +kernel) (D0_h (by decide +kernel))
theorem cel_55 {cA : Nat → ClassId} {ad : Nat → Nat} : cellOf cA ad D00 55 = .inl (cA 0, 6, .inl i0) := ce_int (n := 6) (rs := []) (by decide +kernel) (D0_i (by decide +kernel))
theorem cel_56 {cA : Nat → ClassId} {ad : Nat → Nat} : cellOf cA ad D00 56 = .inl (cA 0, 6, .inl i0) := ce_int (n := 6) (rs := []) (by decide +kernel) (D0_i (by decide +kernel))
theorem cel_57 {cA : Nat → ClassId} {ad : Nat → Nat} : cellOf cA ad D00 57 = .inr (5, [.ref (ad 58), .ref (ad 67), .ref (ad 68), .ref (ad 69), .ref (ad 70), .int 0, .int 0, .int 0, .int 0, .int 0, .int 0]) := (ce_obj (ci := 5) (n := 11) (rs := [some 58, some 67, some 68, some 69, some 70, none, none, none, none, none, none]) (by decide +kernel) (by decide) (D0_i (by decide +kernel))).trans rfl
theorem cel_58 {cA : Nat → ClassId} {ad : Nat → Nat} : cellOf cA ad D00 58 = .inr (6, [.ref (ad 59), .ref (ad 60), .ref (ad 61), .ref (ad 62), .ref (ad 63), .ref (ad 64), .ref (ad 65), .ref (ad 66), .int 0]) := (ce_obj (ci := 6) (n := 9) (rs := [some 59, some 60, some 61, some 62, some 63, some 64, some 65, some 66, none]) (by decide +kernel) (by decide) (D0_i (by decide +kernel))).trans rfl
theorem cel_59 {cA : Nat → ClassId} {ad : Nat → Nat} : cellOf cA ad D00 59 = .inl (cA 0, 12, .inl i0) := ce_int (n := 12) (rs := []) (by decide +kernel) (D0_i (by decide +kernel))
theorem cel_60 {cA : Nat → ClassId} {ad : Nat → Nat} : cellOf cA ad D00 60 = .inl (cA 0, 12, .inl i0) := ce_int (n := 12) (rs := []) (by decide +kernel) (D0_i (by decide +kernel))
theorem cel_61 {cA : Nat → ClassId} {ad : Nat → Nat} : cellOf cA ad D00 61 = .inl (cA 0, 12, .inl i0) := ce_int (n := 12) (rs := []) (by decide +kernel) (D0_i (by decide +kernel))
theorem cel_62 {cA : Nat → ClassId} {ad : Nat → Nat} : cellOf cA ad D00 62 = .inl (cA 0, 12, .inl i0) := ce_int (n := 12) (rs := []) (by decide +kernel) (D0_i (by decide +kernel))
theorem cel_63 {cA : Nat → ClassId} {ad : Nat → Nat} : cellOf cA ad D00 63 = .inl (cA 0, 12, .inl i0) := ce_int (n := 12) (rs := []) (by decide +kernel) (D0_i (by decide +kernel))
theorem cel_64 {cA : Nat → ClassId} {ad : Nat → Nat} : cellOf cA ad D00 64 = .inl (cA 0, 12, .inl i0) := ce_int (n := 12) (rs := []) (by decide +kernel) (D0_i (by decide +kernel))
theorem cel_65 {cA : Nat → ClassId} {ad : Nat → Nat} : cellOf cA ad D00 65 = .inl (cA 0, 12, .inl i0) := ce_int (n := 12) (rs := []) (by decide +kernel) (D0_i (by decide +kernel))
theorem cel_66 {cA : Nat → ClassId} {ad : Nat → Nat} : cellOf cA ad D00 66 = .inl (cA 0, 12, .inl i0) := ce_int (n := 12) (rs := []) (by decide +kernel) (D0_i (by decide +kernel))
theorem cel_67 {cA : Nat → ClassId} {ad : Nat → Nat} : cellOf cA ad D00 67 = .inl (cA 1, 6, .inl (opF 6)) := ce_bool (n := 6) (rs := []) (by decide +kernel) (D0_o (by decide +kernel))
theorem cel_68 {cA : Nat → ClassId} {ad : Nat → Nat} : cellOf cA ad D00 68 = .inl (cA 0, 6, .inl (heF 6)) := ce_int (n := 6) (rs := []) (by decide +kernel) (D0_h (by decide +kernel))
theorem cel_69 {cA : Nat → ClassId} {ad : Nat → Nat} : cellOf cA ad D00 69 = .inl (cA 0, 6, .inl i0) := ce_int (n := 6) (rs := []) (by decide +kernel) (D0_i (by decide +kernel))
theorem cel_70 {cA : Nat → ClassId} {ad : Nat → Nat} : cellOf cA ad D00 70 = .inl (cA 0, 6, .inl i0) := ce_int (n := 6) (rs := []) (by decide +kernel) (D0_i (by decide +kernel))
theorem cel_71 {cA : Nat → ClassId} {ad : Nat → Nat} : cellOf cA ad D00 71 = .inr (5, [.ref (ad 72), .ref (ad 81), .ref (ad 82), .ref (ad 83), .ref (ad 84), .int 0, .int 0, .int 0, .int 0, .int 0, .int 0]) := (ce_obj (ci := 5) (n := 11) (rs := [some 72, some 81, some 82, some 83, some 84, none, none, none, none, none, none]) (by decide +kernel) (by decide) (D0_i (by decide +kernel))).trans rfl
theorem cel_72 {cA : Nat → ClassId} {ad : Nat → Nat} : cellOf cA ad D00 72 = .inr (6, [.ref (ad 73), .ref (ad 74), .ref (ad 75), .ref (ad 76), .ref (ad 77), .ref (ad 78), .ref (ad 79), .ref (ad 80), .int 0]) := (ce_obj (ci := 6) (n := 9) (rs := [some 73, some 74, some 75, some 76, some 77, some 78, some 79, some 80, none]) (by decide +kernel) (by decide) (D0_i (by decide +kernel))).trans rfl
theorem cel_73 {cA : Nat → ClassId} {ad : Nat → Nat} : cellOf cA ad D00 73 = .inl (cA 0, 12, .inl i0) := ce_int (n := 12) (rs := []) (by decide +kernel) (D0_i (by decide +kernel))
theorem cel_74 {cA : Nat → ClassId} {ad : Nat → Nat} : cellOf cA ad D00 74 = .inl (cA 0, 12, .inl i0) := ce_int (n := 12) (rs := []) (by decide +kernel) (D0_i (by decide +kernel))
theorem cel_75 {cA : Nat → ClassId} {ad : Nat → Nat} : cellOf cA ad D00 75 = .inl (cA 0, 12, .inl i0) := ce_int (n := 12) (rs := []) (by decide +kernel) (D0_i (by decide +kernel))
theorem cel_76 {cA : Nat → ClassId} {ad : Nat → Nat} : cellOf cA ad D00 76 = .inl (cA 0, 12, .inl i0) := ce_int (n := 12) (rs := []) (by decide +kernel) (D0_i (by decide +kernel))
theorem cel_77 {cA : Nat → ClassId} {ad : Nat → Nat} : cellOf cA ad D00 77 = .inl (cA 0, 12, .inl i0) := ce_int (n := 12) (rs := []) (by decide +kernel) (D0_i (by decide +kernel))
theorem cel_78 {cA : Nat → ClassId} {ad : Nat → Nat} : cellOf cA ad D00 78 = .inl (cA 0, 12, .inl i0) := ce_int (n := 12) (rs := []) (by decide +kernel) (D0_i (by decide +kernel))
theorem cel_79 {cA : Nat → ClassId} {ad : Nat → Nat} : cellOf cA ad D00 79 = .inl (cA 0, 12, .inl i0) := ce_int (n := 12) (rs := []) (by decide +kernel) (D0_i (by decide +kernel))
theorem cel_80 {cA : Nat → ClassId} {ad : Nat → Nat} : cellOf cA ad D00 80 = .inl (cA 0, 12, .inl i0) := ce_int (n := 12) (rs := []) (by decide +kernel) (D0_i (by decide +kernel))
theorem cel_81 {cA : Nat → ClassId} {ad : Nat → Nat} : cellOf cA ad D00 81 = .inl (cA 1, 6, .inl (opF 6)) := ce_bool (n := 6) (rs := []) (by decide +kernel) (D0_o (by decide +kernel))
theorem cel_82 {cA : Nat → ClassId} {ad : Nat → Nat} : cellOf cA ad D00 82 = .inl (cA 0, 6, .inl (heF 6)) := ce_int (n := 6) (rs := []) (by decide +kernel) (D0_h (by decide +kernel))
theorem cel_83 {cA : Nat → ClassId} {ad : Nat → Nat} : cellOf cA ad D00 83 = .inl (cA 0, 6, .inl i0) := ce_int (n := 6) (rs := []) (by decide +kernel) (D0_i (by decide +kernel))
theorem cel_84 {cA : Nat → ClassId} {ad : Nat → Nat} : cellOf cA ad D00 84 = .inl (cA 0, 6, .inl i0) := ce_int (n := 6) (rs := []) (by decide +kernel) (D0_i (by decide +kernel))
theorem cel_85 {cA : Nat → ClassId} {ad : Nat → Nat} : cellOf cA ad D00 85 = .inr (5, [.ref (ad 86), .ref (ad 95), .ref (ad 96), .ref (ad 97), .ref (ad 98), .int 0, .int 0, .int 0, .int 0, .int 0, .int 0]) := (ce_obj (ci := 5) (n := 11) (rs := [some 86, some 95, some 96, some 97, some 98, none, none, none, none, none, none]) (by decide +kernel) (by decide) (D0_i (by decide +kernel))).trans rfl
theorem cel_86 {cA : Nat → ClassId} {ad : Nat → Nat} : cellOf cA ad D00 86 = .inr (6, [.ref (ad 87), .ref (ad 88), .ref (ad 89), .ref (ad 90), .ref (ad 91), .ref (ad 92), .ref (ad 93), .ref (ad 94), .int 0]) := (ce_obj (ci := 6) (n := 9) (rs := [some 87, some 88, some 89, some 90, some 91, some 92, some 93, some 94, none]) (by decide +kernel) (by decide) (D0_i (by decide +kernel))).trans rfl
theorem cel_87 {cA : Nat → ClassId} {ad : Nat → Nat} : cellOf cA ad D00 87 = .inl (cA 0, 12, .inl i0) := ce_int (n := 12) (rs := []) (by decide +kernel) (D0_i (by decide +kernel))
theorem cel_88 {cA : Nat → ClassId} {ad : Nat → Nat} : cellOf cA ad D00 88 = .inl (cA 0, 12, .inl i0) := ce_int (n := 12) (rs := []) (by decide +kernel) (D0_i (by decide +kernel))
theorem cel_89 {cA : Nat → ClassId} {ad : Nat → Nat} : cellOf cA ad D00 89 = .inl (cA 0, 12, .inl i0) := ce_int (n := 12) (rs := []) (by decide +kernel) (D0_i (by decide +kernel))
theorem cel_90 {cA : Nat → ClassId} {ad : Nat → Nat} : cellOf cA ad D00 90 = .inl (cA 0, 12, .inl i0) := ce_int (n := 12) (rs := []) (by decide +kernel) (D0_i (by decide +kernel))
theorem cel_91 {cA : Nat → ClassId} {ad : Nat → Nat} : cellOf cA ad D00 91 = .inl (cA 0, 12, .inl i0) := ce_int (n := 12) (rs := []) (by decide +kernel) (D0_i (by decide +kernel))
theorem cel_92 {cA : Nat → ClassId} {ad : Nat → Nat} : cellOf cA ad D00 92 = .inl (cA 0, 12, .inl i0) := ce_int (n := 12) (rs := []) (by decide +kernel) (D0_i (by decide +kernel))
theorem cel_93 {cA : Nat → ClassId} {ad : Nat → Nat} : cellOf cA ad D00 93 = .inl (cA 0, 12, .inl i0) := ce_int (n := 12) (rs := []) (by decide +kernel) (D0_i (by decide +kernel))
theorem cel_94 {cA : Nat → ClassId} {ad : Nat → Nat} : cellOf cA ad D00 94 = .inl (cA 0, 12, .inl i0) := ce_int (n := 12) (rs := []) (by decide +kernel) (D0_i (by decide +kernel))
theorem cel_95 {cA : Nat → ClassId} {ad : Nat → Nat} : cellOf cA ad D00 95 = .inl (cA 1, 6, .inl (opF 6)) := ce_bool (n := 6) (rs := []) (by decide +kernel) (D0_o (by decide +kernel))
theorem cel_96 {cA : Nat → ClassId} {ad : Nat → Nat} : cellOf cA ad D00 96 = .inl (cA 0, 6, .inl (heF 6)) := ce_int (n := 6) (rs := []) (by decide +kernel) (D0_h (by decide +kernel))
theorem cel_97 {cA : Nat → ClassId} {ad : Nat → Nat} : cellOf cA ad D00 97 = .inl (cA 0, 6, .inl i0) := ce_int (n := 6) (rs := []) (by decide +kernel) (D0_i (by decide +kernel))
theorem cel_98 {cA : Nat → ClassId} {ad : Nat → Nat} : cellOf cA ad D00 98 = .inl (cA 0, 6, .inl i0) := ce_int (n := 6) (rs := []) (by decide +kernel) (D0_i (by decide +kernel))
theorem cel_99 {cA : Nat → ClassId} {ad : Nat → Nat} : cellOf cA ad D00 99 = .inr (5, [.ref (ad 100), .ref (ad 109), .ref (ad 110), .ref (ad 111), .ref (ad 112), .int 0, .int 0, .int 0, .int 0, .int 0, .int 0]) := (ce_obj (ci := 5) (n := 11) (rs := [some 100, some 109, some 110, some 111, some 112, none, none, none, none, none, none]) (by decide +kernel) (by decide) (D0_i (by decide +kernel))).trans rfl
theorem cel_100 {cA : Nat → ClassId} {ad : Nat → Nat} : cellOf cA ad D00 100 = .inr (6, [.ref (ad 101), .ref (ad 102), .ref (ad 103), .ref (ad 104), .ref (ad 105), .ref (ad 106), .ref (ad 107), .ref (ad 108), .int 0]) := (ce_obj (ci := 6) (n := 9) (rs := [some 101, some 102, some 103, some 104, some 105, some 106, some 107, some 108, none]) (by decide +kernel) (by decide) (D0_i (by decide +kernel))).trans rfl
theorem cel_101 {cA : Nat → ClassId} {ad : Nat → Nat} : cellOf cA ad D00 101 = .inl (cA 0, 12, .inl i0) := ce_int (n := 12) (rs := []) (by decide +kernel) (D0_i (by decide +kernel))
theorem cel_102 {cA : Nat → ClassId} {ad : Nat → Nat} : cellOf cA ad D00 102 = .inl (cA 0, 12, .inl i0) := ce_int (n := 12) (rs := []) (by decide +kernel) (D0_i (by decide +kernel))
theorem cel_103 {cA : Nat → ClassId} {ad : Nat → Nat} : cellOf cA ad D00 103 = .inl (cA 0, 12, .inl i0) := ce_int (n := 12) (rs := []) (by decide +kernel) (D0_i (by decide +kernel))
theorem cel_104 {cA : Nat → ClassId} {ad : Nat → Nat} : cellOf cA ad D00 104 = .inl (cA 0, 12, .inl i0) := ce_int (n := 12) (rs := []) (by decide +kernel) (D0_i (by decide +kernel))
theorem cel_105 {cA : Nat → ClassId} {ad : Nat → Nat} : cellOf cA ad D00 105 = .inl (cA 0, 12, .inl i0) := ce_int (n := 12) (rs := []) (by decide +kernel) (D0_i (by decide +kernel))
theorem cel_106 {cA : Nat → ClassId} {ad : Nat → Nat} : cellOf cA ad D00 106 = .inl (cA 0, 12, .inl i0) := ce_int (n := 12) (rs := []) (by decide +kernel) (D0_i (by decide +kernel))
theorem cel_107 {cA : Nat → ClassId} {ad : Nat → Nat} : cellOf cA ad D00 107 = .inl (cA 0, 12, .inl i0) := ce_int (n := 12) (rs := []) (by decide +kernel) (D0_i (by decide +kernel))
theorem cel_108 {cA : Nat → ClassId} {ad : Nat → Nat} : cellOf cA ad D00 108 = .inl (cA 0, 12, .inl i0) := ce_int (n := 12) (rs := []) (by decide +kernel) (D0_i (by decide +kernel))
theorem cel_109 {cA : Nat → ClassId} {ad : Nat → Nat} : cellOf cA ad D00 109 = .inl (cA 1, 6, .inl (opF 6)) := ce_bool (n := 6) (rs := []) (by decide +kernel) (D0_o (by decide +kernel))
theorem cel_110 {cA : Nat → ClassId} {ad : Nat → Nat} : cellOf cA ad D00 110 = .inl (cA 0, 6, .inl (heF 6)) := ce_int (n := 6) (rs := []) (by decide +kernel) (D0_h (by decide +kernel))
theorem cel_111 {cA : Nat → ClassId} {ad : Nat → Nat} : cellOf cA ad D00 111 = .inl (cA 0, 6, .inl i0) := ce_int (n := 6) (rs := []) (by decide +kernel) (D0_i (by decide +kernel))
theorem cel_112 {cA : Nat → ClassId} {ad : Nat → Nat} : cellOf cA ad D00 112 = .inl (cA 0, 6, .inl i0) := ce_int (n := 6) (rs := []) (by decide +kernel) (D0_i (by decide +kernel))
theorem cel_113 {cA : Nat → ClassId} {ad : Nat → Nat} : cellOf cA ad D00 113 = .inr (5, [.ref (ad 114), .ref (ad 123), .ref (ad 124), .ref (ad 125), .ref (ad 126), .int 0, .int 0, .int 0, .int 0, .int 0, .int 0]) := (ce_obj (ci := 5) (n := 11) (rs := [some 114, some 123, some 124, some 125, some 126, none, none, none, none, none, none]) (by decide +kernel) (by decide) (D0_i (by decide +kernel))).trans rfl
theorem cel_114 {cA : Nat → ClassId} {ad : Nat → Nat} : cellOf cA ad D00 114 = .inr (6, [.ref (ad 115), .ref (ad 116), .ref (ad 117), .ref (ad 118), .ref (ad 119), .ref (ad 120), .ref (ad 121), .ref (ad 122), .int 0]) := (ce_obj (ci := 6) (n := 9) (rs := [some 115, some 116, some 117, some 118, some 119, some 120, some 121, some 122, none]) (by decide +kernel) (by decide) (D0_i (by decide +kernel))).trans rfl
theorem cel_115 {cA : Nat → ClassId} {ad : Nat → Nat} : cellOf cA ad D00 115 = .inl (cA 0, 12, .inl i0) := ce_int (n := 12) (rs := []) (by decide +kernel) (D0_i (by decide +kernel))
theorem cel_116 {cA : Nat → ClassId} {ad : Nat → Nat} : cellOf cA ad D00 116 = .inl (cA 0, 12, .inl i0) := ce_int (n := 12) (rs := []) (by decide +kernel) (D0_i (by decide +kernel))
theorem cel_117 {cA : Nat → ClassId} {ad : Nat → Nat} : cellOf cA ad D00 117 = .inl (cA 0, 12, .inl i0) := ce_int (n := 12) (rs := []) (by decide +kernel) (D0_i (by decide +kernel))
theorem cel_118 {cA : Nat → ClassId} {ad : Nat → Nat} : cellOf cA ad D00 118 = .inl (cA 0, 12, .inl i0) := ce_int (n := 12) (rs := []) (by decide +kernel) (D0_i (by decide +kernel))
theorem cel_119 {cA : Nat → ClassId} {ad : Nat → Nat} : cellOf cA ad D00 119 = .inl (cA 0, 12, .inl i0) := ce_int (n := 12) (rs := []) (by decide +kernel) (D0_i (by decide +kernel))
theorem cel_120 {cA : Nat → ClassId} {ad : Nat → Nat} : cellOf cA ad D00 120 = .inl (cA 0, 12, .inl i0) := ce_int (n := 12) (rs := []) (by decide +kernel) (D0_i (by decide +kernel))
theorem cel_121 {cA : Nat → ClassId} {ad : Nat → Nat} : cellOf cA ad D00 121 = .inl (cA 0, 12, .inl i0) := ce_int (n := 12) (rs := []) (by decide +kernel) (D0_i (by decide +kernel))
theorem cel_122 {cA : Nat → ClassId} {ad : Nat → Nat} : cellOf cA ad D00 122 = .inl (cA 0, 12, .inl i0) := ce_int (n := 12) (rs := []) (by decide +kernel) (D0_i (by decide +kernel))
theorem cel_123 {cA : Nat → ClassId} {ad : Nat → Nat} : cellOf cA ad D00 123 = .inl (cA 1, 6, .inl (opF 6)) := ce_bool (n := 6) (rs := []) (by decide +kernel) (D0_o (by decide +kernel))
theorem cel_124 {cA : Nat → ClassId} {ad : Nat → Nat} : cellOf cA ad D00 124 = .inl (cA 0, 6, .inl (heF 6)) := ce_int (n := 6) (rs := []) (by decide +kernel) (D0_h (by decide +kernel))
theorem cel_125 {cA : Nat → ClassId} {ad : Nat → Nat} : cellOf cA ad D00 125 = .inl (cA 0, 6, .inl i0) := ce_int (n := 6) (rs := []) (by decide +kernel) (D0_i (by decide +kernel))
theorem cel_126 {cA : Nat → ClassId} {ad : Nat → Nat} : cellOf cA ad D00 126 = .inl (cA 0, 6, .inl i0) := ce_int (n := 6) (rs := []) (by decide +kernel) (D0_i (by decide +kernel))
theorem cel_127 {cA : Nat → ClassId} {ad : Nat → Nat} : cellOf cA ad D00 127 = .inr (5, [.ref (ad 128), .ref (ad 137), .ref (ad 138), .ref (ad 139), .ref (ad 140), .int 0, .int 0, .int 0, .int 0, .int 0, .int 0]) := (ce_obj (ci := 5) (n := 11) (rs := [some 128, some 137, some 138, some 139, some 140, none, none, none, none, none, none]) (by decide +kernel) (by decide) (D0_i (by decide +kernel))).trans rfl
theorem cel_128 {cA : Nat → ClassId} {ad : Nat → Nat} : cellOf cA ad D00 128 = .inr (6, [.ref (ad 129), .ref (ad 130), .ref (ad 131), .ref (ad 132), .ref (ad 133), .ref (ad 134), .ref (ad 135), .ref (ad 136), .int 0]) := (ce_obj (ci := 6) (n := 9) (rs := [some 129, some 130, some 131, some 132, some 133, some 134, some 135, some 136, none]) (by decide +kernel) (by decide) (D0_i (by decide +kernel))).trans rfl
theorem cel_129 {cA : Nat → ClassId} {ad : Nat → Nat} : cellOf cA ad D00 129 = .inl (cA 0, 12, .inl i0) := ce_int (n := 12) (rs := []) (by decide +kernel) (D0_i (by decide +kernel))
theorem cel_130 {cA : Nat → ClassId} {ad : Nat → Nat} : cellOf cA ad D00 130 = .inl (cA 0, 12, .inl i0) := ce_int (n := 12) (rs := []) (by decide +kernel) (D0_i (by decide +kernel))
theorem cel_131 {cA : Nat → ClassId} {ad : Nat → Nat} : cellOf cA ad D00 131 = .inl (cA 0, 12, .inl i0) := ce_int (n := 12) (rs := []) (by decide +kernel) (D0_i (by decide +kernel))
theorem cel_132 {cA : Nat → ClassId} {ad : Nat → Nat} : cellOf cA ad D00 132 = .inl (cA 0, 12, .inl i0) := ce_int (n := 12) (rs := []) (by decide +kernel) (D0_i (by decide +kernel))
theorem cel_133 {cA : Nat → ClassId} {ad : Nat → Nat} : cellOf cA ad D00 133 = .inl (cA 0, 12, .inl i0) := ce_int (n := 12) (rs := []) (by decide +kernel) (D0_i (by decide +kernel))
theorem cel_134 {cA : Nat → ClassId} {ad : Nat → Nat} : cellOf cA ad D00 134 = .inl (cA 0, 12, .inl i0) := ce_int (n := 12) (rs := []) (by decide +kernel) (D0_i (by decide +kernel))
theorem cel_135 {cA : Nat → ClassId} {ad : Nat → Nat} : cellOf cA ad D00 135 = .inl (cA 0, 12, .inl i0) := ce_int (n := 12) (rs := []) (by decide +kernel) (D0_i (by decide +kernel))
theorem cel_136 {cA : Nat → ClassId} {ad : Nat → Nat} : cellOf cA ad D00 136 = .inl (cA 0, 12, .inl i0) := ce_int (n := 12) (rs := []) (by decide +kernel) (D0_i (by decide +kernel))
theorem cel_137 {cA : Nat → ClassId} {ad : Nat → Nat} : cellOf cA ad D00 137 = .inl (cA 1, 6, .inl (opF 6)) := ce_bool (n := 6) (rs := []) (by decide +kernel) (D0_o (by decide +kernel))
theorem cel_138 {cA : Nat → ClassId} {ad : Nat → Nat} : cellOf cA ad D00 138 = .inl (cA 0, 6, .inl (heF 6)) := ce_int (n := 6) (rs := []) (by decide +kernel) (D0_h (by decide +kernel))
theorem cel_139 {cA : Nat → ClassId} {ad : Nat → Nat} : cellOf cA ad D00 139 = .inl (cA 0, 6, .inl i0) := ce_int (n := 6) (rs := []) (by decide +kernel) (D0_i (by decide +kernel))
theorem cel_140 {cA : Nat → ClassId} {ad : Nat → Nat} : cellOf cA ad D00 140 = .inl (cA 0, 6, .inl i0) := ce_int (n := 6) (rs := []) (by decide +kernel) (D0_i (by decide +kernel))
theorem cel_141 {cA : Nat → ClassId} {ad : Nat → Nat} : cellOf cA ad D00 141 = .inr (5, [.ref (ad 142), .ref (ad 151), .ref (ad 152), .ref (ad 153), .ref (ad 154), .int 0, .int 0, .int 0, .int 0, .int 0, .int 0]) := (ce_obj (ci := 5) (n := 11) (rs := [some 142, some 151, some 152, some 153, some 154, none, none, none, none, none, none]) (by decide +kernel) (by decide) (D0_i (by decide +kernel))).trans rfl
theorem cel_142 {cA : Nat → ClassId} {ad : Nat → Nat} : cellOf cA ad D00 142 = .inr (6, [.ref (ad 143), .ref (ad 144), .ref (ad 145), .ref (ad 146), .ref (ad 147), .ref (ad 148), .ref (ad 149), .ref (ad 150), .int 0]) := (ce_obj (ci := 6) (n := 9) (rs := [some 143, some 144, some 145, some 146, some 147, some 148, some 149, some 150, none]) (by decide +kernel) (by decide) (D0_i (by decide +kernel))).trans rfl
theorem cel_143 {cA : Nat → ClassId} {ad : Nat → Nat} : cellOf cA ad D00 143 = .inl (cA 0, 12, .inl i0) := ce_int (n := 12) (rs := []) (by decide +kernel) (D0_i (by decide +kernel))
theorem cel_144 {cA : Nat → ClassId} {ad : Nat → Nat} : cellOf cA ad D00 144 = .inl (cA 0, 12, .inl i0) := ce_int (n := 12) (rs := []) (by decide +kernel) (D0_i (by decide +kernel))
theorem cel_145 {cA : Nat → ClassId} {ad : Nat → Nat} : cellOf cA ad D00 145 = .inl (cA 0, 12, .inl i0) := ce_int (n := 12) (rs := []) (by decide +kernel) (D0_i (by decide +kernel))
theorem cel_146 {cA : Nat → ClassId} {ad : Nat → Nat} : cellOf cA ad D00 146 = .inl (cA 0, 12, .inl i0) := ce_int (n := 12) (rs := []) (by decide +kernel) (D0_i (by decide +kernel))
theorem cel_147 {cA : Nat → ClassId} {ad : Nat → Nat} : cellOf cA ad D00 147 = .inl (cA 0, 12, .inl i0) := ce_int (n := 12) (rs := []) (by decide +kernel) (D0_i (by decide +kernel))
theorem cel_148 {cA : Nat → ClassId} {ad : Nat → Nat} : cellOf cA ad D00 148 = .inl (cA 0, 12, .inl i0) := ce_int (n := 12) (rs := []) (by decide +kernel) (D0_i (by decide +kernel))
theorem cel_149 {cA : Nat → ClassId} {ad : Nat → Nat} : cellOf cA ad D00 149 = .inl (cA 0, 12, .inl i0) := ce_int (n := 12) (rs := []) (by decide +kernel) (D0_i (by decide +kernel))
theorem cel_150 {cA : Nat → ClassId} {ad : Nat → Nat} : cellOf cA ad D00 150 = .inl (cA 0, 12, .inl i0) := ce_int (n := 12) (rs := []) (by decide +kernel) (D0_i (by decide +kernel))
theorem cel_151 {cA : Nat → ClassId} {ad : Nat → Nat} : cellOf cA ad D00 151 = .inl (cA 1, 6, .inl (opF 6)) := ce_bool (n := 6) (rs := []) (by decide +kernel) (D0_o (by decide +kernel))
theorem cel_152 {cA : Nat → ClassId} {ad : Nat → Nat} : cellOf cA ad D00 152 = .inl (cA 0, 6, .inl (heF 6)) := ce_int (n := 6) (rs := []) (by decide +kernel) (D0_h (by decide +kernel))
theorem cel_153 {cA : Nat → ClassId} {ad : Nat → Nat} : cellOf cA ad D00 153 = .inl (cA 0, 6, .inl i0) := ce_int (n := 6) (rs := []) (by decide +kernel) (D0_i (by decide +kernel))
theorem cel_154 {cA : Nat → ClassId} {ad : Nat → Nat} : cellOf cA ad D00 154 = .inl (cA 0, 6, .inl i0) := ce_int (n := 6) (rs := []) (by decide +kernel) (D0_i (by decide +kernel))
theorem cel_155 {cA : Nat → ClassId} {ad : Nat → Nat} : cellOf cA ad D00 155 = .inr (1, [.ref (ad 156), .int 0, .int 0]) := (ce_obj (ci := 1) (n := 3) (rs := [some 156, none, none]) (by decide +kernel) (by decide) (D0_i (by decide +kernel))).trans rfl
theorem cel_156 {cA : Nat → ClassId} {ad : Nat → Nat} : cellOf cA ad D00 156 = .inl (cA 3, 9, .inr (.inr (.inr (.inr (fun j => [ad 29, ad 43, ad 57, ad 71, ad 85, ad 99, ad 113, ad 127, ad 141][j]?))))) := by
  rw [cell_refs (by decide +kernel), show sh 156 = (23, 9, [some 29, some 43, some 57, some 71, some 85, some 99, some 113, some 127, some 141]) by decide +kernel]
  show (Sum.inl (cA 3, 9, .inr (.inr (.inr (.inr (fun j => match ([some 29, some 43, some 57, some 71, some 85, some 99, some 113, some 127, some 141] : List (Option Nat))[j]? with
    | some (some q) => some (ad q)
    | _ => none))))) : va_E) = _
  have e : (fun j : Nat => match ([some 29, some 43, some 57, some 71, some 85, some 99, some 113, some 127, some 141] : List (Option Nat))[j]? with
    | some (some q) => some (ad q)
    | _ => none) = fun j : Nat => ([ad 29, ad 43, ad 57, ad 71, ad 85, ad 99, ad 113, ad 127, ad 141] : List Nat)[j]? := by
    funext j
    match j with
    | 0 => rfl
    | 1 => rfl
    | 2 => rfl
    | 3 => rfl
    | 4 => rfl
    | 5 => rfl
    | 6 => rfl
    | 7 => rfl
    | 8 => rfl
    | j + 9 => rfl
  rw [e]
theorem cel_157 {cA : Nat → ClassId} {ad : Nat → Nat} : cellOf cA ad D00 157 = .inr (3, [.ref (ad 158), .ref (ad 159), .int 0]) := (ce_obj (ci := 3) (n := 3) (rs := [some 158, some 159, none]) (by decide +kernel) (by decide) (D0_i (by decide +kernel))).trans rfl
theorem cel_158 {cA : Nat → ClassId} {ad : Nat → Nat} : cellOf cA ad D00 158 = .inl (cA 0, 3, .inl i0) := ce_int (n := 3) (rs := []) (by decide +kernel) (D0_i (by decide +kernel))
theorem cel_159 {cA : Nat → ClassId} {ad : Nat → Nat} : cellOf cA ad D00 159 = .inl (cA 0, 3, .inl i0) := ce_int (n := 3) (rs := []) (by decide +kernel) (D0_i (by decide +kernel))
theorem cel_160 {cA : Nat → ClassId} {ad : Nat → Nat} : cellOf cA ad D00 160 = .inr (2, [.ref (ad 161), .ref (ad 162), .ref (ad 163), .ref (ad 164), .int 0, .int 0]) := (ce_obj (ci := 2) (n := 6) (rs := [some 161, some 162, some 163, some 164, none, none]) (by decide +kernel) (by decide) (D0_i (by decide +kernel))).trans rfl
theorem cel_161 {cA : Nat → ClassId} {ad : Nat → Nat} : cellOf cA ad D00 161 = .inl (cA 0, 60, .inl i0) := ce_int (n := 60) (rs := []) (by decide +kernel) (D0_i (by decide +kernel))
theorem cel_162 {cA : Nat → ClassId} {ad : Nat → Nat} : cellOf cA ad D00 162 = .inl (cA 0, 60, .inl i0) := ce_int (n := 60) (rs := []) (by decide +kernel) (D0_i (by decide +kernel))
theorem cel_163 {cA : Nat → ClassId} {ad : Nat → Nat} : cellOf cA ad D00 163 = .inl (cA 0, 60, .inl i0) := ce_int (n := 60) (rs := []) (by decide +kernel) (D0_i (by decide +kernel))
theorem cel_164 {cA : Nat → ClassId} {ad : Nat → Nat} : cellOf cA ad D00 164 = .inl (cA 0, 60, .inl i0) := ce_int (n := 60) (rs := []) (by decide +kernel) (D0_i (by decide +kernel))
theorem cel_165 {cA : Nat → ClassId} {ad : Nat → Nat} : cellOf cA ad D00 165 = .inr (4, [.ref (ad 166), .ref (ad 167), .ref (ad 168)]) := (ce_obj (ci := 4) (n := 3) (rs := [some 166, some 167, some 168]) (by decide +kernel) (by decide) (D0_i (by decide +kernel))).trans rfl
theorem cel_166 {cA : Nat → ClassId} {ad : Nat → Nat} : cellOf cA ad D00 166 = .inl (cA 0, 6, .inl i0) := ce_int (n := 6) (rs := []) (by decide +kernel) (D0_i (by decide +kernel))
theorem cel_167 {cA : Nat → ClassId} {ad : Nat → Nat} : cellOf cA ad D00 167 = .inl (cA 0, 6, .inl i0) := ce_int (n := 6) (rs := []) (by decide +kernel) (D0_i (by decide +kernel))
theorem cel_168 {cA : Nat → ClassId} {ad : Nat → Nat} : cellOf cA ad D00 168 = .inl (cA 0, 6, .inl i0) := ce_int (n := 6) (rs := []) (by decide +kernel) (D0_i (by decide +kernel))
theorem cel_169 {cA : Nat → ClassId} {ad : Nat → Nat} : cellOf cA ad D00 169 = .inr (0, [.ref (ad 181), .int 0, .int 0, .int 0]) := (ce_obj (ci := 0) (n := 4) (rs := [some 181, none, none, none]) (by decide +kernel) (by decide) (D0_i (by decide +kernel))).trans rfl
theorem cel_170 {cA : Nat → ClassId} {ad : Nat → Nat} : cellOf cA ad D00 170 = .inr (0, [.ref (ad 182), .int 0, .int 0, .int 0]) := (ce_obj (ci := 0) (n := 4) (rs := [some 182, none, none, none]) (by decide +kernel) (by decide) (D0_i (by decide +kernel))).trans rfl
theorem cel_181 {cA : Nat → ClassId} {ad : Nat → Nat} : cellOf cA ad D00 181 = .inl (cA 2, 16, .inl b16) := ce_byte (n := 0) (rs := []) (by decide +kernel) (D0_b (by decide +kernel))
theorem cel_182 {cA : Nat → ClassId} {ad : Nat → Nat} : cellOf cA ad D00 182 = .inl (cA 2, 16, .inl b16) := ce_byte (n := 0) (rs := []) (by decide +kernel) (D0_b (by decide +kernel))
def frag (cA : Nat → ClassId) (ad : Nat → Nat) (L : List Nat) : va_W := L.map (fun k => (ad k, cellOf cA ad D00 k))
theorem frag_app {cA : Nat → ClassId} {ad : Nat → Nat} {L M : List Nat} : frag cA ad (L ++ M) = frag cA ad L ++ frag cA ad M := List.map_append
theorem fr_1 {cA : Nat → ClassId} {ad : Nat → Nat} : frag cA ad [1, 2, 3, 4, 5, 6, 7, 8, 9, 10, 11, 12, 13, 14] = staW cA (fun j => ad (1 + j)) := by
  show [(ad 1, cellOf cA ad D00 1), (ad 2, cellOf cA ad D00 2), (ad 3, cellOf cA ad D00 3), (ad 4, cellOf cA ad D00 4), (ad 5, cellOf cA ad D00 5), (ad 6, cellOf cA ad D00 6), (ad 7, cellOf cA ad D00 7), (ad 8, cellOf cA ad D00 8), (ad 9, cellOf cA ad D00 9), (ad 10, cellOf cA ad D00 10), (ad 11, cellOf cA ad D00 11), (ad 12, cellOf cA ad D00 12), (ad 13, cellOf cA ad D00 13), (ad 14, cellOf cA ad D00 14)] = _
  rw [cel_1, cel_2, cel_3, cel_4, cel_5, cel_6, cel_7, cel_8, cel_9, cel_10, cel_11, cel_12, cel_13, cel_14]
  rfl
theorem fr_15 {cA : Nat → ClassId} {ad : Nat → Nat} : frag cA ad [15, 16, 17, 18, 19, 20, 21, 22, 23, 24, 25, 26, 27, 28] = staW cA (fun j => ad (15 + j)) := by
  show [(ad 15, cellOf cA ad D00 15), (ad 16, cellOf cA ad D00 16), (ad 17, cellOf cA ad D00 17), (ad 18, cellOf cA ad D00 18), (ad 19, cellOf cA ad D00 19), (ad 20, cellOf cA ad D00 20), (ad 21, cellOf cA ad D00 21), (ad 22, cellOf cA ad D00 22), (ad 23, cellOf cA ad D00 23), (ad 24, cellOf cA ad D00 24), (ad 25, cellOf cA ad D00 25), (ad 26, cellOf cA ad D00 26), (ad 27, cellOf cA ad D00 27), (ad 28, cellOf cA ad D00 28)] = _
  rw [cel_15, cel_16, cel_17, cel_18, cel_19, cel_20, cel_21, cel_22, cel_23, cel_24, cel_25, cel_26, cel_27, cel_28]
  rfl
theorem fr_29 {cA : Nat → ClassId} {ad : Nat → Nat} : frag cA ad [29, 30, 31, 32, 33, 34, 35, 36, 37, 38, 39, 40, 41, 42] = staW cA (fun j => ad (29 + j)) := by
  show [(ad 29, cellOf cA ad D00 29), (ad 30, cellOf cA ad D00 30), (ad 31, cellOf cA ad D00 31), (ad 32, cellOf cA ad D00 32), (ad 33, cellOf cA ad D00 33), (ad 34, cellOf cA ad D00 34), (ad 35, cellOf cA ad D00 35), (ad 36, cellOf cA ad D00 36), (ad 37, cellOf cA ad D00 37), (ad 38, cellOf cA ad D00 38), (ad 39, cellOf cA ad D00 39), (ad 40, cellOf cA ad D00 40), (ad 41, cellOf cA ad D00 41), (ad 42, cellOf cA ad D00 42)] = _
  rw [cel_29, cel_30, cel_31, cel_32, cel_33, cel_34, cel_35, cel_36, cel_37, cel_38, cel_39, cel_40, cel_41, cel_42]
  rfl
theorem fr_43 {cA : Nat → ClassId} {ad : Nat → Nat} : frag cA ad [43, 44, 45, 46, 47, 48, 49, 50, 51, 52, 53, 54, 55, 56] = staW cA (fun j => ad (43 + j)) := by
  show [(ad 43, cellOf cA ad D00 43), (ad 44, cellOf cA ad D00 44), (ad 45, cellOf cA ad D00 45), (ad 46, cellOf cA ad D00 46), (ad 47, cellOf cA ad D00 47), (ad 48, cellOf cA ad D00 48), (ad 49, cellOf cA ad D00 49), (ad 50, cellOf cA ad D00 50), (ad 51, cellOf cA ad D00 51), (ad 52, cellOf cA ad D00 52), (ad 53, cellOf cA ad D00 53), (ad 54, cellOf cA ad D00 54), (ad 55, cellOf cA ad D00 55), (ad 56, cellOf cA ad D00 56)] = _
  rw [cel_43, cel_44, cel_45, cel_46, cel_47, cel_48, cel_49, cel_50, cel_51, cel_52, cel_53, cel_54, cel_55, cel_56]
  rfl
theorem fr_57 {cA : Nat → ClassId} {ad : Nat → Nat} : frag cA ad [57, 58, 59, 60, 61, 62, 63, 64, 65, 66, 67, 68, 69, 70] = staW cA (fun j => ad (57 + j)) := by
  show [(ad 57, cellOf cA ad D00 57), (ad 58, cellOf cA ad D00 58), (ad 59, cellOf cA ad D00 59), (ad 60, cellOf cA ad D00 60), (ad 61, cellOf cA ad D00 61), (ad 62, cellOf cA ad D00 62), (ad 63, cellOf cA ad D00 63), (ad 64, cellOf cA ad D00 64), (ad 65, cellOf cA ad D00 65), (ad 66, cellOf cA ad D00 66), (ad 67, cellOf cA ad D00 67), (ad 68, cellOf cA ad D00 68), (ad 69, cellOf cA ad D00 69), (ad 70, cellOf cA ad D00 70)] = _
  rw [cel_57, cel_58, cel_59, cel_60, cel_61, cel_62, cel_63, cel_64, cel_65, cel_66, cel_67, cel_68, cel_69, cel_70]
  rfl
theorem fr_71 {cA : Nat → ClassId} {ad : Nat → Nat} : frag cA ad [71, 72, 73, 74, 75, 76, 77, 78, 79, 80, 81, 82, 83, 84] = staW cA (fun j => ad (71 + j)) := by
  show [(ad 71, cellOf cA ad D00 71), (ad 72, cellOf cA ad D00 72), (ad 73, cellOf cA ad D00 73), (ad 74, cellOf cA ad D00 74), (ad 75, cellOf cA ad D00 75), (ad 76, cellOf cA ad D00 76), (ad 77, cellOf cA ad D00 77), (ad 78, cellOf cA ad D00 78), (ad 79, cellOf cA ad D00 79), (ad 80, cellOf cA ad D00 80), (ad 81, cellOf cA ad D00 81), (ad 82, cellOf cA ad D00 82), (ad 83, cellOf cA ad D00 83), (ad 84, cellOf cA ad D00 84)] = _
  rw [cel_71, cel_72, cel_73, cel_74, cel_75, cel_76, cel_77, cel_78, cel_79, cel_80, cel_81, cel_82, cel_83, cel_84]
  rfl
theorem fr_85 {cA : Nat → ClassId} {ad : Nat → Nat} : frag cA ad [85, 86, 87, 88, 89, 90, 91, 92, 93, 94, 95, 96, 97, 98] = staW cA (fun j => ad (85 + j)) := by
  show [(ad 85, cellOf cA ad D00 85), (ad 86, cellOf cA ad D00 86), (ad 87, cellOf cA ad D00 87), (ad 88, cellOf cA ad D00 88), (ad 89, cellOf cA ad D00 89), (ad 90, cellOf cA ad D00 90), (ad 91, cellOf cA ad D00 91), (ad 92, cellOf cA ad D00 92), (ad 93, cellOf cA ad D00 93), (ad 94, cellOf cA ad D00 94), (ad 95, cellOf cA ad D00 95), (ad 96, cellOf cA ad D00 96), (ad 97, cellOf cA ad D00 97), (ad 98, cellOf cA ad D00 98)] = _
  rw [cel_85, cel_86, cel_87, cel_88, cel_89, cel_90, cel_91, cel_92, cel_93, cel_94, cel_95, cel_96, cel_97, cel_98]
  rfl
theorem fr_99 {cA : Nat → ClassId} {ad : Nat → Nat} : frag cA ad [99, 100, 101, 102, 103, 104, 105, 106, 107, 108, 109, 110, 111, 112] = staW cA (fun j => ad (99 + j)) := by
  show [(ad 99, cellOf cA ad D00 99), (ad 100, cellOf cA ad D00 100), (ad 101, cellOf cA ad D00 101), (ad 102, cellOf cA ad D00 102), (ad 103, cellOf cA ad D00 103), (ad 104, cellOf cA ad D00 104), (ad 105, cellOf cA ad D00 105), (ad 106, cellOf cA ad D00 106), (ad 107, cellOf cA ad D00 107), (ad 108, cellOf cA ad D00 108), (ad 109, cellOf cA ad D00 109), (ad 110, cellOf cA ad D00 110), (ad 111, cellOf cA ad D00 111), (ad 112, cellOf cA ad D00 112)] = _
  rw [cel_99, cel_100, cel_101, cel_102, cel_103, cel_104, cel_105, cel_106, cel_107, cel_108, cel_109, cel_110, cel_111, cel_112]
  rfl
theorem fr_113 {cA : Nat → ClassId} {ad : Nat → Nat} : frag cA ad [113, 114, 115, 116, 117, 118, 119, 120, 121, 122, 123, 124, 125, 126] = staW cA (fun j => ad (113 + j)) := by
  show [(ad 113, cellOf cA ad D00 113), (ad 114, cellOf cA ad D00 114), (ad 115, cellOf cA ad D00 115), (ad 116, cellOf cA ad D00 116), (ad 117, cellOf cA ad D00 117), (ad 118, cellOf cA ad D00 118), (ad 119, cellOf cA ad D00 119), (ad 120, cellOf cA ad D00 120), (ad 121, cellOf cA ad D00 121), (ad 122, cellOf cA ad D00 122), (ad 123, cellOf cA ad D00 123), (ad 124, cellOf cA ad D00 124), (ad 125, cellOf cA ad D00 125), (ad 126, cellOf cA ad D00 126)] = _
  rw [cel_113, cel_114, cel_115, cel_116, cel_117, cel_118, cel_119, cel_120, cel_121, cel_122, cel_123, cel_124, cel_125, cel_126]
  rfl
theorem fr_127 {cA : Nat → ClassId} {ad : Nat → Nat} : frag cA ad [127, 128, 129, 130, 131, 132, 133, 134, 135, 136, 137, 138, 139, 140] = staW cA (fun j => ad (127 + j)) := by
  show [(ad 127, cellOf cA ad D00 127), (ad 128, cellOf cA ad D00 128), (ad 129, cellOf cA ad D00 129), (ad 130, cellOf cA ad D00 130), (ad 131, cellOf cA ad D00 131), (ad 132, cellOf cA ad D00 132), (ad 133, cellOf cA ad D00 133), (ad 134, cellOf cA ad D00 134), (ad 135, cellOf cA ad D00 135), (ad 136, cellOf cA ad D00 136), (ad 137, cellOf cA ad D00 137), (ad 138, cellOf cA ad D00 138), (ad 139, cellOf cA ad D00 139), (ad 140, cellOf cA ad D00 140)] = _
  rw [cel_127, cel_128, cel_129, cel_130, cel_131, cel_132, cel_133, cel_134, cel_135, cel_136, cel_137, cel_138, cel_139, cel_140]
  rfl
theorem fr_141 {cA : Nat → ClassId} {ad : Nat → Nat} : frag cA ad [141, 142, 143, 144, 145, 146, 147, 148, 149, 150, 151, 152, 153, 154] = staW cA (fun j => ad (141 + j)) := by
  show [(ad 141, cellOf cA ad D00 141), (ad 142, cellOf cA ad D00 142), (ad 143, cellOf cA ad D00 143), (ad 144, cellOf cA ad D00 144), (ad 145, cellOf cA ad D00 145), (ad 146, cellOf cA ad D00 146), (ad 147, cellOf cA ad D00 147), (ad 148, cellOf cA ad D00 148), (ad 149, cellOf cA ad D00 149), (ad 150, cellOf cA ad D00 150), (ad 151, cellOf cA ad D00 151), (ad 152, cellOf cA ad D00 152), (ad 153, cellOf cA ad D00 153), (ad 154, cellOf cA ad D00 154)] = _
  rw [cel_141, cel_142, cel_143, cel_144, cel_145, cel_146, cel_147, cel_148, cel_149, cel_150, cel_151, cel_152, cel_153, cel_154]
  rfl
theorem fr_0 {cA : Nat → ClassId} {ad : Nat → Nat} : frag cA ad [0] = [(ad 0, .inr (7, [.ref (ad 1), .ref (ad 15), .int 0, .ref (ad 155), .ref (ad 157), .ref (ad 160), .ref (ad 165), .ref (ad 169), .ref (ad 170)]))] := by
  show [(ad 0, cellOf cA ad D00 0)] = _
  rw [cel_0]
theorem fr_155 {cA : Nat → ClassId} {ad : Nat → Nat} : frag cA ad [155, 156] = [(ad 155, .inr (1, [.ref (ad 156), .int 0, .int 0])), (ad 156, .inl (cA 3, 9, .inr (.inr (.inr (.inr (fun j => [ad 29, ad 43, ad 57, ad 71, ad 85, ad 99, ad 113, ad 127, ad 141][j]?))))))] := by
  show [(ad 155, cellOf cA ad D00 155), (ad 156, cellOf cA ad D00 156)] = _
  rw [cel_155, cel_156]
theorem fr_157 {cA : Nat → ClassId} {ad : Nat → Nat} : frag cA ad [157, 158, 159] = reaW cA (fun j => ad (157 + j)) := by
  show [(ad 157, cellOf cA ad D00 157), (ad 158, cellOf cA ad D00 158), (ad 159, cellOf cA ad D00 159)] = _
  rw [cel_157, cel_158, cel_159]
  rfl
theorem fr_160 {cA : Nat → ClassId} {ad : Nat → Nat} : frag cA ad [160, 161, 162, 163, 164] = ordW cA (fun j => ad (160 + j)) := by
  show [(ad 160, cellOf cA ad D00 160), (ad 161, cellOf cA ad D00 161), (ad 162, cellOf cA ad D00 162), (ad 163, cellOf cA ad D00 163), (ad 164, cellOf cA ad D00 164)] = _
  rw [cel_160, cel_161, cel_162, cel_163, cel_164]
  rfl
theorem fr_165 {cA : Nat → ClassId} {ad : Nat → Nat} : frag cA ad [165, 166, 167, 168] = shaW cA (fun j => ad (165 + j)) := by
  show [(ad 165, cellOf cA ad D00 165), (ad 166, cellOf cA ad D00 166), (ad 167, cellOf cA ad D00 167), (ad 168, cellOf cA ad D00 168)] = _
  rw [cel_165, cel_166, cel_167, cel_168]
  rfl
theorem fr_169 {cA : Nat → ClassId} {ad : Nat → Nat} : frag cA ad [169, 181] = sbW cA (fun j => ad (if j = 0 then 169 else 181)) := by
  show [(ad 169, cellOf cA ad D00 169), (ad 181, cellOf cA ad D00 181)] = _
  rw [cel_169, cel_181]
  rfl
theorem fr_170 {cA : Nat → ClassId} {ad : Nat → Nat} : frag cA ad [170, 182] = sbW cA (fun j => ad (if j = 0 then 170 else 182)) := by
  show [(ad 170, cellOf cA ad D00 170), (ad 182, cellOf cA ad D00 182)] = _
  rw [cel_170, cel_182]
  rfl
theorem fr_his {cA : Nat → ClassId} {ad : Nat → Nat} : hisW cA (fun j => ad (if j < 2 then 155 + j else 27 + j)) = frag cA ad [155, 156] ++ frag cA ad [29, 30, 31, 32, 33, 34, 35, 36, 37, 38, 39, 40, 41, 42] ++ frag cA ad [43, 44, 45, 46, 47, 48, 49, 50, 51, 52, 53, 54, 55, 56] ++ frag cA ad [57, 58, 59, 60, 61, 62, 63, 64, 65, 66, 67, 68, 69, 70] ++ frag cA ad [71, 72, 73, 74, 75, 76, 77, 78, 79, 80, 81, 82, 83, 84] ++ frag cA ad [85, 86, 87, 88, 89, 90, 91, 92, 93, 94, 95, 96, 97, 98] ++ frag cA ad [99, 100, 101, 102, 103, 104, 105, 106, 107, 108, 109, 110, 111, 112] ++ frag cA ad [113, 114, 115, 116, 117, 118, 119, 120, 121, 122, 123, 124, 125, 126] ++ frag cA ad [127, 128, 129, 130, 131, 132, 133, 134, 135, 136, 137, 138, 139, 140] ++ frag cA ad [141, 142, 143, 144, 145, 146, 147, 148, 149, 150, 151, 152, 153, 154] := by
  unfold hisW
  rw [staW_cg (f := fun j => ad (if 2 + j < 2 then 155 + (2 + j) else 27 + (2 + j))) (g := fun j => ad (29 + j)) (fun j hj => by rw [if_neg (by omega)]; exact congrArg ad (by omega)), staW_cg (f := fun j => ad (if 16 + j < 2 then 155 + (16 + j) else 27 + (16 + j))) (g := fun j => ad (43 + j)) (fun j hj => by rw [if_neg (by omega)]; exact congrArg ad (by omega)), staW_cg (f := fun j => ad (if 30 + j < 2 then 155 + (30 + j) else 27 + (30 + j))) (g := fun j => ad (57 + j)) (fun j hj => by rw [if_neg (by omega)]; exact congrArg ad (by omega)), staW_cg (f := fun j => ad (if 44 + j < 2 then 155 + (44 + j) else 27 + (44 + j))) (g := fun j => ad (71 + j)) (fun j hj => by rw [if_neg (by omega)]; exact congrArg ad (by omega)), staW_cg (f := fun j => ad (if 58 + j < 2 then 155 + (58 + j) else 27 + (58 + j))) (g := fun j => ad (85 + j)) (fun j hj => by rw [if_neg (by omega)]; exact congrArg ad (by omega)), staW_cg (f := fun j => ad (if 72 + j < 2 then 155 + (72 + j) else 27 + (72 + j))) (g := fun j => ad (99 + j)) (fun j hj => by rw [if_neg (by omega)]; exact congrArg ad (by omega)), staW_cg (f := fun j => ad (if 86 + j < 2 then 155 + (86 + j) else 27 + (86 + j))) (g := fun j => ad (113 + j)) (fun j hj => by rw [if_neg (by omega)]; exact congrArg ad (by omega)), staW_cg (f := fun j => ad (if 100 + j < 2 then 155 + (100 + j) else 27 + (100 + j))) (g := fun j => ad (127 + j)) (fun j hj => by rw [if_neg (by omega)]; exact congrArg ad (by omega)), staW_cg (f := fun j => ad (if 114 + j < 2 then 155 + (114 + j) else 27 + (114 + j))) (g := fun j => ad (141 + j)) (fun j hj => by rw [if_neg (by omega)]; exact congrArg ad (by omega))]
  rw [fr_155, fr_29, fr_43, fr_57, fr_71, fr_85, fr_99, fr_113, fr_127, fr_141]
  rfl
def L6 : List Nat := [0] ++ [1, 2, 3, 4, 5, 6, 7, 8, 9, 10, 11, 12, 13, 14] ++ [15, 16, 17, 18, 19, 20, 21, 22, 23, 24, 25, 26, 27, 28] ++ ([155, 156] ++ [29, 30, 31, 32, 33, 34, 35, 36, 37, 38, 39, 40, 41, 42] ++ [43, 44, 45, 46, 47, 48, 49, 50, 51, 52, 53, 54, 55, 56] ++ [57, 58, 59, 60, 61, 62, 63, 64, 65, 66, 67, 68, 69, 70] ++ [71, 72, 73, 74, 75, 76, 77, 78, 79, 80, 81, 82, 83, 84] ++ [85, 86, 87, 88, 89, 90, 91, 92, 93, 94, 95, 96, 97, 98] ++ [99, 100, 101, 102, 103, 104, 105, 106, 107, 108, 109, 110, 111, 112] ++ [113, 114, 115, 116, 117, 118, 119, 120, 121, 122, 123, 124, 125, 126] ++ [127, 128, 129, 130, 131, 132, 133, 134, 135, 136, 137, 138, 139, 140] ++ [141, 142, 143, 144, 145, 146, 147, 148, 149, 150, 151, 152, 153, 154]) ++ [157, 158, 159] ++ [160, 161, 162, 163, 164] ++ [165, 166, 167, 168] ++ [169, 181] ++ [170, 182]
theorem x6_frag {cA : Nat → ClassId} {ad : Nat → Nat} : x6W cA ad = frag cA ad L6 := by
  unfold x6W L6
  rw [← fr_1, ← fr_15, fr_his, ← fr_157, ← fr_160, ← fr_165, ← fr_169, ← fr_170]
  simp only [frag_app]
  rw [fr_0]
def D0 (scr : Nat → Int32) (L : Nat) : Mm := fun k => if k = 4000 then (fun j => if j = LEN then nI L else scr j) else D00 k
theorem D0_ne {scr : Nat → Int32} {L k : Nat} (h : k ≠ 4000) : D0 scr L k = D00 k := if_neg h
theorem D0_scr {scr : Nat → Int32} {L j : Nat} (h : j ≠ LEN) : D0 scr L 4000 j = scr j := by
  unfold D0; rw [if_pos rfl]; exact if_neg h
theorem D0_len {scr : Nat → Int32} {L : Nat} : D0 scr L 4000 LEN = nI L := by
  unfold D0; rw [if_pos rfl]; exact if_pos rfl
theorem D00_4500 : D00 4500 = i0 := D0_i (by decide +kernel)
theorem D0_nxt {scr : Nat → Int32} {L : Nat} : nxt (D0 scr L) = 0 := by unfold nxt; rw [D0_ne (by decide), D00_4500]; rfl
theorem D0_usd {scr : Nat → Int32} {L : Nat} : usd (D0 scr L) = 0 := by unfold usd; rw [D0_ne (by decide), D00_4500]; rfl
theorem L6_ok : (List.range 173).all (fun i => decide (L6[L6.idxOf (nm i)]? = some (nm i)) && decide (nm i ≠ 4000)) = true := by decide +kernel
theorem L6_at {i : Nat} (h : i < 173) : L6[L6.idxOf (nm i)]? = some (nm i) := of_decide_eq_true ((Bool.and_eq_true _ _).mp (List.all_eq_true.mp L6_ok i (List.mem_range.mpr h))).1
theorem nm_scr {i : Nat} (h : i < 173) : nm i ≠ 4000 := of_decide_eq_true ((Bool.and_eq_true _ _).mp (List.all_eq_true.mp L6_ok i (List.mem_range.mpr h))).2
theorem frag_at {cA : Nat → ClassId} {ad : Nat → Nat} {i : Nat} (h : i < 173) : (frag cA ad L6)[L6.idxOf (nm i)]? = some (ad (nm i), cellOf cA ad D00 (nm i)) := by
  unfold frag
  rw [List.getElem?_map, L6_at h]
  rfl
theorem ws_at0 {cA : Nat → ClassId} {ad : Nat → Nat} {scr : Nat → Int32} {L k : Nat} {q : Nat × va_E} (h : (wsOf cA ad (D0 scr L))[k]? = some q) : k < 173 ∧ q = (ad (nm k), cellOf cA ad D00 (nm k)) := by
  obtain ⟨h1, h2⟩ := ws_at h
  rw [D0_nxt] at h1
  exact ⟨h1, h2.trans (by rw [cell_row (D0_ne (nm_scr h1))])⟩
theorem ws_start {G : Gp} {ad : Nat → Nat} {H : Heap} {A : Nat → Prop} {scr : Nat → Int32} {L : Nat} (hP : va_P G.1 vwCl (frag G.2.1 ad L6) H) (hD : va_D A (frag G.2.1 ad L6)) : va_P G.1 vwCl (wsOf G.2.1 ad (D0 scr L)) H ∧ va_D A (wsOf G.2.1 ad (D0 scr L)) := by
  refine ⟨fun k q hk => ?_, fun i j p q hi hj h => ?_, fun k q hk => ?_⟩
  · obtain ⟨h1, rfl⟩ := ws_at0 hk
    exact hP _ _ (frag_at h1)
  · obtain ⟨h1, rfl⟩ := ws_at0 hi
    obtain ⟨h2, rfl⟩ := ws_at0 hj
    have e := hD.1 _ _ _ _ (frag_at h1) (frag_at h2) h
    have e1 := L6_at h1
    rw [e, L6_at h2] at e1
    have e2 := (Option.some.inj e1).symm
    rw [← ps_nm (D := D00) (i := i), ← ps_nm (D := D00) (i := j), e2]
  · obtain ⟨h1, rfl⟩ := ws_at0 hk
    exact hD.2 _ _ (frag_at h1)
theorem x6_cg {cA : Nat → ClassId} {f g : Nat → Nat} (h : ∀ k, k < 171 ∨ k = 181 ∨ k = 182 → f k = g k) : x6W cA f = x6W cA g := by
  unfold x6W
  rw [h 0 (by decide), h 1 (by decide), h 15 (by decide), h 155 (by decide), h 157 (by decide), h 160 (by decide), h 165 (by decide), h 169 (by decide), h 170 (by decide)]
  rw [staW_cg (f := fun j => f (1 + j)) (g := fun j => g (1 + j)) (fun j hj => h _ (by omega)), staW_cg (f := fun j => f (15 + j)) (g := fun j => g (15 + j)) (fun j hj => h _ (by omega)),
    hisW_cg (f := fun j => f (if j < 2 then 155 + j else 27 + j)) (g := fun j => g (if j < 2 then 155 + j else 27 + j)) (fun j hj => h _ (by split <;> omega)), reaW_cg (f := fun j => f (157 + j)) (g := fun j => g (157 + j)) (fun j hj => h _ (by omega)),
    ordW_cg (f := fun j => f (160 + j)) (g := fun j => g (160 + j)) (fun j hj => h _ (by omega)), shaW_cg (f := fun j => f (165 + j)) (g := fun j => g (165 + j)) (fun j hj => h _ (by omega)),
    sbW_cg (f := fun j => f (if j = 0 then 169 else 181)) (g := fun j => g (if j = 0 then 169 else 181)) (fun j hj => h _ (by split <;> omega)), sbW_cg (f := fun j => f (if j = 0 then 170 else 182)) (g := fun j => g (if j = 0 then 170 else 182)) (fun j hj => h _ (by split <;> omega))]
def vF : Nat → Nat → Int32
  | 0 => i0
  | n + 1 => upd (upd (vF n) (6 + 4 * n + 0) (nI 1)) (6 + 4 * n + 1) (nI ((n + 1) % 6))
theorem D0_ho : ∀ h, h < 6 → vF 6 (6 + 4 * h + 0) = nI 1 ∧ vF 6 (6 + 4 * h + 1) = nI ((h + 1) % 6) ∧ vF 6 (6 + 4 * h + 2) = nI 0 ∧ vF 6 (6 + 4 * h + 3) = nI 0 := by decide +kernel
theorem D0_IV : IV 0 (vF 6) 0 := by
  refine ⟨by decide +kernel, by decide, fun s hs => absurd hs (Nat.not_lt_zero _), fun h hh => ?_, ⟨0, by decide, by unfold vOpen; decide +kernel⟩, fun h hh => by show 0 ≤ 2; decide, by decide +kernel, by decide +kernel⟩
  obtain ⟨a, b, c, d⟩ := D0_ho h hh
  exact ⟨1, (h + 1) % 6, 0, 0, a, b, c, d, by decide, by omega, by decide, by decide⟩
theorem D0_Rel : Rel D00 0 (vF 6) := by
  refine ⟨⟨by decide +kernel, by decide +kernel, by decide +kernel, by decide +kernel, by decide +kernel, by decide +kernel, by decide +kernel⟩, fun s hs => absurd hs (Nat.not_lt_zero _), ?_⟩
  decide +kernel
theorem D00_sb (o : Nat) (ho : o = 169 ∨ o = 170) : SbR D00 o [] := by
  rcases ho with rfl | rfl
  · exact ⟨by decide +kernel, by decide +kernel, Nat.zero_le _, by decide +kernel, fun i hi => absurd hi (Nat.not_lt_zero _), fun c hc => (by cases hc), by decide +kernel⟩
  · exact ⟨by decide +kernel, by decide +kernel, Nat.zero_le _, by decide +kernel, fun i hi => absurd hi (Nat.not_lt_zero _), fun c hc => (by cases hc), by decide +kernel⟩
theorem pot_start {scr : Nat → Int32} {L : Nat} : pot (D0 scr L) = 32 := by
  unfold pot
  rw [D0_usd]
  unfold cap
  rw [D0_ne (by decide), D0_ne (by decide)]
  decide +kernel
