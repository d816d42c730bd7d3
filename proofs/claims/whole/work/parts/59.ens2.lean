/-! the capacity of a text, the cells in order again -/
def noRf (o : Nat) : Bool := (List.range NC).all fun k => decide (k = o) || (sh k).2.2.all fun x => decide (x ≠ some (o + 12))
theorem noRf_69 : noRf 169 = true := by decide +kernel
theorem noRf_70 : noRf 170 = true := by decide +kernel
theorem noRf_at {o k j q : Nat} (ho : o = 169 ∨ o = 170) (hk : k < NC) (hne : k ≠ o) (h : (sh k).2.2[j]? = some (some q)) : q ≠ o + 12 := by
  have h1 : noRf o = true := by rcases ho with rfl | rfl; exact noRf_69; exact noRf_70
  have h2 := List.all_eq_true.mp h1 k (List.mem_range.mpr hk)
  rw [Bool.or_eq_true] at h2
  rcases h2 with h2 | h2
  · exact absurd (of_decide_eq_true h2) hne
  · have h3 := List.all_eq_true.mp h2 _ (List.mem_of_getElem? h)
    intro e
    subst e
    exact absurd rfl (of_decide_eq_true h3)
def adX (ad : Nat → Nat) (b h : Nat) : Nat → Nat := fun k => if k = b then h else ad k
theorem adX_ne {ad : Nat → Nat} {b h k : Nat} (e : k ≠ b) : adX ad b h k = ad k := if_neg e
theorem adX_eq {ad : Nat → Nat} {b h : Nat} : adX ad b h b = h := if_pos rfl
theorem growD_ne {D : Mm} {b n c : Nat} (h : c ≠ b) : growD D b n c = D c := by
  unfold growD
  by_cases g : n ≤ cap D b
  · rw [if_pos g]
  · rw [if_neg g]; funext j; rw [if_neg h]
theorem fld_other {ad : Nat → Nat} {D : Mm} {o n h k : Nat} (ho : o = 169 ∨ o = 170) (hk : k < NC) (h1 : k ≠ o) (h2 : k ≠ o + 12) : fld (adX ad (o + 12) h) (growD D (o + 12) n) k (sh k).2.2 = fld ad D k (sh k).2.2 := by
  funext j
  unfold fld
  rw [growD_ne h2]
  cases hr : (sh k).2.2[j]? with
  | none => rfl
  | some z =>
    cases z with
    | none => rfl
    | some q => show Value.ref _ = Value.ref _; rw [adX_ne (noRf_at ho hk h1 hr)]
theorem cell_other {cA : Nat → ClassId} {ad : Nat → Nat} {D : Mm} {o n h k : Nat} (ho : o = 169 ∨ o = 170) (hk : k < NC) (h1 : k ≠ o) (h2 : k ≠ o + 12) : cellOf cA (adX ad (o + 12) h) (growD D (o + 12) n) k = cellOf cA ad D k := by
  have e1 := fld_other (ad := ad) (D := D) (n := n) (h := h) ho hk h1 h2
  unfold cellOf cap
  rw [growD_ne h2, e1]
  split
  · rfl
  · split
    · rfl
    · split
      · rfl
      · split
        · rfl
        · refine congrArg (fun (g : Nat → Option Nat) => (Sum.inl (cA 3, (sh k).2.1, Sum.inr (Sum.inr (Sum.inr (Sum.inr g)))) : va_E)) (funext fun j => ?_)
          cases hr : (sh k).2.2[j]? with
          | none => rfl
          | some z =>
            cases z with
            | none => rfl
            | some q => show some _ = some _; rw [adX_ne (noRf_at ho hk h1 hr)]
theorem cell_b {cA : Nat → ClassId} {ad2 : Nat → Nat} {D : Mm} {b n : Nat} (h22 : (sh b).1 = 22) (hn : ¬ n ≤ cap D b) (hb : sb_cap n (cap D b) < 2147483648) : cellOf cA ad2 (growD D b n) b = .inl (cA 2, sb_cap n (cap D b), .inl (growD D b n b)) := by
  rw [cell_byte h22]
  have e : cap (growD D b n) b = sb_cap n (cap D b) := by
    unfold cap growD
    rw [if_neg hn]
    show (if b = b then (if LEN = LEN then Int32.ofNat (sb_cap n (cap D b)) else _) else _ : Int32).toNatClampNeg = _
    rw [if_pos rfl, if_pos rfl]
    exact nI_clamp hb
  rw [e]
theorem grow_at {D : Mm} {b n j : Nat} (hn : ¬ n ≤ cap D b) (hj : j ≠ LEN) : growD D b n b j = va_cpy (D b) (fun _ => 0) 0 0 (cap D b) j := by
  unfold growD va_cpy
  rw [if_neg hn]
  show (if b = b then (if j = LEN then _ else if j < cap D b then D b j else 0) else _) = _
  rw [if_pos rfl, if_neg hj]
  by_cases h : j < cap D b
  · rw [if_pos h, if_pos (by omega), Nat.zero_add, Nat.sub_zero]
  · rw [if_neg h, if_neg (by omega)]
theorem arrV_cg {cA : ClassId} {n : Nat} {f g : Nat → Value} (h : ∀ j, j < n → f j = g j) : arrV cA n f = arrV cA n g := by
  have e : (List.range n).map f = (List.range n).map g := List.map_congr_left (fun j hj => h j (List.mem_range.mp hj))
  unfold arrV
  first
    | (simp only [e]; done)
    | (congr 1; apply Array.ext; simp; intro i h1 h2; simp at h1; simp [h i h1])
