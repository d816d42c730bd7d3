/-! the capacity of a text, the cells in order again -/
def noRf (o : Nat) : Bool := (List.range NC).all fun k => decide (k = o) || (sh k).2.2.all fun x => decide (x ≠ some (o + 12))
theorem noRf_69 : noRf 169 = true := by decide +kernel
theorem noRf_70 : noRf 170 = true := by decide +kernel
theorem noRf_at {o k j q : Nat} (ho : o = 169 ∨ o = 170) (hk : k < NC) (hne : k ≠ o) (h : (sh k).2.2[j]? = some (some q)) : q ≠ o + 12 := by
  have h1 : noRf o = true := by rcases ho with rfl | rfl; exact noRf_69; exact noRf_70
  have h2 := List.all_eq_true.mp h1 k (List.mem_range.mpr hk)
  rw [Bool.or_eq_true] at h2
  rcases h2 with h2 | h2
  · exact absurd (of_decide_eq_true h2) hne
  · have h3 := List.all_eq_true.mp h2 _ (List.mem_of_getElem? h)
    intro e
    subst e
    exact absurd rfl (of_decide_eq_true h3)
def adX (ad : Nat → Nat) (b h : Nat) : Nat → Nat := fun k => if k = b then h else ad k
theorem adX_ne {ad : Nat → Nat} {b h k : Nat} (e : k ≠ b) : adX ad b h k = ad k := if_neg e
theorem adX_eq {ad : Nat → Nat} {b h : Nat} : adX ad b h b = h := if_pos rfl
theorem growD_ne {D : Mm} {b n c : Nat} (h : c ≠ b) : growD D b n c = D c := grow_ne h
theorem cell_other {cA : Nat → ClassId} {ad : Nat → Nat} {D : Mm} {o n h k : Nat} (ho : o = 169 ∨ o = 170) (hk : okc D k) (h1 : k ≠ o) (h2 : k ≠ o + 12) : cellOf cA (adX ad (o + 12) h) (growD D (o + 12) n) k = cellOf cA ad D k := by
  rw [cell_row (growD_ne h2)]
  by_cases hd : DB ≤ k
  · have e : ∀ j, dfl (adX ad (o + 12) h) D k (kd D k) j = dfl ad D k (kd D k) j := fun j => by
      unfold dfl
      by_cases hr : rfB (kd D k) j = true
      · rw [if_pos hr, if_pos hr]
        by_cases hq : DB ≤ (D k j).toNatClampNeg
        · rw [if_pos hq, if_pos hq, adX_ne (by unfold DB at hq; omega)]
        · rw [if_neg hq, if_neg hq]
      · rw [if_neg hr, if_neg hr]
    unfold cellOf
    rw [if_pos hd, if_pos hd, funext e]
  · have hk2 : k < NC := by
      rcases okc_or hk with g | g | g | g
      · unfold NC; omega
      · unfold NC; omega
      · unfold NC; omega
      · unfold DB at hd; omega
    have e1 : fld (adX ad (o + 12) h) D k (sh k).2.2 = fld ad D k (sh k).2.2 := by
      funext j
      unfold fld
      cases hr : (sh k).2.2[j]? with
      | none => rfl
      | some z =>
        cases z with
        | none => rfl
        | some q => show Value.ref _ = Value.ref _; rw [adX_ne (noRf_at ho hk2 h1 hr)]
    unfold cellOf
    rw [if_neg hd, if_neg hd, e1]
    split
    · rfl
    · split
      · rfl
      · split
        · rfl
        · split
          · rfl
          · refine congrArg (fun (g : Nat → Option Nat) => (Sum.inl (cA 3, (sh k).2.1, Sum.inr (Sum.inr (Sum.inr (Sum.inr g)))) : va_E)) (funext fun j => ?_)
            cases hr : (sh k).2.2[j]? with
            | none => rfl
            | some z =>
              cases z with
              | none => rfl
              | some q => show some _ = some _; rw [adX_ne (noRf_at ho hk2 h1 hr)]
theorem cell_b {cA : Nat → ClassId} {ad2 : Nat → Nat} {D : Mm} {b n : Nat} (h22 : (sh b).1 = 22) (hn : ¬ n ≤ cap D b) (hb : sb_cap n (cap D b) < 2147483648) : cellOf cA ad2 (growD D b n) b = .inl (cA 2, sb_cap n (cap D b), .inl (growD D b n b)) := by
  rw [cell_byte h22]
  have e : cap (growD D b n) b = sb_cap n (cap D b) := by
    unfold cap growD
    rw [if_neg hn]
    show (if b = b then (if LEN = LEN then Int32.ofNat (sb_cap n (cap D b)) else _) else _ : Int32).toNatClampNeg = _
    rw [if_pos rfl, if_pos rfl]
    exact nI_clamp hb
  rw [e]
theorem grow_at {D : Mm} {b n j : Nat} (hn : ¬ n ≤ cap D b) (hj : j ≠ LEN) : growD D b n b j = va_cpy (D b) (fun _ => 0) 0 0 (cap D b) j := by
  unfold growD va_cpy
  rw [if_neg hn]
  show (if b = b then (if j = LEN then _ else if j < cap D b then D b j else 0) else _) = _
  rw [if_pos rfl, if_neg hj]
  by_cases h : j < cap D b
  · rw [if_pos h, if_pos (by omega), Nat.zero_add, Nat.sub_zero]
  · rw [if_neg h, if_neg (by omega)]
theorem arrV_cg {cA : ClassId} {n : Nat} {f g : Nat → Value} (h : ∀ j, j < n → f j = g j) : arrV cA n f = arrV cA n g := by
  have e : (List.range n).map f = (List.range n).map g := List.map_congr_left (fun j hj => h j (List.mem_range.mp hj))
  unfold arrV
  first
    | (simp only [e]; done)
    | (congr 1; apply Array.ext; simp; intro i h1 h2; simp at h1; simp [h i h1])
def piX (D : Mm) (b k : Nat) : Nat := if k = b then 173 + nxt D else ps k
theorem fl_69 {ad : Nat → Nat} {D : Mm} {n h : Nat} : (List.range (sh 169).2.1).map (fld (adX ad 181 h) (growD D 181 n) 169 (sh 169).2.2) = ((List.range (sh 169).2.1).map (fld ad D 169 (sh 169).2.2)).set 0 (.ref h) := by
  have e : growD D 181 n 169 = D 169 := growD_ne (by decide)
  have f0 : fld (adX ad 181 h) (growD D 181 n) 169 (sh 169).2.2 0 = .ref h := by show Value.ref (adX ad 181 h 181) = _; rw [adX_eq]
  have f1 : fld (adX ad 181 h) (growD D 181 n) 169 (sh 169).2.2 1 = fld ad D 169 (sh 169).2.2 1 := by show Value.int (growD D 181 n 169 1) = Value.int (D 169 1); rw [e]
  have f2 : fld (adX ad 181 h) (growD D 181 n) 169 (sh 169).2.2 2 = fld ad D 169 (sh 169).2.2 2 := by show Value.int (growD D 181 n 169 2) = Value.int (D 169 2); rw [e]
  have f3 : fld (adX ad 181 h) (growD D 181 n) 169 (sh 169).2.2 3 = fld ad D 169 (sh 169).2.2 3 := by show Value.int (growD D 181 n 169 3) = Value.int (D 169 3); rw [e]
  show [_, _, _, _] = [_, _, _, _]
  rw [f0, f1, f2, f3]
theorem fl_70 {ad : Nat → Nat} {D : Mm} {n h : Nat} : (List.range (sh 170).2.1).map (fld (adX ad 182 h) (growD D 182 n) 170 (sh 170).2.2) = ((List.range (sh 170).2.1).map (fld ad D 170 (sh 170).2.2)).set 0 (.ref h) := by
  have e : growD D 182 n 170 = D 170 := growD_ne (by decide)
  have f0 : fld (adX ad 182 h) (growD D 182 n) 170 (sh 170).2.2 0 = .ref h := by show Value.ref (adX ad 182 h 182) = _; rw [adX_eq]
  have f1 : fld (adX ad 182 h) (growD D 182 n) 170 (sh 170).2.2 1 = fld ad D 170 (sh 170).2.2 1 := by show Value.int (growD D 182 n 170 1) = Value.int (D 170 1); rw [e]
  have f2 : fld (adX ad 182 h) (growD D 182 n) 170 (sh 170).2.2 2 = fld ad D 170 (sh 170).2.2 2 := by show Value.int (growD D 182 n 170 2) = Value.int (D 170 2); rw [e]
  have f3 : fld (adX ad 182 h) (growD D 182 n) 170 (sh 170).2.2 3 = fld ad D 170 (sh 170).2.2 3 := by show Value.int (growD D 182 n 170 3) = Value.int (D 170 3); rw [e]
  show [_, _, _, _] = [_, _, _, _]
  rw [f0, f1, f2, f3]
def wsY (G : Gp) (ad : Nat → Nat) (D : Mm) (o m q h : Nat) : va_W := (wsX G ad D (o + 12) m q h).set (ps o) (ad o, .inr ((sh o).1, ((List.range (sh o).2.1).map (fld ad D o (sh o).2.2)).set 0 (.ref h)))
theorem X_at {G : Gp} {ad : Nat → Nat} {D : Mm} {o n h k : Nat} (ho : o = 169 ∨ o = 170) (hn : ¬ n ≤ cap D (o + 12)) (hb : sb_cap n (cap D (o + 12)) ≤ 100000) (hk : okc D k) :
    ∃ e, (wsY G ad D o (cap D (o + 12)) (sb_cap n (cap D (o + 12))) h)[piX D (o + 12) k]? = some (adX ad (o + 12) h k, e) ∧ ∀ H, va_at G.1 vwCl (adX ad (o + 12) h k, e) H → va_at G.1 vwCl (adX ad (o + 12) h k, cellOf G.2.1 (adX ad (o + 12) h) (growD D (o + 12) n) k) H := by
  have hlen := ws_len (cA := G.2.1) (ad := ad) (D := D)
  have hko : ps o < 173 := by rcases ho with rfl | rfl <;> decide
  have ho1 : okc D o := Or.inl (sh_ok (by omega))
  have ho2 : okc D (o + 12) := Or.inl (sh_ok (by omega))
  have hpk := ps_lt hk
  have hinj : ∀ {a b : Nat}, okc D a → okc D b → ps a = ps b → a = b := fun {a b} ha hb e => by rw [← nm_ps ha, e, nm_ps hb]
  have hxl : (wsX G ad D (o + 12) (cap D (o + 12)) (sb_cap n (cap D (o + 12))) h).length = 173 + nxt D + 1 := by unfold wsX; rw [List.length_append, hlen]; rfl
  by_cases h1 : k = o
  · refine ⟨.inr ((sh o).1, ((List.range (sh o).2.1).map (fld ad D o (sh o).2.2)).set 0 (.ref h)), ?_, ?_⟩
    · unfold piX wsY
      rw [if_neg (by omega), h1, adX_ne (by omega), List.getElem?_set_self (by omega)]
    · intro H z
      have hsh : (sh o).1 < 20 := by rcases ho with rfl | rfl <;> decide +kernel
      have e : cellOf G.2.1 (adX ad (o + 12) h) (growD D (o + 12) n) k = .inr ((sh o).1, ((List.range (sh o).2.1).map (fld ad D o (sh o).2.2)).set 0 (.ref h)) := by
        rw [h1, cell_obj hsh]
        rcases ho with rfl | rfl
        · rw [fl_69]
        · rw [fl_70]
      rw [e]
      exact z
  · by_cases h2 : k = o + 12
    · refine ⟨.inl (G.2.1 2, sb_cap n (cap D (o + 12)), .inl (va_cpy (D (o + 12)) (fun _ => 0) 0 0 (cap D (o + 12)))), ?_, ?_⟩
      · unfold piX wsY
        rw [if_pos h2, h2, adX_eq, List.getElem?_set_ne (by omega)]
        unfold wsX
        rw [List.getElem?_append_right (by omega), hlen, Nat.sub_self]
        rfl
      · intro H z
        have h22 : (sh (o + 12)).1 = 22 := by rcases ho with rfl | rfl <;> decide +kernel
        rw [h2, cell_b h22 hn (by omega)]
        rw [h2] at z
        have z2 : H[adX ad (o + 12) h (o + 12)]? = some (arrV (G.2.1 2) (sb_cap n (cap D (o + 12))) (fun j => .int (va_cpy (D (o + 12)) (fun _ => 0) 0 0 (cap D (o + 12)) j))) := z
        show H[adX ad (o + 12) h (o + 12)]? = some (arrV (G.2.1 2) (sb_cap n (cap D (o + 12))) (fun j => .int (growD D (o + 12) n (o + 12) j)))
        rw [z2]
        congr 1
        refine arrV_cg (fun j hj => ?_)
        rw [grow_at hn (by unfold LEN; omega)]
    · refine ⟨cellOf G.2.1 ad D k, ?_, ?_⟩
      · unfold piX wsY
        rw [if_neg h2, adX_ne h2, List.getElem?_set_ne (fun e9 => h1 (hinj ho1 hk e9).symm)]
        unfold wsX
        rw [List.getElem?_append_left (by omega), ws_get hk]
      · intro H z
        rw [cell_other ho hk h1 h2]
        exact z
theorem grow_nxt {D : Mm} {b n : Nat} (h : b < 4000) : nxt (growD D b n) = nxt D := by unfold nxt; rw [growD_ne (by omega)]
theorem Y_P {G : Gp} {ad : Nat → Nat} {D : Mm} {o n h : Nat} (ho : o = 169 ∨ o = 170) (hn : ¬ n ≤ cap D (o + 12)) (hb : sb_cap n (cap D (o + 12)) ≤ 100000) {H : Heap} (hP : va_P G.1 vwCl (wsY G ad D o (cap D (o + 12)) (sb_cap n (cap D (o + 12))) h) H) : va_P G.1 vwCl (wsOf G.2.1 (adX ad (o + 12) h) (growD D (o + 12) n)) H := by
  intro k x hx
  obtain ⟨hk, rfl⟩ := ws_at hx
  rw [grow_nxt (by omega)] at hk
  obtain ⟨e, e1, e2⟩ := X_at (G := G) (ad := ad) (h := h) ho hn hb (nm_ok hk)
  exact e2 H (hP _ _ e1)
theorem Y_D {G : Gp} {ad : Nat → Nat} {D : Mm} {o n h : Nat} {A : Nat → Prop} (ho : o = 169 ∨ o = 170) (hn : ¬ n ≤ cap D (o + 12)) (hb : sb_cap n (cap D (o + 12)) ≤ 100000) (hD : va_D A (wsY G ad D o (cap D (o + 12)) (sb_cap n (cap D (o + 12))) h)) : va_D A (wsOf G.2.1 (adX ad (o + 12) h) (growD D (o + 12) n)) := by
  refine ⟨fun i j p q hp hq e => ?_, fun k x hx => ?_⟩
  · obtain ⟨hi, rfl⟩ := ws_at hp
    obtain ⟨hj, rfl⟩ := ws_at hq
    rw [grow_nxt (by omega)] at hi hj
    obtain ⟨a, a1, _⟩ := X_at (G := G) (ad := ad) (h := h) ho hn hb (nm_ok hi)
    obtain ⟨b, b1, _⟩ := X_at (G := G) (ad := ad) (h := h) ho hn hb (nm_ok hj)
    have h9 := hD.1 _ _ _ _ a1 b1 e
    unfold piX at h9
    rw [ps_nm (D := D), ps_nm (D := D)] at h9
    by_cases c1 : nm i = o + 12
    · by_cases c2 : nm j = o + 12
      · rw [← ps_nm (D := D) (i := i), c1, ← c2, ps_nm (D := D)]
      · rw [if_pos c1, if_neg c2] at h9; omega
    · by_cases c2 : nm j = o + 12
      · rw [if_neg c1, if_pos c2] at h9; omega
      · rw [if_neg c1, if_neg c2] at h9; exact h9
  · obtain ⟨hk, rfl⟩ := ws_at hx
    rw [grow_nxt (by omega)] at hk
    obtain ⟨a, a1, _⟩ := X_at (G := G) (ad := ad) (h := h) ho hn hb (nm_ok hk)
    have g := hD.2 _ _ a1
    exact g
