/-! what else holds: a sharing -/
/-- the remainders' units: one each to the greatest, of like ones to the first -/
theorem ham_char : ∀ L (A B : Nat → Int32), L ≤ posF B → ∃ g : Nat → Nat, (∀ h, h < 6 → g h ≤ 1 ∧ (vHam L A B).1 h = A h + nI (g h)) ∧ (∀ h, h < 6 → g h = 1 → 0 < B h) ∧ (∀ h k, h < 6 → k < 6 → g h = 0 → g k = 1 → B h < B k ∨ (B h = B k ∧ k < h)) ∧ sN6 6 g = L
  | 0, A, B, _ => ⟨fun _ => 0, fun h _ => ⟨Nat.zero_le _, (Int32.add_zero _).symm⟩, fun h _ (e : (0 : Nat) = 1) => absurd e (by decide), fun h k _ _ _ (e : (0 : Nat) = 1) => absurd e (by decide), rfl⟩
  | L + 1, A, B, hL => by
    obtain ⟨m, hm⟩ : ∃ m, m = amx B 5 := ⟨_, rfl⟩
    have h6 : m < 6 := by rw [hm]; have := amx_le (B := B) 5; omega
    obtain ⟨mx1, mx2⟩ := amx_max (B := B) 5
    rw [← hm] at mx1 mx2
    have hp : 0 < B m := by
      obtain ⟨j, hj, hj2⟩ := posF_ex (B := B) (by omega)
      exact ilt_le hj2 (mx1 j (by omega))
    have hd := posF_dec (x := -1) h6 hp (by decide)
    obtain ⟨g, g1, g2, g3, g4⟩ := ham_char L (vup A m (A m + nI 1)) (vup B m (-1)) (by omega)
    have gm : g m = 0 := by
      rcases (by have := (g1 m h6).1; omega : g m = 0 ∨ g m = 1) with e | e
      · exact e
      · have q := g2 m h6 e
        rw [updE] at q
        exact absurd q (by decide)
    have ev : vHam (L + 1) A B = vHam L (vup A m (A m + nI 1)) (vup B m (-1)) := by
      rw [hm]; rfl
    refine ⟨fun h => if h = m then g h + 1 else g h, fun h hh => ?_, fun h hh e => ?_, fun h k hh hk e1 e2 => ?_, ?_⟩
    · rw [ev]
      show (if h = m then g h + 1 else g h) ≤ 1 ∧ _ = A h + nI (if h = m then g h + 1 else g h)
      by_cases z : h = m
      · rw [if_pos z, (g1 h hh).2, z, updE, gm]
        exact ⟨Nat.le_refl _, by rw [show nI 0 = 0 from nI_0, Int32.add_zero]⟩
      · rw [if_neg z, (g1 h hh).2, updJ z]
        exact ⟨(g1 h hh).1, rfl⟩
    · by_cases z : h = m
      · rw [z]; exact hp
      · have e : (if h = m then g h + 1 else g h) = 1 := e
        rw [if_neg z] at e
        have := g2 h hh e
        rw [updJ z] at this
        exact this
    · have e1 : (if h = m then g h + 1 else g h) = 0 := e1
      have e2 : (if k = m then g k + 1 else g k) = 1 := e2
      have zh : h ≠ m := fun z => by rw [if_pos z] at e1; omega
      rw [if_neg zh] at e1
      by_cases z : k = m
      · rw [z]
        rcases Nat.lt_or_ge h m with q | q
        · exact Or.inl (mx2 h q)
        · have hle := mx1 h (by omega)
          by_cases eq : B h = B m
          · exact Or.inr ⟨eq, by omega⟩
          · left
            rw [Int32.lt_iff_toInt_lt]
            rw [Int32.le_iff_toInt_le] at hle
            have : (B h).toInt ≠ (B m).toInt := fun e => eq (Int32.toInt_inj.mp e)
            omega
      · rw [if_neg z] at e2
        have := g3 h k hh hk e1 e2
        rw [updJ zh, updJ z] at this
        exact this
    · have q := sN6_n (a := fun h => if h = m then g h + 1 else g h) (c := g) (j := m) (fun i hi => if_neg hi) 6 h6
      have e : (if m = m then g m + 1 else g m) = g m + 1 := if_pos rfl
      have q : sN6 6 (fun h => if h = m then g h + 1 else g h) + g m = sN6 6 g + (if m = m then g m + 1 else g m) := q
      rw [e] at q
      omega
/-- a sharing's parts, one by one -/
theorem parts_char {n P : Nat} {V : Nat → Int32} {c : Nat → Nat} (H : shD n V P c) (hC : 0 < sN6 6 c) : ∃ g : Nat → Nat, (∀ h, h < 6 → g h ≤ 1 ∧ vParts n V h = nI (P * c h / sN6 6 c + g h)) ∧ (∀ h, h < 6 → g h = 1 → 0 < P * c h % sN6 6 c) ∧ (∀ h k, h < 6 → k < 6 → g h = 0 → g k = 1 → P * c h % sN6 6 c < P * c k % sN6 6 c ∨ (P * c h % sN6 6 c = P * c k % sN6 6 c ∧ k < h)) := by
  obtain ⟨g, g1, g2, g3, g4⟩ := ham_char _ (vPt n V) (vRs n V) (H.pos hC).1
  have ml : ∀ h, h < 6 → P * c h % sN6 6 c < 2147483648 := fun h hh => by
    have := Nat.mod_lt (P * c h) hC
    have := H.2.2.2.1
    omega
  refine ⟨g, fun h hh => ⟨(g1 h hh).1, ?_⟩, fun h hh e => ?_, fun h k hh hk e1 e2 => ?_⟩
  · rw [H.parts hC, (g1 h hh).2, H.pt hh, nI_add]
  · have := g2 h hh e
    rw [H.rs hh] at this
    exact (npos (ml h hh)).mp this
  · have := g3 h k hh hk e1 e2
    rw [H.rs hh, H.rs hk] at this
    rcases this with q | ⟨q1, q2⟩
    · exact Or.inl ((nlt (ml h hh) (ml k hk)).mp q)
    · exact Or.inr ⟨(nI_inj (ml k hk) (ml h hh) q1.symm), q2⟩
theorem part_shut {n P h : Nat} {V : Nat → Int32} {c : Nat → Nat} (H : shD n V P c) (hC : 0 < sN6 6 c) (hh : h < 6) (ho : ¬ vOpen V h) : c h = 0 ∧ vParts n V h = nI 0 := by
  have e : mClaim n V h = nI 0 := by unfold mClaim; exact ifp_f ho
  have hc : c h < 2147483648 := Nat.lt_of_le_of_lt (c_le hh) H.2.2.2.1
  have e2 : c h = 0 := (nI_inj hc (by omega) ((H.2.1 h hh).symm.trans e)).symm
  obtain ⟨g, g1, g2, -⟩ := parts_char H hC
  have gz : g h = 0 := by
    rcases (by have := (g1 h hh).1; omega : g h = 0 ∨ g h = 1) with q | q
    · exact q
    · have := g2 h hh q
      rw [e2, Nat.mul_zero, Nat.zero_mod] at this
      omega
  refine ⟨e2, ?_⟩
  rw [(g1 h hh).2, gz, e2, Nat.mul_zero, Nat.zero_div]
theorem gx_D {n B : Nat} {V : Nat → Int32} (H : IV n V B) (hB : B ≤ 20000) (X : XG n V B) : gx (vShares n V) (B + 30) := by
  refine gx_if (fun _ => gx_l) (fun _ => gx_if (fun _ => gx_l) (fun hA => ?_))
  obtain ⟨c, hD⟩ := H.shD hB
  have hC := hD.zero hA
  have el : ∀ j, (∀ h, h < 6 → j ≠ 6 + 4 * h + 2 ∧ j ≠ 6 + 4 * h + 3) → itr (vSh (vParts n V)) 6 V j = V j := fun j hj => Sh_lo 6 hj
  have oc : ∀ j, j < 6 → vOpen V j → vOpen (itr (vSh (vParts n V)) 6 V) j := fun j hj h => (el _ (fun h hh => ⟨by omega, by omega⟩)).trans h
  refine gx_s ((el 0 (fun h hh => ⟨by omega, by omega⟩)).trans H.1) H.2.1 ⟨⟨fun s hs => (X.1.1 s hs).cg (fun f hf => el _ (fun h hh => ⟨by omega, by omega⟩)) oc, fun h hh => ?_, fun h hh => ?_⟩, (X.2.mono (by omega)).cg (fun j a b => el _ (fun h hh => ⟨by omega, by omega⟩)) (fun s hs => el _ (fun h hh => ⟨by omega, by omega⟩))⟩
  · by_cases z : vOpen V h
    · exact Or.inl (oc h hh z)
    · right
      rcases X.1.2.1 h hh with q | ⟨q1, q2⟩
      · exact absurd q z
      · refine ⟨?_, Sh_p 6 hh⟩
        rw [Sh_s 6 hh, q1, (part_shut hD hC hh z).2]
        decide
  · rw [sN6_same loc_tr (V := V) (fun i hi f hf => el _ (fun h hh => ⟨by omega, by omega⟩))]; exact X.1.2.2 h hh
