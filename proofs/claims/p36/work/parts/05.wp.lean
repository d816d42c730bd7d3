/-! weakest preconditions over the abstract machine -/
theorem sI_spec {st : List Value} {f : Int32 → List Value → Prop} (h : sI st f) : ∃ a r, st = .int a :: r ∧ f a r := by
  unfold sI at h
  split at h
  · exact ⟨_, _, rfl, h⟩
  · exact h.elim
theorem sII_spec {st : List Value} {f : Int32 → Int32 → List Value → Prop} (h : sII st f) : ∃ a b r, st = .int b :: .int a :: r ∧ f a b r := by
  unfold sII at h
  split at h
  · exact ⟨_, _, _, rfl, h⟩
  · exact h.elim
theorem sA_spec {st : List Value} {f : Nat → List Value → Prop} (h : sA st f) : ∃ (a : Nat) (r : List Value), st = .ref a :: r ∧ f a r := by
  unfold sA at h
  split at h
  · exact ⟨_, _, rfl, h⟩
  · exact h.elim
theorem sIA_spec {st : List Value} {f : Nat → Int32 → List Value → Prop} (h : sIA st f) : ∃ (a : Nat) (b : Int32) (r : List Value), st = .int b :: .ref a :: r ∧ f a b r := by
  unfold sIA at h
  split at h
  · exact ⟨_, _, _, rfl, h⟩
  · exact h.elim
theorem sIIA_spec {st : List Value} {f : Nat → Int32 → Int32 → List Value → Prop} (h : sIIA st f) : ∃ (a : Nat) (b x : Int32) (r : List Value), st = .int x :: .int b :: .ref a :: r ∧ f a b x r := by
  unfold sIIA at h
  split at h
  · exact ⟨_, _, _, _, rfl, h⟩
  · exact h.elim
theorem lI_spec {ls : List Value} {i : Nat} {f : Int32 → Prop} (h : lI ls i f) : ∃ v, ls[i]? = some (.int v) ∧ f v := by
  unfold lI at h
  split at h
  · exact ⟨_, by assumption, h⟩
  · exact h.elim
theorem lA_spec {ls : List Value} {i : Nat} {f : Nat → Prop} (h : lA ls i f) : ∃ v : Nat, ls[i]? = some (.ref v) ∧ f v := by
  unfold lA at h
  split at h
  · exact ⟨_, by assumption, h⟩
  · exact h.elim
theorem lI_of {ls : List Value} {i : Nat} {f : Int32 → Prop} {v : Int32} (h : ls[i]? = some (.int v)) (hf : f v) : lI ls i f := by
  unfold lI; rw [h]; exact hf
theorem lA_of {ls : List Value} {i : Nat} {f : Nat → Prop} {v : Nat} (h : ls[i]? = some (.ref v)) (hf : f v) : lA ls i f := by
  unfold lA; rw [h]; exact hf
theorem cap_mup {D : Mm} {o c q : Nat} {v : Int32} (h : o ≠ q ∨ c ≠ LEN) : cap (mup D o c v) q = cap D q := by
  unfold cap mup
  rcases h with h | h
  · rw [if_neg (fun e => h e.symm)]
  · by_cases e : q = o
    · rw [if_pos e, if_neg (fun e => h e.symm)]
    · rw [if_neg e]
theorem sh_big {o : Nat} (h : 183 ≤ o) : (sh o).1 = 99 := by
  have e : shL.length = 183 := by decide +kernel
  unfold sh
  rw [List.getD_eq_getElem?_getD, List.getElem?_eq_none (by rw [e]; exact h)]
  rfl
theorem sh_sm {o : Nat} (h : (sh o).1 ≠ 99) : o < 183 := by
  rcases Nat.lt_or_ge o 183 with q | q
  · exact q
  · exact absurd (sh_big q) h
theorem usd_mup {D : Mm} {o c : Nat} {v : Int32} (h : o ≠ 4500) : usd (mup D o c v) = usd D := by
  unfold usd mup; rw [if_neg (fun e => h e.symm)]
theorem nxt_mup {D : Mm} {o c : Nat} {v : Int32} (h : o ≠ 4500) : nxt (mup D o c v) = nxt D := by
  unfold nxt mup; rw [if_neg (fun e => h e.symm)]
theorem pot_mup {D : Mm} {o c : Nat} {v : Int32} (h0 : o ≠ 4500) (h : (sh o).1 ≠ 22 ∨ c ≠ LEN) : pot (mup D o c v) = pot D := by
  unfold pot
  rw [cap_mup, cap_mup, usd_mup h0]
  · rcases h with h | h
    · exact Or.inl (fun e => h (by rw [e]; rfl))
    · exact Or.inr h
  · rcases h with h | h
    · exact Or.inl (fun e => h (by rw [e]; rfl))
    · exact Or.inr h
def leD (D D2 : Mm) : Prop := pot D ≤ pot D2 ∧ nxt D ≤ nxt D2 ∧ D2 4000 = D 4000
theorem leD.rf {D : Mm} : leD D D := ⟨Nat.le_refl _, Nat.le_refl _, rfl⟩
theorem leD.tr {D D2 D3 : Mm} (h : leD D D2) (g : leD D2 D3) : leD D D3 := ⟨Nat.le_trans h.1 g.1, Nat.le_trans h.2.1 g.2.1, g.2.2.trans h.2.2⟩
theorem leD_mup {D : Mm} {o c : Nat} {v : Int32} (h0 : o < 183 ∨ DB ≤ o) (h : (sh o).1 ≠ 22 ∨ c ≠ LEN) : leD D (mup D o c v) := by
  have e0 : o ≠ 4500 := by unfold DB at h0; omega
  have e1 : o ≠ 4000 := by unfold DB at h0; omega
  exact ⟨Nat.le_of_eq (pot_mup e0 h).symm, Nat.le_of_eq (nxt_mup e0).symm, by funext j; unfold mup; rw [if_neg (fun e => e1 e.symm)]⟩
theorem leD_st {D : Mm} {o c k : Nat} {v : Int32} (h0 : (sh o).1 = k) (hk : k ≠ 99) (h : k ≠ 22 ∨ c ≠ LEN) : leD D (mup D o c v) := leD_mup (Or.inl (sh_sm (by rw [h0]; exact hk))) (by rw [h0]; exact h)
theorem leD_dy {D : Mm} {o c : Nat} {v : Int32} (h : dv D o) : leD D (mup D o c v) := leD_mup (Or.inr h.1) (Or.inl (by rw [sh_big (by have := h.1; unfold DB at this; omega)]; decide))
theorem al_new {D : Mm} {f : Nat → Int32} {n : Nat} : alD D f n (DB + nxt D) = f := by
  funext j; unfold alD; rw [if_pos rfl]
theorem al_old {D : Mm} {f : Nat → Int32} {n o : Nat} (h : o ≠ DB + nxt D) (h2 : o ≠ 4500) : alD D f n o = D o := by
  funext j; unfold alD; rw [if_neg h, if_neg h2]
theorem al_nxt {D : Mm} {f : Nat → Int32} {n : Nat} (h : fitU D n) : nxt (alD D f n) = nxt D + 1 := by
  unfold fitU at h
  show (alD D f n 4500 0).toNatClampNeg = _
  unfold alD
  rw [if_neg (by unfold DB; omega), if_pos rfl, if_pos rfl]
  exact nI_clamp (by omega)
theorem al_usd {D : Mm} {f : Nat → Int32} {n : Nat} (h : fitU D n) : usd (alD D f n) = usd D + (n + 1) := by
  unfold fitU at h
  show (alD D f n 4500 1).toNatClampNeg = _
  unfold alD
  rw [if_neg (by unfold DB; omega), if_pos rfl, if_neg (by decide), if_pos rfl]
  exact nI_clamp (by omega)
theorem al_pot {D : Mm} {f : Nat → Int32} {n : Nat} (h : fitU D n) : pot (alD D f n) = pot D + (n + 1) := by
  unfold pot cap
  rw [al_usd h, al_old (by unfold DB; omega) (by decide), al_old (by unfold DB; omega) (by decide)]
  omega
theorem leD_al {D : Mm} {f : Nat → Int32} {n : Nat} (h : fitU D n) : leD D (alD D f n) := ⟨by rw [al_pot h]; omega, by rw [al_nxt h]; omega, al_old (by unfold DB; omega) (by decide)⟩
theorem cp_ne {D : Mm} {src dst sp dp n c : Nat} (h : c ≠ dst) : cpD D src dst sp dp n c = D c := by
  funext j; unfold cpD; rw [if_neg h]
theorem leD_cp {D : Mm} {src dst sp dp n : Nat} (h : dv D dst) : leD D (cpD D src dst sp dp n) := by
  have h1 := h.1
  unfold DB at h1
  refine ⟨?_, ?_, cp_ne (by omega)⟩
  · unfold pot cap usd; rw [cp_ne (by omega), cp_ne (by omega), cp_ne (by omega)]; exact Nat.le_refl _
  · unfold nxt; rw [cp_ne (by omega)]; exact Nat.le_refl _
/-- what a step is: one state behind it, an end, or a call -/
def Nx (C : Ctr) (k : Nat) (Q : Option Value → Mm → Prop) (P : Pst) (pc : Nat) (ls st : List Value) (D : Mm) : Prop :=
  (∃ pc2 ls2 st2 D2, leD D D2 ∧ P pc2 ls2 st2 D2 ∧ ∀ (Q2 : Option Value → Mm → Prop) (P2 : Pst), P2 pc2 ls2 st2 D2 → Step C k Q2 P2 pc ls st D) ∨
  (∃ r, Q r D ∧ ∀ (Q2 : Option Value → Mm → Prop) (P2 : Pst), Q2 r D → Step C k Q2 P2 pc ls st D) ∨
  (∃ b args pc2 r2, ∃ g : Mm → Prop, C b args D (fun r D1 => g D1 ∧ P pc2 ls (r.toList ++ r2) D1) ∧ ∀ (Q2 : Option Value → Mm → Prop) (P2 : Pst), C b args D (fun r D1 => g D1 ∧ P2 pc2 ls (r.toList ++ r2) D1) → Step C k Q2 P2 pc ls st D)
set_option maxHeartbeats 4000000 in
theorem Step_nx {C : Ctr} {k : Nat} {Q : Option Value → Mm → Prop} {P : Pst} {pc : Nat} {ls st : List Value} {D : Mm} (h : Step C k Q P pc ls st D) : Nx C k Q P pc ls st D := by
  have key : ∀ {pc2 ls2 st2 D2}, leD D D2 → P pc2 ls2 st2 D2 → (∀ (Q2 : Option Value → Mm → Prop) (P2 : Pst), P2 pc2 ls2 st2 D2 → Step C k Q2 P2 pc ls st D) → Nx C k Q P pc ls st D := fun a b c => Or.inl ⟨_, _, _, _, a, b, c⟩
  cases hi : ins k pc with
  | none => unfold Step at h; rw [hi] at h; exact h.elim
  | some e =>
    obtain ⟨i, a, b, c, d⟩ := e
    have hS : ∀ (Q2 : Option Value → Mm → Prop) (P2 : Pst) (X : Prop), (X → (match (some (i, a, b, c, d) : Option (Instr × Nat × Nat × Nat × Nat)) with | none => False | some (i, _, b, c, d) => Step C k Q2 P2 pc ls st D)) → X → Step C k Q2 P2 pc ls st D := fun _ _ _ f x => f x
    clear hS
    unfold Step at h
    rw [hi] at h
    cases i
    case iconst => exact key leD.rf h (fun Q2 P2 h2 => by unfold Step; rw [hi]; exact h2)
    case bipush => exact key leD.rf h (fun Q2 P2 h2 => by unfold Step; rw [hi]; exact h2)
    case sipush => exact key leD.rf h (fun Q2 P2 h2 => by unfold Step; rw [hi]; exact h2)
    case goto => exact key leD.rf h (fun Q2 P2 h2 => by unfold Step; rw [hi]; exact h2)
    case iload_n => obtain ⟨v, e1, h⟩ := lI_spec h; exact key leD.rf h (fun Q2 P2 h2 => by unfold Step; rw [hi]; exact lI_of e1 h2)
    case iload => obtain ⟨v, e1, h⟩ := lI_spec h; exact key leD.rf h (fun Q2 P2 h2 => by unfold Step; rw [hi]; exact lI_of e1 h2)
    case aload_n => obtain ⟨v, e1, h⟩ := lA_spec h; exact key leD.rf h (fun Q2 P2 h2 => by unfold Step; rw [hi]; exact lA_of e1 h2)
    case aload => obtain ⟨v, e1, h⟩ := lA_spec h; exact key leD.rf h (fun Q2 P2 h2 => by unfold Step; rw [hi]; exact lA_of e1 h2)
    case iinc => obtain ⟨v, e1, h⟩ := lI_spec h; exact key leD.rf h (fun Q2 P2 h2 => by unfold Step; rw [hi]; exact lI_of e1 h2)
    case istore_n => obtain ⟨v, r, rfl, h0, h⟩ := sI_spec h; exact key leD.rf h (fun Q2 P2 h2 => by unfold Step; rw [hi]; exact ⟨h0, h2⟩)
    case istore => obtain ⟨v, r, rfl, h0, h⟩ := sI_spec h; exact key leD.rf h (fun Q2 P2 h2 => by unfold Step; rw [hi]; exact ⟨h0, h2⟩)
    case astore_n => obtain ⟨v, r, rfl, h0, h⟩ := sA_spec h; exact key leD.rf h (fun Q2 P2 h2 => by unfold Step; rw [hi]; exact ⟨h0, h2⟩)
    case astore => obtain ⟨v, r, rfl, h0, h⟩ := sA_spec h; exact key leD.rf h (fun Q2 P2 h2 => by unfold Step; rw [hi]; exact ⟨h0, h2⟩)
    case iadd => obtain ⟨x, y, r, rfl, h⟩ := sII_spec h; exact key leD.rf h (fun Q2 P2 h2 => by unfold Step; rw [hi]; exact h2)
    case isub => obtain ⟨x, y, r, rfl, h⟩ := sII_spec h; exact key leD.rf h (fun Q2 P2 h2 => by unfold Step; rw [hi]; exact h2)
    case imul => obtain ⟨x, y, r, rfl, h⟩ := sII_spec h; exact key leD.rf h (fun Q2 P2 h2 => by unfold Step; rw [hi]; exact h2)
    case iand => obtain ⟨x, y, r, rfl, h⟩ := sII_spec h; exact key leD.rf h (fun Q2 P2 h2 => by unfold Step; rw [hi]; exact h2)
    case ior => obtain ⟨x, y, r, rfl, h⟩ := sII_spec h; exact key leD.rf h (fun Q2 P2 h2 => by unfold Step; rw [hi]; exact h2)
    case ishr => obtain ⟨x, y, r, rfl, h⟩ := sII_spec h; exact key leD.rf h (fun Q2 P2 h2 => by unfold Step; rw [hi]; exact h2)
    case idiv => obtain ⟨x, y, r, rfl, h0, h⟩ := sII_spec h; exact key leD.rf h (fun Q2 P2 h2 => by unfold Step; rw [hi]; exact ⟨h0, h2⟩)
    case irem => obtain ⟨x, y, r, rfl, h0, h⟩ := sII_spec h; exact key leD.rf h (fun Q2 P2 h2 => by unfold Step; rw [hi]; exact ⟨h0, h2⟩)
    case ineg => obtain ⟨x, r, rfl, h⟩ := sI_spec h; exact key leD.rf h (fun Q2 P2 h2 => by unfold Step; rw [hi]; exact h2)
    case i2b => obtain ⟨x, r, rfl, h⟩ := sI_spec h; exact key leD.rf h (fun Q2 P2 h2 => by unfold Step; rw [hi]; exact h2)
    case i2c => obtain ⟨x, r, rfl, h⟩ := sI_spec h; exact key leD.rf h (fun Q2 P2 h2 => by unfold Step; rw [hi]; exact h2)
    case dup =>
      match st, h with
      | v :: r, ⟨h0, h⟩ => exact key leD.rf h (fun Q2 P2 h2 => by unfold Step; rw [hi]; exact ⟨h0, h2⟩)
    case dup_x1 =>
      match st, h with
      | v :: w :: r, ⟨h0, h1, h⟩ => exact key leD.rf h (fun Q2 P2 h2 => by unfold Step; rw [hi]; exact ⟨h0, h1, h2⟩)
    case dup2 =>
      match st, h with
      | v :: w :: r, ⟨h0, h1, h⟩ => exact key leD.rf h (fun Q2 P2 h2 => by unfold Step; rw [hi]; exact ⟨h0, h1, h2⟩)
    case pop =>
      match st, h with
      | v :: r, ⟨h0, h⟩ => exact key leD.rf h (fun Q2 P2 h2 => by unfold Step; rw [hi]; exact ⟨h0, h2⟩)
    case ifCond cd off =>
      obtain ⟨x, r, rfl, ht, hf⟩ := sI_spec h
      by_cases hc : icmp cd x 0
      · exact key leD.rf (ht hc) (fun Q2 P2 h2 => by unfold Step; rw [hi]; exact ⟨fun _ => h2, fun n => absurd hc n⟩)
      · exact key leD.rf (hf hc) (fun Q2 P2 h2 => by unfold Step; rw [hi]; exact ⟨fun n => absurd n hc, fun _ => h2⟩)
    case if_icmp cd off =>
      obtain ⟨x, y, r, rfl, ht, hf⟩ := sII_spec h
      by_cases hc : icmp cd x y
      · exact key leD.rf (ht hc) (fun Q2 P2 h2 => by unfold Step; rw [hi]; exact ⟨fun _ => h2, fun n => absurd hc n⟩)
      · exact key leD.rf (hf hc) (fun Q2 P2 h2 => by unfold Step; rw [hi]; exact ⟨fun n => absurd n hc, fun _ => h2⟩)
    case tableswitch dd lo hi2 os =>
      obtain ⟨x, r, rfl, t, ht, h⟩ := sI_spec h
      exact key leD.rf h (fun Q2 P2 h2 => by unfold Step; rw [hi]; exact ⟨t, ht, h2⟩)
    case getfield =>
      obtain ⟨o, r, rfl, h⟩ := sA_spec h
      have h : gfA P b c pc ls D o r := h
      unfold gfA at h
      rcases h with ⟨g1, g2, g3, g4, h⟩ | h
      · exact key leD.rf h (fun Q2 P2 h2 => by unfold Step; rw [hi]; show gfA _ _ _ _ _ _ _ _; exact Or.inl ⟨g1, g2, g3, g4, h2⟩)
      by_cases hb : b = 25
      · rw [if_pos hb] at h
        obtain ⟨h0, h1, h⟩ := h
        by_cases hc : c = 0
        · rw [if_pos hc] at h
          exact key leD.rf h (fun Q2 P2 h2 => by unfold Step; rw [hi]; show gfA _ _ _ _ _ _ _ _; unfold gfA; rw [if_pos hb, if_pos hc]; exact Or.inr ⟨h0, h1, h2⟩)
        · rw [if_neg hc] at h
          exact key leD.rf h.2 (fun Q2 P2 h2 => by unfold Step; rw [hi]; show gfA _ _ _ _ _ _ _ _; unfold gfA; rw [if_pos hb, if_neg hc]; exact Or.inr ⟨h0, h1, h.1, h2⟩)
      · rw [if_neg hb] at h
        obtain ⟨h0, h⟩ := h
        cases hr : (sh o).2.2[c]? with
        | none => rw [hr] at h; exact h.elim
        | some q =>
          rw [hr] at h
          cases q with
          | none => exact key leD.rf h (fun Q2 P2 h2 => by unfold Step; rw [hi]; show gfA _ _ _ _ _ _ _ _; unfold gfA; rw [if_neg hb, hr]; exact Or.inr ⟨h0, h2⟩)
          | some q => exact key leD.rf h (fun Q2 P2 h2 => by unfold Step; rw [hi]; show gfA _ _ _ _ _ _ _ _; unfold gfA; rw [if_neg hb, hr]; exact Or.inr ⟨h0, h2⟩)
    case putfield =>
      have h : pfA P k b c d pc ls D st := h
      unfold pfA at h
      split at h
      next v o r =>
        rcases h with ⟨g1, g2, g3, g4, g5, g6, h⟩ | ⟨h00, h0, h1, h2, h⟩
        · exact key (leD_dy g1.1) h (fun Q2 P2 h3 => by unfold Step; rw [hi]; exact Or.inl ⟨g1, g2, g3, g4, g5, g6, h3⟩)
        · exact key (leD_st h0 (by omega) (Or.inl (by omega))) h (fun Q2 P2 h3 => by unfold Step; rw [hi]; exact Or.inr ⟨h00, h0, h1, h2, h3⟩)
      next q o r =>
        obtain ⟨g1, g2, g3, g4, g5, h⟩ := h
        exact key (leD_dy g1.1) h (fun Q2 P2 h3 => by unfold Step; rw [hi]; exact ⟨g1, g2, g3, g4, g5, h3⟩)
      next => exact h.elim
    case iaload =>
      obtain ⟨o, j, r, rfl, h⟩ := sIA_spec h
      rcases h with ⟨h0, h1, h⟩ | ⟨h0, h1, h⟩ | ⟨h0, h1, h⟩
      · exact key leD.rf h (fun Q2 P2 h2 => by unfold Step; rw [hi]; exact Or.inl ⟨h0, h1, h2⟩)
      · exact key leD.rf h (fun Q2 P2 h2 => by unfold Step; rw [hi]; exact Or.inr (Or.inl ⟨h0, h1, h2⟩))
      · exact key leD.rf h (fun Q2 P2 h2 => by unfold Step; rw [hi]; exact Or.inr (Or.inr ⟨h0, h1, h2⟩))
    case aaload => obtain ⟨o, j, r, rfl, h0, h1, q, hq, h⟩ := sIA_spec h; exact key leD.rf h (fun Q2 P2 h2 => by unfold Step; rw [hi]; exact ⟨h0, h1, q, hq, h2⟩)
    case iastore =>
      obtain ⟨o, j, x, r, rfl, h⟩ := sIIA_spec h
      rcases h with ⟨h0, h1, h⟩ | ⟨h0, h1, h1b, h⟩
      · exact key (leD_st h0 (by decide) (Or.inl (by decide))) h (fun Q2 P2 h2 => by unfold Step; rw [hi]; exact Or.inl ⟨h0, h1, h2⟩)
      · exact key (leD_dy h0.1) h (fun Q2 P2 h2 => by unfold Step; rw [hi]; exact Or.inr ⟨h0, h1, h1b, h2⟩)
    case baload =>
      obtain ⟨o, j, r, rfl, h⟩ := sIA_spec h
      rcases h with ⟨h0, h1, h⟩ | ⟨h0, h1, h1b, h⟩ | ⟨h0, h1, h⟩ | ⟨h0, h1, h⟩
      · exact key leD.rf h (fun Q2 P2 h2 => by unfold Step; rw [hi]; exact Or.inl ⟨h0, h1, h2⟩)
      · exact key leD.rf h (fun Q2 P2 h2 => by unfold Step; rw [hi]; exact Or.inr (Or.inl ⟨h0, h1, h1b, h2⟩))
      · exact key leD.rf h (fun Q2 P2 h2 => by unfold Step; rw [hi]; exact Or.inr (Or.inr (Or.inl ⟨h0, h1, h2⟩)))
      · exact key leD.rf h (fun Q2 P2 h2 => by unfold Step; rw [hi]; exact Or.inr (Or.inr (Or.inr ⟨h0, h1, h2⟩)))
    case bastore =>
      obtain ⟨o, j, x, r, rfl, h⟩ := sIIA_spec h
      rcases h with ⟨h0, h1, h⟩ | ⟨h0, h1, h1b, h⟩ | ⟨h0, h1, h1b, h⟩
      · exact key (leD_st h0 (by decide) (Or.inl (by decide))) h (fun Q2 P2 h2 => by unfold Step; rw [hi]; exact Or.inl ⟨h0, h1, h2⟩)
      · exact key (leD_st h0 (by decide) (Or.inr (by omega))) h (fun Q2 P2 h2 => by unfold Step; rw [hi]; exact Or.inr (Or.inl ⟨h0, h1, h1b, h2⟩))
      · exact key (leD_dy h0.1) h (fun Q2 P2 h2 => by unfold Step; rw [hi]; exact Or.inr (Or.inr ⟨h0, h1, h1b, h2⟩))
    case arraylength =>
      obtain ⟨o, r, rfl, h⟩ := sA_spec h
      rcases h with ⟨h0, h⟩ | ⟨h0, h⟩ | ⟨h0, h⟩ | ⟨h0, h⟩
      · exact key leD.rf h (fun Q2 P2 h2 => by unfold Step; rw [hi]; exact Or.inl ⟨h0, h2⟩)
      · exact key leD.rf h (fun Q2 P2 h2 => by unfold Step; rw [hi]; exact Or.inr (Or.inl ⟨h0, h2⟩))
      · exact key leD.rf h (fun Q2 P2 h2 => by unfold Step; rw [hi]; exact Or.inr (Or.inr (Or.inl ⟨h0, h2⟩)))
      · exact key leD.rf h (fun Q2 P2 h2 => by unfold Step; rw [hi]; exact Or.inr (Or.inr (Or.inr ⟨h0, h2⟩)))
    case invokevirtual =>
      rcases h with ⟨z1, z2, g1, g3, g4, g5, h⟩ | ⟨z1, h⟩
      · exact Or.inr (Or.inr ⟨_, _, _, _, fun D1 => ((∀ v, v ∈ ls → nvV D v) ∨ pot D1 = pot D), h, fun Q2 P2 h2 => by unfold Step; rw [hi]; exact Or.inl ⟨z1, z2, g1, g3, g4, g5, h2⟩⟩)
      · unfold clnA at h
        split at h
        · next o r =>
          obtain ⟨y1, y2, y3, y4, y5, y6, y7, y8, h⟩ := h
          exact key (leD_al y8) h (fun Q2 P2 h2 => by unfold Step; rw [hi]; exact Or.inr ⟨z1, y1, y2, y3, y4, y5, y6, y7, y8, h2⟩)
        · exact h.elim
    case invokestatic =>
      rcases h with ⟨z1, z2, g1, g3, g4, g5, h⟩ | ⟨z1, h⟩
      · exact Or.inr (Or.inr ⟨_, _, _, _, fun D1 => ((∀ v, v ∈ ls → nvV D v) ∨ pot D1 = pot D), h, fun Q2 P2 h2 => by unfold Step; rw [hi]; exact Or.inl ⟨z1, z2, g1, g3, g4, g5, h2⟩⟩)
      · unfold cpyA at h
        split at h
        · next n dp dst sp src r =>
          obtain ⟨y1, y2, y3, y4, y5, y6, y7, y8, y9, y10, y11, h⟩ := h
          exact key (leD_cp y2.1) h (fun Q2 P2 h2 => by unfold Step; rw [hi]; exact Or.inr ⟨z1, y1, y2, y3, y4, y5, y6, y7, y8, y9, y10, y11, h2⟩)
        · exact h.elim
    case invokespecial =>
      rcases h with ⟨z1, z2, g1, g3, g4, g5, h⟩ | ⟨z1, z2, z3, h⟩
      · exact Or.inr (Or.inr ⟨_, _, _, _, fun D1 => ((∀ v, v ∈ ls → nvV D v) ∨ pot D1 = pot D), h, fun Q2 P2 h2 => by unfold Step; rw [hi]; exact Or.inl ⟨z1, z2, g1, g3, g4, g5, h2⟩⟩)
      · obtain ⟨o, r, rfl, h⟩ := sA_spec h
        exact key leD.rf h (fun Q2 P2 h2 => by unfold Step; rw [hi]; exact Or.inr ⟨z1, z2, z3, h2⟩)
    case new =>
      obtain ⟨y1, y2, y3, y4, h⟩ := h
      exact key (leD_al y4) h (fun Q2 P2 h2 => by unfold Step; rw [hi]; exact ⟨y1, y2, y3, y4, h2⟩)
    case newarray ty =>
      obtain ⟨x, r, rfl, h, y1, y2, y3, y4, y5⟩ := sI_spec h
      rcases h with ⟨y0, h⟩ | ⟨y0, h⟩
      · exact key (leD_al y5) h (fun Q2 P2 h2 => by unfold Step; rw [hi]; exact ⟨Or.inl ⟨y0, h2⟩, y1, y2, y3, y4, y5⟩)
      · exact key (leD_al y5) h (fun Q2 P2 h2 => by unfold Step; rw [hi]; exact ⟨Or.inr ⟨y0, h2⟩, y1, y2, y3, y4, y5⟩)
    case aconst_null => exact key leD.rf h (fun Q2 P2 h2 => by unfold Step; rw [hi]; exact h2)
    case if_acmp cd off =>
      match st, h with
      | .ref (y : Nat) :: .ref (x : Nat) :: r, ⟨y1, y2, y3, ht, hf⟩ =>
        by_cases hc : x = y
        · exact key leD.rf (hf hc) (fun Q2 P2 h2 => by unfold Step; rw [hi]; exact ⟨y1, y2, y3, fun n => absurd hc n, fun _ => h2⟩)
        · exact key leD.rf (ht hc) (fun Q2 P2 h2 => by unfold Step; rw [hi]; exact ⟨y1, y2, y3, fun _ => h2, fun n => absurd n hc⟩)
    case ifnonnull off => obtain ⟨o, r, rfl, h⟩ := sA_spec h; exact key leD.rf h (fun Q2 P2 h2 => by unfold Step; rw [hi]; exact h2)
    case instanceof => obtain ⟨o, r, rfl, h0, h1, h⟩ := sA_spec h; exact key leD.rf h (fun Q2 P2 h2 => by unfold Step; rw [hi]; exact ⟨h0, h1, h2⟩)
    case checkcast => obtain ⟨o, r, rfl, h0, h⟩ := sA_spec h; exact key leD.rf h (fun Q2 P2 h2 => by unfold Step; rw [hi]; exact ⟨h0, h2⟩)
    case iushr => obtain ⟨x, y, r, rfl, h⟩ := sII_spec h; exact key leD.rf h (fun Q2 P2 h2 => by unfold Step; rw [hi]; exact h2)
    case ishl => obtain ⟨x, y, r, rfl, h⟩ := sII_spec h; exact key leD.rf h (fun Q2 P2 h2 => by unfold Step; rw [hi]; exact h2)
    case i2d => obtain ⟨x, r, rfl, h⟩ := sI_spec h; exact key leD.rf h (fun Q2 P2 h2 => by unfold Step; rw [hi]; exact h2)
    case i2f => obtain ⟨x, r, rfl, h⟩ := sI_spec h; exact key leD.rf h (fun Q2 P2 h2 => by unfold Step; rw [hi]; exact h2)
    case ddiv =>
      match st, h with
      | .double y :: .double x :: r, ⟨h0, h⟩ => exact key leD.rf h (fun Q2 P2 h2 => by unfold Step; rw [hi]; exact ⟨h0, h2⟩)
    case fdiv =>
      match st, h with
      | .float y :: .float x :: r, ⟨h0, h⟩ => exact key leD.rf h (fun Q2 P2 h2 => by unfold Step; rw [hi]; exact ⟨h0, h2⟩)
    case dcmp =>
      match st, h with
      | .double y :: .double x :: r, h => exact key leD.rf h (fun Q2 P2 h2 => by unfold Step; rw [hi]; exact h2)
    case fcmp =>
      match st, h with
      | .float y :: .float x :: r, h => exact key leD.rf h (fun Q2 P2 h2 => by unfold Step; rw [hi]; exact h2)
    case dconst => exact key leD.rf h.2 (fun Q2 P2 h2 => by unfold Step; rw [hi]; exact ⟨h.1, h2⟩)
    case fconst => exact key leD.rf h.2 (fun Q2 P2 h2 => by unfold Step; rw [hi]; exact ⟨h.1, h2⟩)
    case dload x =>
      dsimp only at h
      split at h
      next v hv => exact key leD.rf h.2 (fun Q2 P2 h2 => by unfold Step; rw [hi]; dsimp only; rw [hv]; exact ⟨h.1, h2⟩)
      next => exact h.elim
    case fload x =>
      dsimp only at h
      split at h
      next v hv => exact key leD.rf h (fun Q2 P2 h2 => by unfold Step; rw [hi]; dsimp only; rw [hv]; exact h2)
      next => exact h.elim
    case dstore =>
      match st, h with
      | .double v :: r, ⟨h0, h⟩ => exact key leD.rf h (fun Q2 P2 h2 => by unfold Step; rw [hi]; exact ⟨h0, h2⟩)
    case fstore =>
      match st, h with
      | .float v :: r, ⟨h0, h⟩ => exact key leD.rf h (fun Q2 P2 h2 => by unfold Step; rw [hi]; exact ⟨h0, h2⟩)
    case dreturn =>
      match st, h with
      | [.double v], ⟨h0, h⟩ => exact Or.inr (Or.inl ⟨_, h, fun Q2 P2 h2 => by unfold Step; rw [hi]; exact ⟨h0, h2⟩⟩)
    case freturn =>
      match st, h with
      | [.float v], ⟨h0, h⟩ => exact Or.inr (Or.inl ⟨_, h, fun Q2 P2 h2 => by unfold Step; rw [hi]; exact ⟨h0, h2⟩⟩)
    case getstatic => obtain ⟨v, hv, h⟩ := h; exact key leD.rf h (fun Q2 P2 h2 => by unfold Step; rw [hi]; exact ⟨v, hv, h2⟩)
    case ldc =>
      rcases h with ⟨h0, h1, h⟩ | ⟨h0, f, h1, h⟩
      · exact key leD.rf h (fun Q2 P2 h2 => by unfold Step; rw [hi]; exact Or.inl ⟨h0, h1, h2⟩)
      · exact key leD.rf h (fun Q2 P2 h2 => by unfold Step; rw [hi]; exact Or.inr ⟨h0, f, h1, h2⟩)
    case ireturn =>
      match st, h with
      | [.int v], ⟨h0, h⟩ => exact Or.inr (Or.inl ⟨_, h, fun Q2 P2 h2 => by unfold Step; rw [hi]; exact ⟨h0, h2⟩⟩)
    case areturn =>
      match st, h with
      | [.ref v], ⟨h0, h1, h⟩ => exact Or.inr (Or.inl ⟨_, h, fun Q2 P2 h2 => by unfold Step; rw [hi]; exact ⟨h0, h1, h2⟩⟩)
    case return_ =>
      obtain ⟨h1, h0, h⟩ := h
      exact Or.inr (Or.inl ⟨_, h, fun Q2 P2 h2 => by unfold Step; rw [hi]; exact ⟨h1, h0, h2⟩⟩)
    all_goals exact h.elim
def Cmono (C : Ctr) : Prop := ∀ b args D Q Q2, (∀ r D1, Q r D1 → Q2 r D1) → C b args D Q → C b args D Q2
theorem Step_mono {C : Ctr} (hC : Cmono C) {k : Nat} {Q Q2 : Option Value → Mm → Prop} {P P2 : Pst} (hQ : ∀ r D, Q r D → Q2 r D) (hP : ∀ pc ls st D, P pc ls st D → P2 pc ls st D) {pc : Nat} {ls st : List Value} {D : Mm} (h : Step C k Q P pc ls st D) : Step C k Q2 P2 pc ls st D := by
  rcases Step_nx h with ⟨_, _, _, _, _, a, b⟩ | ⟨_, a, b⟩ | ⟨_, _, _, _, _, a, b⟩
  · exact b _ _ (hP _ _ _ _ a)
  · exact b _ _ (hQ _ _ a)
  · exact b _ _ (hC _ _ _ _ _ (fun _ _ z => ⟨z.1, hP _ _ _ _ z.2⟩) a)
def WP (C : Ctr) (k : Nat) (Q : Option Value → Mm → Prop) : Pst := fun pc ls st D => ∀ P : Pst, (∀ pc ls st D, Step C k Q P pc ls st D → P pc ls st D) → P pc ls st D
theorem WP.step {C : Ctr} (hC : Cmono C) {k : Nat} {Q : Option Value → Mm → Prop} {pc : Nat} {ls st : List Value} {D : Mm} (h : Step C k Q (WP C k Q) pc ls st D) : WP C k Q pc ls st D := fun P hP => hP _ _ _ _ (Step_mono hC (fun _ _ q => q) (fun _ _ _ _ w => w P hP) h)
theorem WP.mono {C : Ctr} (hC : Cmono C) {k : Nat} {Q Q2 : Option Value → Mm → Prop} (hQ : ∀ r D, Q r D → Q2 r D) {pc : Nat} {ls st : List Value} {D : Mm} (h : WP C k Q pc ls st D) : WP C k Q2 pc ls st D := h (WP C k Q2) (fun _ _ _ _ s => WP.step hC (Step_mono hC hQ (fun _ _ _ _ w => w) s))
def ensK : Nat := 217
def growD (D : Mm) (q n : Nat) : Mm := if n ≤ cap D q then D else fun c j => if c = q then (if j = LEN then Int32.ofNat (sb_cap n (cap D q)) else if j < cap D q then D q j else 0) else D c j
def ensS (args : List Value) (D : Mm) (Q : Option Value → Mm → Prop) : Prop := match args with
  | [.ref o, .int n] => (o = 169 ∨ o = 170) ∧ D o 1 = 0 ∧ cap D (o + 12) ≤ 10000 ∧ 0 ≤ n.toInt ∧ n.toInt ≤ 10000 ∧ (∀ j, j < cap D (o + 12) → fits .byte (.int (D (o + 12) j)) = true) ∧ Q none (growD D (o + 12) n.toInt.toNat)
  | _ => False
def dyB (args : List Value) : Bool := match args with
  | .ref o :: _ => decide (DB ≤ o)
  | _ => false
def Ct : Nat → Ctr
  | 0 => fun _ _ _ _ => False
  | d + 1 => fun k args D Q => if k = ensK ∧ dyB args = false then 4 ≤ d ∧ ensS args D Q else k < mnames ∧ args.length = nA k ∧ args.all c1B = true ∧ WP (Ct d) k Q 0 (args ++ List.replicate (nL k - nA k) (.retAddr 0)) [] D
theorem ensS_mono {args : List Value} {D : Mm} {Q Q2 : Option Value → Mm → Prop} (hQ : ∀ r D, Q r D → Q2 r D) (h : ensS args D Q) : ensS args D Q2 := by
  unfold ensS at h ⊢
  split at h
  · obtain ⟨h1, h2, h3, h4, h5, h6, h7⟩ := h
    exact ⟨h1, h2, h3, h4, h5, h6, hQ _ _ h7⟩
  · exact h
theorem Ct_mono : ∀ d, Cmono (Ct d)
  | 0 => fun _ _ _ _ _ _ h => h
  | d + 1 => by
    intro k args D Q Q2 hQ h
    unfold Ct at h ⊢
    by_cases hk : k = ensK ∧ dyB args = false
    · rw [if_pos hk] at h ⊢
      exact ⟨h.1, ensS_mono hQ h.2⟩
    · rw [if_neg hk] at h ⊢
      exact ⟨h.1, h.2.1, h.2.2.1, WP.mono (Ct_mono d) hQ h.2.2.2⟩
theorem cap_grow {D : Mm} {q n o : Nat} (hD : cap D q ≤ 10000) (hn : n ≤ 10000) : cap D o ≤ cap (growD D q n) o := by
  unfold growD
  by_cases h : n ≤ cap D q
  · rw [if_pos h]; exact Nat.le_refl _
  · rw [if_neg h]
    by_cases e : o = q
    · subst e
      have hg : sb_cap n (cap D o) ≤ 30000 := by unfold sb_cap; rw [if_neg h]; split <;> omega
      have h2 := sb_cap_gem n (cap D o)
      show _ ≤ ((if o = o then (if LEN = LEN then Int32.ofNat (sb_cap n (cap D o)) else _) else _) : Int32).toNatClampNeg
      rw [if_pos rfl, if_pos rfl, show (Int32.ofNat (sb_cap n (cap D o))).toNatClampNeg = sb_cap n (cap D o) from nI_clamp (by omega)]
      exact h2
    · show _ ≤ ((if o = q then (if LEN = LEN then Int32.ofNat (sb_cap n (cap D q)) else _) else D o LEN) : Int32).toNatClampNeg
      rw [if_neg e]
      exact Nat.le_refl _
theorem grow_ne {D : Mm} {q n c : Nat} (h : c ≠ q) : growD D q n c = D c := by
  unfold growD
  split
  · rfl
  · funext j; dsimp only; rw [if_neg h]
theorem leD_grow {D : Mm} {q n : Nat} (hq : q < 4000) (hD : cap D q ≤ 10000) (hn : n ≤ 10000) : leD D (growD D q n) := by
  have e1 : usd (growD D q n) = usd D := by unfold usd; rw [grow_ne (by omega)]
  have e2 : nxt (growD D q n) = nxt D := by unfold nxt; rw [grow_ne (by omega)]
  refine ⟨?_, by rw [e2]; exact Nat.le_refl _, grow_ne (by omega)⟩
  unfold pot
  rw [e1]
  have h1 := cap_grow (o := 181) hD hn
  have h2 := cap_grow (o := 182) hD hn
  omega
def Cexact (C : Ctr) : Prop := ∀ b args D Q, C b args D Q → ∃ r D1, Q r D1 ∧ leD D D1 ∧ C b args D (fun r2 D2 => r2 = r ∧ D2 = D1)
theorem WP.exact {C : Ctr} (hC : Cmono C) (hX : Cexact C) {k : Nat} {Q : Option Value → Mm → Prop} {pc : Nat} {ls st : List Value} {D : Mm} (h : WP C k Q pc ls st D) : ∃ r D1, Q r D1 ∧ leD D D1 ∧ WP C k (fun r2 D2 => r2 = r ∧ D2 = D1) pc ls st D := by
  refine h (fun pc ls st D => ∃ r D1, Q r D1 ∧ leD D D1 ∧ WP C k (fun r2 D2 => r2 = r ∧ D2 = D1) pc ls st D) ?_
  intro pc ls st D s
  rcases Step_nx s with ⟨_, _, _, _, p, ⟨r, D1, q1, q2, q3⟩, b⟩ | ⟨r, a, b⟩ | ⟨b0, args, pc2, r2, g0, a, b⟩
  · exact ⟨r, D1, q1, leD.tr p q2, WP.step hC (b _ _ q3)⟩
  · exact ⟨r, D, a, leD.rf, WP.step hC (b _ _ ⟨rfl, rfl⟩)⟩
  · obtain ⟨r, D1, ⟨gz, r3, D3, q1, q2, q3⟩, p, e⟩ := hX _ _ _ _ a
    refine ⟨r3, D3, q1, leD.tr p q2, WP.step hC (b _ _ (hC _ _ _ _ _ ?_ e))⟩
    rintro r4 D4 ⟨rfl, rfl⟩
    exact ⟨gz, q3⟩
theorem Ct_exact : ∀ d, Cexact (Ct d)
  | 0 => fun _ _ _ _ h => h.elim
  | d + 1 => by
    intro k args D Q h
    unfold Ct at h
    by_cases hk : k = ensK ∧ dyB args = false
    · rw [if_pos hk] at h
      obtain ⟨h0, h⟩ := h
      unfold ensS at h
      split at h
      · next o n =>
        obtain ⟨h1, h2, h3, h4, h5, h6, h7⟩ := h
        refine ⟨none, _, h7, leD_grow (by rcases h1 with q | q <;> (rw [q]; decide)) h3 (by omega), ?_⟩
        unfold Ct
        rw [if_pos hk]
        exact ⟨h0, h1, h2, h3, h4, h5, h6, rfl, rfl⟩
      · exact h.elim
    · rw [if_neg hk] at h
      obtain ⟨h1, h2, h3, h4⟩ := h
      obtain ⟨r, D1, q1, q2, q3⟩ := WP.exact (Ct_mono d) (Ct_exact d) h4
      refine ⟨r, D1, q1, q2, ?_⟩
      unfold Ct
      rw [if_neg hk]
      exact ⟨h1, h2, h3, q3⟩
