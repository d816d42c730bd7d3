/-! weakest preconditions over the abstract machine -/
theorem sI_spec {st : List Value} {f : Int32 → List Value → Prop} (h : sI st f) : ∃ a r, st = .int a :: r ∧ f a r := by
  unfold sI at h
  split at h
  · exact ⟨_, _, rfl, h⟩
  · exact h.elim
theorem sII_spec {st : List Value} {f : Int32 → Int32 → List Value → Prop} (h : sII st f) : ∃ a b r, st = .int b :: .int a :: r ∧ f a b r := by
  unfold sII at h
  split at h
  · exact ⟨_, _, _, rfl, h⟩
  · exact h.elim
theorem sA_spec {st : List Value} {f : Nat → List Value → Prop} (h : sA st f) : ∃ (a : Nat) (r : List Value), st = .ref a :: r ∧ f a r := by
  unfold sA at h
  split at h
  · exact ⟨_, _, rfl, h⟩
  · exact h.elim
theorem sIA_spec {st : List Value} {f : Nat → Int32 → List Value → Prop} (h : sIA st f) : ∃ (a : Nat) (b : Int32) (r : List Value), st = .int b :: .ref a :: r ∧ f a b r := by
  unfold sIA at h
  split at h
  · exact ⟨_, _, _, rfl, h⟩
  · exact h.elim
theorem sIIA_spec {st : List Value} {f : Nat → Int32 → Int32 → List Value → Prop} (h : sIIA st f) : ∃ (a : Nat) (b x : Int32) (r : List Value), st = .int x :: .int b :: .ref a :: r ∧ f a b x r := by
  unfold sIIA at h
  split at h
  · exact ⟨_, _, _, _, rfl, h⟩
  · exact h.elim
theorem lI_spec {ls : List Value} {i : Nat} {f : Int32 → Prop} (h : lI ls i f) : ∃ v, ls[i]? = some (.int v) ∧ f v := by
  unfold lI at h
  split at h
  · exact ⟨_, by assumption, h⟩
  · exact h.elim
theorem lA_spec {ls : List Value} {i : Nat} {f : Nat → Prop} (h : lA ls i f) : ∃ v : Nat, ls[i]? = some (.ref v) ∧ f v := by
  unfold lA at h
  split at h
  · exact ⟨_, by assumption, h⟩
  · exact h.elim
theorem lI_of {ls : List Value} {i : Nat} {f : Int32 → Prop} {v : Int32} (h : ls[i]? = some (.int v)) (hf : f v) : lI ls i f := by
  unfold lI; rw [h]; exact hf
theorem lA_of {ls : List Value} {i : Nat} {f : Nat → Prop} {v : Nat} (h : ls[i]? = some (.ref v)) (hf : f v) : lA ls i f := by
  unfold lA; rw [h]; exact hf
theorem cap_mup {D : Mm} {o c q : Nat} {v : Int32} (h : o ≠ q ∨ c ≠ LEN) : cap (mup D o c v) q = cap D q := by
  unfold cap mup
  rcases h with h | h
  · rw [if_neg (fun e => h e.symm)]
  · by_cases e : q = o
    · rw [if_pos e, if_neg (fun e => h e.symm)]
    · rw [if_neg e]
theorem pot_mup {D : Mm} {o c : Nat} {v : Int32} (h : (sh o).1 ≠ 22 ∨ c ≠ LEN) : pot (mup D o c v) = pot D := by
  unfold pot
  rw [cap_mup, cap_mup]
  · rcases h with h | h
    · exact Or.inl (fun e => h (by rw [e]; rfl))
    · exact Or.inr h
  · rcases h with h | h
    · exact Or.inl (fun e => h (by rw [e]; rfl))
    · exact Or.inr h
/-- what a step is: one state behind it, an end, or a call -/
def Nx (C : Ctr) (k : Nat) (Q : Option Value → Mm → Prop) (P : Pst) (pc : Nat) (ls st : List Value) (D : Mm) : Prop :=
  (∃ pc2 ls2 st2 D2, pot D ≤ pot D2 ∧ P pc2 ls2 st2 D2 ∧ ∀ (Q2 : Option Value → Mm → Prop) (P2 : Pst), P2 pc2 ls2 st2 D2 → Step C k Q2 P2 pc ls st D) ∨
  (∃ r, Q r D ∧ ∀ (Q2 : Option Value → Mm → Prop) (P2 : Pst), Q2 r D → Step C k Q2 P2 pc ls st D) ∨
  (∃ b args pc2 r2, ∃ g : Mm → Prop, C b args D (fun r D1 => g D1 ∧ P pc2 ls (r.toList ++ r2) D1) ∧ ∀ (Q2 : Option Value → Mm → Prop) (P2 : Pst), C b args D (fun r D1 => g D1 ∧ P2 pc2 ls (r.toList ++ r2) D1) → Step C k Q2 P2 pc ls st D)
set_option maxHeartbeats 4000000 in
theorem Step_nx {C : Ctr} {k : Nat} {Q : Option Value → Mm → Prop} {P : Pst} {pc : Nat} {ls st : List Value} {D : Mm} (h : Step C k Q P pc ls st D) : Nx C k Q P pc ls st D := by
  have key : ∀ {pc2 ls2 st2 D2}, pot D ≤ pot D2 → P pc2 ls2 st2 D2 → (∀ (Q2 : Option Value → Mm → Prop) (P2 : Pst), P2 pc2 ls2 st2 D2 → Step C k Q2 P2 pc ls st D) → Nx C k Q P pc ls st D := fun a b c => Or.inl ⟨_, _, _, _, a, b, c⟩
  cases hi : ins k pc with
  | none => unfold Step at h; rw [hi] at h; exact h.elim
  | some e =>
    obtain ⟨i, a, b, c, d⟩ := e
    have hS : ∀ (Q2 : Option Value → Mm → Prop) (P2 : Pst) (X : Prop), (X → (match (some (i, a, b, c, d) : Option (Instr × Nat × Nat × Nat × Nat)) with | none => False | some (i, _, b, c, d) => Step C k Q2 P2 pc ls st D)) → X → Step C k Q2 P2 pc ls st D := fun _ _ _ f x => f x
    clear hS
    unfold Step at h
    rw [hi] at h
    cases i
    case iconst => exact key (Nat.le_refl _) h (fun Q2 P2 h2 => by unfold Step; rw [hi]; exact h2)
    case bipush => exact key (Nat.le_refl _) h (fun Q2 P2 h2 => by unfold Step; rw [hi]; exact h2)
    case sipush => exact key (Nat.le_refl _) h (fun Q2 P2 h2 => by unfold Step; rw [hi]; exact h2)
    case goto => exact key (Nat.le_refl _) h (fun Q2 P2 h2 => by unfold Step; rw [hi]; exact h2)
    case iload_n => obtain ⟨v, e1, h⟩ := lI_spec h; exact key (Nat.le_refl _) h (fun Q2 P2 h2 => by unfold Step; rw [hi]; exact lI_of e1 h2)
    case iload => obtain ⟨v, e1, h⟩ := lI_spec h; exact key (Nat.le_refl _) h (fun Q2 P2 h2 => by unfold Step; rw [hi]; exact lI_of e1 h2)
    case aload_n => obtain ⟨v, e1, h⟩ := lA_spec h; exact key (Nat.le_refl _) h (fun Q2 P2 h2 => by unfold Step; rw [hi]; exact lA_of e1 h2)
    case aload => obtain ⟨v, e1, h⟩ := lA_spec h; exact key (Nat.le_refl _) h (fun Q2 P2 h2 => by unfold Step; rw [hi]; exact lA_of e1 h2)
    case iinc => obtain ⟨v, e1, h⟩ := lI_spec h; exact key (Nat.le_refl _) h (fun Q2 P2 h2 => by unfold Step; rw [hi]; exact lI_of e1 h2)
    case istore_n => obtain ⟨v, r, rfl, h0, h⟩ := sI_spec h; exact key (Nat.le_refl _) h (fun Q2 P2 h2 => by unfold Step; rw [hi]; exact ⟨h0, h2⟩)
    case istore => obtain ⟨v, r, rfl, h0, h⟩ := sI_spec h; exact key (Nat.le_refl _) h (fun Q2 P2 h2 => by unfold Step; rw [hi]; exact ⟨h0, h2⟩)
    case astore_n => obtain ⟨v, r, rfl, h0, h⟩ := sA_spec h; exact key (Nat.le_refl _) h (fun Q2 P2 h2 => by unfold Step; rw [hi]; exact ⟨h0, h2⟩)
    case astore => obtain ⟨v, r, rfl, h0, h⟩ := sA_spec h; exact key (Nat.le_refl _) h (fun Q2 P2 h2 => by unfold Step; rw [hi]; exact ⟨h0, h2⟩)
    case iadd => obtain ⟨x, y, r, rfl, h⟩ := sII_spec h; exact key (Nat.le_refl _) h (fun Q2 P2 h2 => by unfold Step; rw [hi]; exact h2)
    case isub => obtain ⟨x, y, r, rfl, h⟩ := sII_spec h; exact key (Nat.le_refl _) h (fun Q2 P2 h2 => by unfold Step; rw [hi]; exact h2)
    case imul => obtain ⟨x, y, r, rfl, h⟩ := sII_spec h; exact key (Nat.le_refl _) h (fun Q2 P2 h2 => by unfold Step; rw [hi]; exact h2)
    case iand => obtain ⟨x, y, r, rfl, h⟩ := sII_spec h; exact key (Nat.le_refl _) h (fun Q2 P2 h2 => by unfold Step; rw [hi]; exact h2)
    case ior => obtain ⟨x, y, r, rfl, h⟩ := sII_spec h; exact key (Nat.le_refl _) h (fun Q2 P2 h2 => by unfold Step; rw [hi]; exact h2)
    case ishr => obtain ⟨x, y, r, rfl, h⟩ := sII_spec h; exact key (Nat.le_refl _) h (fun Q2 P2 h2 => by unfold Step; rw [hi]; exact h2)
    case idiv => obtain ⟨x, y, r, rfl, h0, h⟩ := sII_spec h; exact key (Nat.le_refl _) h (fun Q2 P2 h2 => by unfold Step; rw [hi]; exact ⟨h0, h2⟩)
    case irem => obtain ⟨x, y, r, rfl, h0, h⟩ := sII_spec h; exact key (Nat.le_refl _) h (fun Q2 P2 h2 => by unfold Step; rw [hi]; exact ⟨h0, h2⟩)
    case ineg => obtain ⟨x, r, rfl, h⟩ := sI_spec h; exact key (Nat.le_refl _) h (fun Q2 P2 h2 => by unfold Step; rw [hi]; exact h2)
    case i2b => obtain ⟨x, r, rfl, h⟩ := sI_spec h; exact key (Nat.le_refl _) h (fun Q2 P2 h2 => by unfold Step; rw [hi]; exact h2)
    case i2c => obtain ⟨x, r, rfl, h⟩ := sI_spec h; exact key (Nat.le_refl _) h (fun Q2 P2 h2 => by unfold Step; rw [hi]; exact h2)
    case dup =>
      match st, h with
      | v :: r, ⟨h0, h⟩ => exact key (Nat.le_refl _) h (fun Q2 P2 h2 => by unfold Step; rw [hi]; exact ⟨h0, h2⟩)
    case dup_x1 =>
      match st, h with
      | v :: w :: r, ⟨h0, h1, h⟩ => exact key (Nat.le_refl _) h (fun Q2 P2 h2 => by unfold Step; rw [hi]; exact ⟨h0, h1, h2⟩)
    case dup2 =>
      match st, h with
      | v :: w :: r, ⟨h0, h1, h⟩ => exact key (Nat.le_refl _) h (fun Q2 P2 h2 => by unfold Step; rw [hi]; exact ⟨h0, h1, h2⟩)
    case pop =>
      match st, h with
      | v :: r, ⟨h0, h⟩ => exact key (Nat.le_refl _) h (fun Q2 P2 h2 => by unfold Step; rw [hi]; exact ⟨h0, h2⟩)
    case ifCond cd off =>
      obtain ⟨x, r, rfl, ht, hf⟩ := sI_spec h
      by_cases hc : icmp cd x 0
      · exact key (Nat.le_refl _) (ht hc) (fun Q2 P2 h2 => by unfold Step; rw [hi]; exact ⟨fun _ => h2, fun n => absurd hc n⟩)
      · exact key (Nat.le_refl _) (hf hc) (fun Q2 P2 h2 => by unfold Step; rw [hi]; exact ⟨fun n => absurd n hc, fun _ => h2⟩)
    case if_icmp cd off =>
      obtain ⟨x, y, r, rfl, ht, hf⟩ := sII_spec h
      by_cases hc : icmp cd x y
      · exact key (Nat.le_refl _) (ht hc) (fun Q2 P2 h2 => by unfold Step; rw [hi]; exact ⟨fun _ => h2, fun n => absurd hc n⟩)
      · exact key (Nat.le_refl _) (hf hc) (fun Q2 P2 h2 => by unfold Step; rw [hi]; exact ⟨fun n => absurd n hc, fun _ => h2⟩)
    case tableswitch dd lo hi2 os =>
      obtain ⟨x, r, rfl, t, ht, h⟩ := sI_spec h
      exact key (Nat.le_refl _) h (fun Q2 P2 h2 => by unfold Step; rw [hi]; exact ⟨t, ht, h2⟩)
    case getfield =>
      obtain ⟨o, r, rfl, h⟩ := sA_spec h
      have h : gfA P b c pc ls D o r := h
      unfold gfA at h
      by_cases hb : b = 25
      · rw [if_pos hb] at h
        obtain ⟨h0, h1, h⟩ := h
        by_cases hc : c = 0
        · rw [if_pos hc] at h
          exact key (Nat.le_refl _) h (fun Q2 P2 h2 => by unfold Step; rw [hi]; show gfA _ _ _ _ _ _ _ _; unfold gfA; rw [if_pos hb, if_pos hc]; exact ⟨h0, h1, h2⟩)
        · rw [if_neg hc] at h
          exact key (Nat.le_refl _) h.2 (fun Q2 P2 h2 => by unfold Step; rw [hi]; show gfA _ _ _ _ _ _ _ _; unfold gfA; rw [if_pos hb, if_neg hc]; exact ⟨h0, h1, h.1, h2⟩)
      · rw [if_neg hb] at h
        obtain ⟨h0, h⟩ := h
        cases hr : (sh o).2.2[c]? with
        | none => rw [hr] at h; exact h.elim
        | some q =>
          rw [hr] at h
          cases q with
          | none => exact key (Nat.le_refl _) h (fun Q2 P2 h2 => by unfold Step; rw [hi]; show gfA _ _ _ _ _ _ _ _; unfold gfA; rw [if_neg hb, hr]; exact ⟨h0, h2⟩)
          | some q => exact key (Nat.le_refl _) h (fun Q2 P2 h2 => by unfold Step; rw [hi]; show gfA _ _ _ _ _ _ _ _; unfold gfA; rw [if_neg hb, hr]; exact ⟨h0, h2⟩)
    case putfield =>
      have h : pfA P b c d pc ls D st := h
      unfold pfA at h
      split at h
      next v o r =>
        obtain ⟨h00, h0, h1, h2, h⟩ := h
        refine key (Nat.le_of_eq (pot_mup (Or.inl ?_)).symm) h (fun Q2 P2 h3 => by unfold Step; rw [hi]; exact ⟨h00, h0, h1, h2, h3⟩)
        omega
      next => exact h.elim
    case iaload => obtain ⟨o, j, r, rfl, h0, h1, h⟩ := sIA_spec h; exact key (Nat.le_refl _) h (fun Q2 P2 h2 => by unfold Step; rw [hi]; exact ⟨h0, h1, h2⟩)
    case aaload => obtain ⟨o, j, r, rfl, h0, h1, q, hq, h⟩ := sIA_spec h; exact key (Nat.le_refl _) h (fun Q2 P2 h2 => by unfold Step; rw [hi]; exact ⟨h0, h1, q, hq, h2⟩)
    case iastore => obtain ⟨o, j, x, r, rfl, h0, h1, h⟩ := sIIA_spec h; exact key (Nat.le_of_eq (pot_mup (Or.inl (by rw [h0]; decide))).symm) h (fun Q2 P2 h2 => by unfold Step; rw [hi]; exact ⟨h0, h1, h2⟩)
    case baload =>
      obtain ⟨o, j, r, rfl, h⟩ := sIA_spec h
      rcases h with ⟨h0, h1, h⟩ | ⟨h0, h1, h1b, h⟩ | ⟨h0, h1, h⟩
      · exact key (Nat.le_refl _) h (fun Q2 P2 h2 => by unfold Step; rw [hi]; exact Or.inl ⟨h0, h1, h2⟩)
      · exact key (Nat.le_refl _) h (fun Q2 P2 h2 => by unfold Step; rw [hi]; exact Or.inr (Or.inl ⟨h0, h1, h1b, h2⟩))
      · exact key (Nat.le_refl _) h (fun Q2 P2 h2 => by unfold Step; rw [hi]; exact Or.inr (Or.inr ⟨h0, h1, h2⟩))
    case bastore =>
      obtain ⟨o, j, x, r, rfl, h⟩ := sIIA_spec h
      rcases h with ⟨h0, h1, h⟩ | ⟨h0, h1, h1b, h⟩
      · exact key (Nat.le_of_eq (pot_mup (Or.inl (by rw [h0]; decide))).symm) h (fun Q2 P2 h2 => by unfold Step; rw [hi]; exact Or.inl ⟨h0, h1, h2⟩)
      · exact key (Nat.le_of_eq (pot_mup (Or.inr (by omega))).symm) h (fun Q2 P2 h2 => by unfold Step; rw [hi]; exact Or.inr ⟨h0, h1, h1b, h2⟩)
    case arraylength =>
      obtain ⟨o, r, rfl, h⟩ := sA_spec h
      rcases h with ⟨h0, h⟩ | ⟨h0, h⟩ | ⟨h0, h⟩
      · exact key (Nat.le_refl _) h (fun Q2 P2 h2 => by unfold Step; rw [hi]; exact Or.inl ⟨h0, h2⟩)
      · exact key (Nat.le_refl _) h (fun Q2 P2 h2 => by unfold Step; rw [hi]; exact Or.inr (Or.inl ⟨h0, h2⟩))
      · exact key (Nat.le_refl _) h (fun Q2 P2 h2 => by unfold Step; rw [hi]; exact Or.inr (Or.inr ⟨h0, h2⟩))
    case invokevirtual =>
      obtain ⟨z1, z2, g1, g3, g4, g5, h⟩ := h
      exact Or.inr (Or.inr ⟨_, _, _, _, fun D1 => (ls.all nvB = true ∨ pot D1 = pot D), h, fun Q2 P2 h2 => by unfold Step; rw [hi]; exact ⟨z1, z2, g1, g3, g4, g5, h2⟩⟩)
    case invokestatic =>
      obtain ⟨z1, z2, g1, g3, g4, g5, h⟩ := h
      exact Or.inr (Or.inr ⟨_, _, _, _, fun D1 => (ls.all nvB = true ∨ pot D1 = pot D), h, fun Q2 P2 h2 => by unfold Step; rw [hi]; exact ⟨z1, z2, g1, g3, g4, g5, h2⟩⟩)
    case invokespecial =>
      obtain ⟨z1, z2, g1, g3, g4, g5, h⟩ := h
      exact Or.inr (Or.inr ⟨_, _, _, _, fun D1 => (ls.all nvB = true ∨ pot D1 = pot D), h, fun Q2 P2 h2 => by unfold Step; rw [hi]; exact ⟨z1, z2, g1, g3, g4, g5, h2⟩⟩)
    case getstatic => obtain ⟨v, hv, h⟩ := h; exact key (Nat.le_refl _) h (fun Q2 P2 h2 => by unfold Step; rw [hi]; exact ⟨v, hv, h2⟩)
    case ldc => obtain ⟨h0, h1, h⟩ := h; exact key (Nat.le_refl _) h (fun Q2 P2 h2 => by unfold Step; rw [hi]; exact ⟨h0, h1, h2⟩)
    case ireturn =>
      match st, h with
      | [.int v], ⟨h0, h⟩ => exact Or.inr (Or.inl ⟨_, h, fun Q2 P2 h2 => by unfold Step; rw [hi]; exact ⟨h0, h2⟩⟩)
    case areturn =>
      match st, h with
      | [.ref v], ⟨h0, h1, h⟩ => exact Or.inr (Or.inl ⟨_, h, fun Q2 P2 h2 => by unfold Step; rw [hi]; exact ⟨h0, h1, h2⟩⟩)
    case return_ =>
      obtain ⟨h1, h0, h⟩ := h
      exact Or.inr (Or.inl ⟨_, h, fun Q2 P2 h2 => by unfold Step; rw [hi]; exact ⟨h1, h0, h2⟩⟩)
    all_goals exact h.elim
def Cmono (C : Ctr) : Prop := ∀ b args D Q Q2, (∀ r D1, Q r D1 → Q2 r D1) → C b args D Q → C b args D Q2
theorem Step_mono {C : Ctr} (hC : Cmono C) {k : Nat} {Q Q2 : Option Value → Mm → Prop} {P P2 : Pst} (hQ : ∀ r D, Q r D → Q2 r D) (hP : ∀ pc ls st D, P pc ls st D → P2 pc ls st D) {pc : Nat} {ls st : List Value} {D : Mm} (h : Step C k Q P pc ls st D) : Step C k Q2 P2 pc ls st D := by
  rcases Step_nx h with ⟨_, _, _, _, _, a, b⟩ | ⟨_, a, b⟩ | ⟨_, _, _, _, _, a, b⟩
  · exact b _ _ (hP _ _ _ _ a)
  · exact b _ _ (hQ _ _ a)
  · exact b _ _ (hC _ _ _ _ _ (fun _ _ z => ⟨z.1, hP _ _ _ _ z.2⟩) a)
def WP (C : Ctr) (k : Nat) (Q : Option Value → Mm → Prop) : Pst := fun pc ls st D => ∀ P : Pst, (∀ pc ls st D, Step C k Q P pc ls st D → P pc ls st D) → P pc ls st D
theorem WP.step {C : Ctr} (hC : Cmono C) {k : Nat} {Q : Option Value → Mm → Prop} {pc : Nat} {ls st : List Value} {D : Mm} (h : Step C k Q (WP C k Q) pc ls st D) : WP C k Q pc ls st D := fun P hP => hP _ _ _ _ (Step_mono hC (fun _ _ q => q) (fun _ _ _ _ w => w P hP) h)
theorem WP.mono {C : Ctr} (hC : Cmono C) {k : Nat} {Q Q2 : Option Value → Mm → Prop} (hQ : ∀ r D, Q r D → Q2 r D) {pc : Nat} {ls st : List Value} {D : Mm} (h : WP C k Q pc ls st D) : WP C k Q2 pc ls st D := h (WP C k Q2) (fun _ _ _ _ s => WP.step hC (Step_mono hC hQ (fun _ _ _ _ w => w) s))
def ensK : Nat := 217
def growD (D : Mm) (q n : Nat) : Mm := if n ≤ cap D q then D else fun c j => if c = q then (if j = LEN then Int32.ofNat (sb_cap n (cap D q)) else if j < cap D q then D q j else 0) else D c j
def ensS (args : List Value) (D : Mm) (Q : Option Value → Mm → Prop) : Prop := match args with
  | [.ref o, .int n] => (o = 169 ∨ o = 170) ∧ D o 1 = 0 ∧ cap D (o + 12) ≤ 10000 ∧ 0 ≤ n.toInt ∧ n.toInt ≤ 10000 ∧ (∀ j, j < cap D (o + 12) → fits .byte (.int (D (o + 12) j)) = true) ∧ Q none (growD D (o + 12) n.toInt.toNat)
  | _ => False
def Ct : Nat → Ctr
  | 0 => fun _ _ _ _ => False
  | d + 1 => fun k args D Q => if k = ensK then 4 ≤ d ∧ ensS args D Q else k < mnames ∧ args.length = nA k ∧ args.all c1B = true ∧ WP (Ct d) k Q 0 (args ++ List.replicate (nL k - nA k) (.retAddr 0)) [] D
theorem ensS_mono {args : List Value} {D : Mm} {Q Q2 : Option Value → Mm → Prop} (hQ : ∀ r D, Q r D → Q2 r D) (h : ensS args D Q) : ensS args D Q2 := by
  unfold ensS at h ⊢
  split at h
  · obtain ⟨h1, h2, h3, h4, h5, h6, h7⟩ := h
    exact ⟨h1, h2, h3, h4, h5, h6, hQ _ _ h7⟩
  · exact h
theorem Ct_mono : ∀ d, Cmono (Ct d)
  | 0 => fun _ _ _ _ _ _ h => h
  | d + 1 => by
    intro k args D Q Q2 hQ h
    unfold Ct at h ⊢
    by_cases hk : k = ensK
    · rw [if_pos hk] at h ⊢
      exact ⟨h.1, ensS_mono hQ h.2⟩
    · rw [if_neg hk] at h ⊢
      exact ⟨h.1, h.2.1, h.2.2.1, WP.mono (Ct_mono d) hQ h.2.2.2⟩
theorem cap_grow {D : Mm} {q n o : Nat} (hD : cap D q ≤ 10000) (hn : n ≤ 10000) : cap D o ≤ cap (growD D q n) o := by
  unfold growD
  by_cases h : n ≤ cap D q
  · rw [if_pos h]; exact Nat.le_refl _
  · rw [if_neg h]
    by_cases e : o = q
    · subst e
      have hg : sb_cap n (cap D o) ≤ 30000 := by unfold sb_cap; rw [if_neg h]; split <;> omega
      have h2 := sb_cap_gem n (cap D o)
      show _ ≤ ((if o = o then (if LEN = LEN then Int32.ofNat (sb_cap n (cap D o)) else _) else _) : Int32).toNatClampNeg
      rw [if_pos rfl, if_pos rfl, show (Int32.ofNat (sb_cap n (cap D o))).toNatClampNeg = sb_cap n (cap D o) from nI_clamp (by omega)]
      exact h2
    · show _ ≤ ((if o = q then (if LEN = LEN then Int32.ofNat (sb_cap n (cap D q)) else _) else D o LEN) : Int32).toNatClampNeg
      rw [if_neg e]
      exact Nat.le_refl _
theorem pot_grow {D : Mm} {q n : Nat} (hD : cap D q ≤ 10000) (hn : n ≤ 10000) : pot D ≤ pot (growD D q n) := Nat.add_le_add (cap_grow hD hn) (cap_grow hD hn)
def Cexact (C : Ctr) : Prop := ∀ b args D Q, C b args D Q → ∃ r D1, Q r D1 ∧ pot D ≤ pot D1 ∧ C b args D (fun r2 D2 => r2 = r ∧ D2 = D1)
theorem WP.exact {C : Ctr} (hC : Cmono C) (hX : Cexact C) {k : Nat} {Q : Option Value → Mm → Prop} {pc : Nat} {ls st : List Value} {D : Mm} (h : WP C k Q pc ls st D) : ∃ r D1, Q r D1 ∧ pot D ≤ pot D1 ∧ WP C k (fun r2 D2 => r2 = r ∧ D2 = D1) pc ls st D := by
  refine h (fun pc ls st D => ∃ r D1, Q r D1 ∧ pot D ≤ pot D1 ∧ WP C k (fun r2 D2 => r2 = r ∧ D2 = D1) pc ls st D) ?_
  intro pc ls st D s
  rcases Step_nx s with ⟨_, _, _, _, p, ⟨r, D1, q1, q2, q3⟩, b⟩ | ⟨r, a, b⟩ | ⟨b0, args, pc2, r2, g0, a, b⟩
  · exact ⟨r, D1, q1, Nat.le_trans p q2, WP.step hC (b _ _ q3)⟩
  · exact ⟨r, D, a, Nat.le_refl _, WP.step hC (b _ _ ⟨rfl, rfl⟩)⟩
  · obtain ⟨r, D1, ⟨gz, r3, D3, q1, q2, q3⟩, p, e⟩ := hX _ _ _ _ a
    refine ⟨r3, D3, q1, Nat.le_trans p q2, WP.step hC (b _ _ (hC _ _ _ _ _ ?_ e))⟩
    rintro r4 D4 ⟨rfl, rfl⟩
    exact ⟨gz, q3⟩
theorem Ct_exact : ∀ d, Cexact (Ct d)
  | 0 => fun _ _ _ _ h => h.elim
  | d + 1 => by
    intro k args D Q h
    unfold Ct at h
    by_cases hk : k = ensK
    · rw [if_pos hk] at h
      obtain ⟨h0, h⟩ := h
      unfold ensS at h
      split at h
      · next o n =>
        obtain ⟨h1, h2, h3, h4, h5, h6, h7⟩ := h
        refine ⟨none, _, h7, pot_grow h3 (by omega), ?_⟩
        unfold Ct
        rw [if_pos hk]
        exact ⟨h0, h1, h2, h3, h4, h5, h6, rfl, rfl⟩
      · exact h.elim
    · rw [if_neg hk] at h
      obtain ⟨h1, h2, h3, h4⟩ := h
      obtain ⟨r, D1, q1, q2, q3⟩ := WP.exact (Ct_mono d) (Ct_exact d) h4
      refine ⟨r, D1, q1, q2, ?_⟩
      unfold Ct
      rw [if_neg hk]
      exact ⟨h1, h2, h3, q3⟩
