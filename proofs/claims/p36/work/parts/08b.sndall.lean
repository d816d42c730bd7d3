/-! a method's frame: its end, and the whole -/
set_option maxHeartbeats 4000000 in
theorem snd_ret {p : Program} {l : Launch} {e : Env} {R : Room} {s : State} {m : MethodId} {args : Array Value} {below : List Frame} {meth : Method} {c : Code} {G : Gp} {d k : Nat} {ad0 : Nat → Nat} {D0 : Mm} {rr : Option Value} {D1 : Mm} (hk : k < mnames + 1)
    (hx : p.tables.exec = Jvm.exec) (hb : c.code = nB k) (hr : meth.sig.returnType = nR k) (hlocks : meth.locks = false) (hK : va_K G.1 vwCl (tysA G.2.1) s)
    (pc : Nat) (ls st : List Value) (D : Mm) (i : Instr) (a b cc dd : Nat) (hi : ins k pc = some (i, a, b, cc, dd)) (hh : i = .ireturn ∨ i = .areturn ∨ i = .return_ ∨ i = .dreturn ∨ i = .freturn)
    (h : Step (Ct d) k (fun r2 D2 => r2 = rr ∧ D2 = D1) (PS p l e R 0 0 s m args below meth c G k (va_A (wsOf G.2.1 ad0 D0) s.heap.size) ad0 D0 (MQ below (MC G ad0 D0 s.heap.size rr D1) args s (pot D1 - pot D0) (2 * (pot D1 - pot D0)) (va_A (wsOf G.2.1 ad0 D0) s.heap.size)) D1) pc ls st D) : PS p l e R 0 0 s m args below meth c G k (va_A (wsOf G.2.1 ad0 D0) s.heap.size) ad0 D0 (MQ below (MC G ad0 D0 s.heap.size rr D1) args s (pot D1 - pot D0) (2 * (pot D1 - pot D0)) (va_A (wsOf G.2.1 ad0 D0) s.heap.size)) D1 pc ls st D := by
  unfold Step at h
  rw [hi] at h
  rcases hh with rfl | rfl | rfl | rfl | rfl
  · match st, h with
    | [.int v], ⟨h0, h⟩ =>
      obtain ⟨rfl, rfl⟩ := h
      refine ⟨Nat.le_refl _, fun H locs ad lsA ha hP hD hS hl hp hz hw => ?_⟩
      have hq : ∀ t : State, t.heap = H → s.WarmedH t.vm → MC G ad0 D0 s.heap.size (some (.int v)) D args s (.returned (some (.int v))) t := fun t ht hW => ⟨⟨_, rfl, ad, ha, rfl, by rw [ht]; exact hP, va_K.moved hW.alike hK, hD, hz, hw⟩, hS.F ht⟩
      refine W.cs (cells' := pot D - pot D0) (slots' := 2 * (pot D - pot D0)) (by omega) (by omega) ?_
      unfold retK at h0
      split at h0
      next e1 => exact W.iret hx hb (by rw [hr]; exact e1) hq hS.2.2 (ins_d hk hi rfl) hlocks
      next ty hty e1 => exact W.zret hx hb (by rw [hr]; exact e1) h0.2 hq hS.2.2 (ins_d hk hi rfl) hlocks
      next => exact h0.elim
  · match st, h with
    | [.ref v], ⟨h0, h1, h⟩ =>
      obtain ⟨rfl, rfl⟩ := h
      refine ⟨Nat.le_refl _, fun H locs ad lsA ha hP hD hS hl hp hz hw => ?_⟩
      have hq : ∀ t : State, t.heap = H → s.WarmedH t.vm → MC G ad0 D0 s.heap.size (some (.ref v)) D args s (.returned (some (.ref (ad v)))) t := fun t ht hW => ⟨⟨_, rfl, ad, ha, rfl, by rw [ht]; exact hP, va_K.moved hW.alike hK, hD, hz, hw⟩, hS.F ht⟩
      refine W.cs (cells' := pot D - pot D0) (slots' := 2 * (pot D - pot D0)) (by omega) (by omega) ?_
      unfold retA at h1
      split at h1
      next n e1 => exact W.aret hx hb (by rw [hr]; exact e1) (Or.inl ⟨_, rfl⟩) (Or.inr ⟨_, rfl⟩) hq hS.2.2 (ins_d hk hi rfl) hlocks
      next n e1 => exact W.aret hx hb (by rw [hr]; exact e1) (Or.inr ⟨_, rfl⟩) (Or.inr ⟨_, rfl⟩) hq hS.2.2 (ins_d hk hi rfl) hlocks
      next => exact h1.elim
  · obtain ⟨h1, rfl, h⟩ := h
    obtain ⟨rfl, rfl⟩ := h
    refine ⟨Nat.le_refl _, fun H locs ad lsA ha hP hD hS hl hp hz hw => ?_⟩
    refine W.cs (cells' := pot D - pot D0) (slots' := 2 * (pot D - pot D0)) (by omega) (by omega) ?_
    exact W.vret hx hb (by rw [hr]; exact h1) (fun t ht hW => ⟨⟨_, rfl, ad, ha, rfl, by rw [ht]; exact hP, va_K.moved hW.alike hK, hD, hz, hw⟩, hS.F ht⟩) hS.2.2 (ins_d hk hi rfl) hlocks
  · match st, h with
    | [.double v], ⟨h0, h⟩ =>
      obtain ⟨rfl, rfl⟩ := h
      refine ⟨Nat.le_refl _, fun H locs ad lsA ha hP hD hS hl hp hz hw => ?_⟩
      refine W.cs (cells' := pot D - pot D0) (slots' := 2 * (pot D - pot D0)) (by omega) (by omega) ?_
      exact W.dret hx hb (by rw [hr]; exact h0) (fun t ht hW => ⟨⟨_, rfl, ad, ha, rfl, by rw [ht]; exact hP, va_K.moved hW.alike hK, hD, hz, hw⟩, hS.F ht⟩) hS.2.2 (ins_d hk hi rfl) hlocks
  · match st, h with
    | [.float v], ⟨h0, h⟩ =>
      obtain ⟨rfl, rfl⟩ := h
      refine ⟨Nat.le_refl _, fun H locs ad lsA ha hP hD hS hl hp hz hw => ?_⟩
      refine W.cs (cells' := pot D - pot D0) (slots' := 2 * (pot D - pot D0)) (by omega) (by omega) ?_
      exact W.fret hx hb (by rw [hr]; exact h0) (fun t ht hW => ⟨⟨_, rfl, ad, ha, rfl, by rw [ht]; exact hP, va_K.moved hW.alike hK, hD, hz, hw⟩, hS.F ht⟩) hS.2.2 (ins_d hk hi rfl) hlocks
/-- every contract of the abstract machine is one of the machine's; the capacity of a text of the class's own is a contract of its own -/
theorem snd_all {l : Launch} {G : Gp} (hE : ∀ d, 4 ≤ d → ∀ (args : List Value) (D : Mm) (r : Option Value) (D1 : Mm) (ad : Nat → Nat) (sz : Nat), ensS args D (fun r2 D2 => r2 = r ∧ D2 = D1) →
    Met l (nY ensK) (wsm ensK) (rmD d (pot D1 - pot D)) (va_Pc (args.map (cv ad G.2.2)) (MP G ad D sz)) (MC G ad D sz r D1) (pot D1 - pot D) (2 * (pot D1 - pot D)) (va_A (wsOf G.2.1 ad D) sz)) : ∀ d, Snd l G d
  | 0 => fun _ _ _ _ _ _ _ h => h.elim
  | d + 1 => by
    have IH := snd_all hE d
    intro k args D r D1 ad sz h
    unfold Ct at h
    by_cases hk : k = ensK ∧ dyB args = false
    · rw [if_pos hk] at h
      obtain ⟨hk, -⟩ := hk
      subst hk
      exact hE d h.1 args D r D1 ad sz h.2
    · rw [if_neg hk] at h
      obtain ⟨hkm, hal, hac, hW⟩ := h
      obtain ⟨m1, m2, m3, m4, m6, m7, m8, m9, m10⟩ := mfact hkm
      refine va_MetF (cc := nB k) (maxL := nL k) (ret := nR k) m10 rfl ?_
      intro p e s m args0 below meth c s₁ B hml hv
      obtain ⟨rfl, hsz, hP, hK, hD0, hRO, hWF, hSX⟩ := hv
      have hts := atoms_spec (ws := wsm k) B.pre
      have htT : ∀ w ∈ Tall, w.before ((args.map (cv ad G.2.2)).toArray) s = true := fun w hw => hts w (List.mem_cons_of_mem _ hw)
      have hown : s.vm.findClass (cN (nO k)) = some m.cls := by rw [← m3]; exact findClass_of_methodNamed B.named
      subst hsz
      have hf : G.2.2.category = 1 := hRO.2.2.2.2.2.2.2.2
      have hps := hW (PS p l e (rmD d (pot D1 - pot D)) 0 0 s m ((args.map (cv ad G.2.2)).toArray) below meth c G k (va_A (wsOf G.2.1 ad D) s.heap.size) ad D (MQ below (MC G ad D s.heap.size r D1) ((args.map (cv ad G.2.2)).toArray) s (pot D1 - pot D) (2 * (pot D1 - pot D)) (va_A (wsOf G.2.1 ad D) s.heap.size)) D1) (fun pc ls st D2 hst =>
        snd_step IH (Ct_pos d) ⟨Nat.le_refl _, Nat.le_refl _, by show 0 + _ ≤ pot D1 - pot D; omega, by show 0 + _ ≤ 2 * (pot D1 - pot D); omega⟩ (fun q h => Or.inr h) (by omega) B.exec B.bytes hml hown htT hK hRO hSX (fun h9 => ((name_of_methodNamed B.named B.method).1).trans h9)
          (Qr := fun r2 D2 => r2 = r ∧ D2 = D1) (fun pc ls st D i a b cc dd h1 h2 h3 => snd_ret (by omega) B.exec B.bytes B.returns B.notSynchronized hK pc ls st D i a b cc dd h1 h2 h3) pc ls st D2 hst)
      have hl := LOK.entry (ad := ad) hf hac (n := nL k) (by rw [hal]; exact m8)
      rw [lg_entry_eq]
      have h9 := hps.2 s.heap [] ad _ agree.rf hP hD0.self va_S.rf (by rw [hal] at hl; exact hl) leD.rf (fun _ => rfl) hWF
      rw [Nat.sub_self] at h9
      exact h9
