/-! every contract of the abstract machine is one of the machine's -/
theorem pot_gr {D : Mm} {o q : Nat} (ho : o = 169 ∨ o = 170) (h : cap D (o + 12) < q) (hq : q ≤ 10000) : pot (growD D (o + 12) q) + cap D (o + 12) = pot D + sb_cap q (cap D (o + 12)) := by
  have bd := cap_bd h (by omega : q ≤ 30000)
  have e1 : cap (growD D (o + 12) q) (o + 12) = sb_cap q (cap D (o + 12)) := by
    show (growD D (o + 12) q (o + 12) LEN).toNatClampNeg = _
    unfold growD
    rw [if_neg (by omega)]
    show (if o + 12 = o + 12 then (if LEN = LEN then Int32.ofNat (sb_cap q (cap D (o + 12))) else _) else _ : Int32).toNatClampNeg = _
    rw [if_pos rfl, if_pos rfl]
    exact nI_clamp (by omega)
  have e2 : ∀ c, c ≠ o + 12 → cap (growD D (o + 12) q) c = cap D c := fun c hc => by unfold cap; rw [growD_ne hc]
  have e3 : usd (growD D (o + 12) q) = usd D := by unfold usd; rw [growD_ne (by omega)]
  unfold pot
  rw [e3]
  rcases ho with rfl | rfl
  · rw [e1, e2 182 (by decide)]
    show sb_cap q (cap D 181) + cap D 182 + usd D + cap D 181 = cap D 181 + cap D 182 + usd D + sb_cap q (cap D 181)
    omega
  · rw [e1, e2 181 (by decide)]
    show cap D 181 + sb_cap q (cap D 182) + usd D + cap D 182 = cap D 181 + cap D 182 + usd D + sb_cap q (cap D 182)
    omega
theorem ens_met {l : Launch} {G : Gp} : ∀ d, 4 ≤ d → ∀ (args : List Value) (D : Mm) (r : Option Value) (D1 : Mm) (ad : Nat → Nat) (sz : Nat), ensS args D (fun r2 D2 => r2 = r ∧ D2 = D1) →
    Met l (nY ensK) (wsm ensK) (rmD d (pot D1 - pot D)) (va_Pc (args.map (cv ad G.2.2)) (MP G ad D sz)) (MC G ad D sz r D1) (pot D1 - pot D) (2 * (pot D1 - pot D)) (va_A (wsOf G.2.1 ad D) sz) := by
  intro d hd args D r D1 ad sz h
  unfold ensS at h
  split at h
  next o n =>
    obtain ⟨ho, hc0, hcap, hn0, hn1, hft, hr, hD1⟩ := h
    obtain ⟨q, hq⟩ : ∃ q : Nat, n.toInt = (q : Int) := ⟨n.toInt.toNat, by omega⟩
    have hq2 : q ≤ 10000 := by omega
    have en : n = nI q := Int32.toInt_inj.mp (by rw [hq, nI_toInt (by omega)])
    subst hr
    have eq : n.toInt.toNat = q := by omega
    rw [eq] at hD1
    subst en
    by_cases hle : q ≤ cap D (o + 12)
    · have e : growD D (o + 12) q = D := by unfold growD; rw [if_pos hle]
      rw [e] at hD1
      subst hD1
      rw [Nat.sub_self]
      exact ens_no hd ho hc0 hcap hq2 hle
    · subst hD1
      have hp := pot_gr ho (by omega : cap D (o + 12) < q) hq2
      have hs : sb_cap q (cap D (o + 12)) = (if 2 * cap D (o + 12) + 2 < q then q else 2 * cap D (o + 12) + 2) := by unfold sb_cap; rw [if_neg hle]
      have hs2 : 2 * cap D (o + 12) + 2 ≤ sb_cap q (cap D (o + 12)) := by rw [hs]; split <;> omega
      exact ens_gr hd ho hc0 hcap hq2 hft (by omega) (by omega) (by omega) (by omega)
  next => exact h.elim
theorem snd {l : Launch} {G : Gp} : ∀ d, Snd l G d := snd_all ens_met
