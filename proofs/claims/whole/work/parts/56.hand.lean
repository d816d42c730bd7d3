/-! calls out of what is walked by hand -/
set_option maxHeartbeats 4000000 in
theorem hand_call {p : Program} {l : Launch} {e : Env} {s : State} {m : MethodId} {args : Array Value} {below : List Frame} {meth : Method} {c : Code} {G : Gp} {d : Nat} {y0 : MethodName} {cc : ByteArray} {n0 : Nat} {ret0 : Option FieldType} {ad : Nat → Nat} {D : Mm} {own : String}
    (IH : Snd l G d) (hd : 1 ≤ d) (hx : p.tables.exec = Jvm.exec) (hb : c.code = cc) (hml : c.maxLocals = n0) (hown : s.vm.findClass own = some m.cls) (hts : ∀ w ∈ (Cond.code y0 cc n0 ret0 :: Tall), w.before args s = true)
    (hK : va_K G.1 vwCl (tysA G.2.1) s) (hRO0 : RO ad G.2.2 (va_A (wsOf G.2.1 ad D) s.heap.size) s s.heap)
    {b idx o : Nat} {v : Int32} {As : List Value} (hbm : b < mnames) (hC : Ct d b (.ref o :: As) D (Ex (some (.int v)) D)) (hAl : As.length = nA b - 1) (hlink : Cond.methodLink own idx (nY b) ∈ Tall) (hst : nS b = 0) (hrc : rcN (rk o) = (nY b).cls) (hsel : Cond.selects (nY b).cls (nY b) (nY b) ∈ Tall) (ho2 : o < 1010)
    {pc : Nat} {lsA : Array Slot} {rest : List Value} (hls : lsA.size = n0) (hdg : decode cc pc = .ok (.invokevirtual idx, 3)) (hcat : (rest.map fun v => v.category).sum ≤ 8)
    {H : Heap} {locs : List Loc} (hP : va_P G.1 vwCl (wsOf G.2.1 ad D) H) (hD : va_D (va_A (wsOf G.2.1 ad D) s.heap.size) (wsOf G.2.1 ad D)) (hS : va_S (va_A (wsOf G.2.1 ad D) s.heap.size) s.heap H locs) {Q : State → Prop}
    (next : ∀ (H1 : Heap) (locs1 : List Loc), va_P G.1 vwCl (wsOf G.2.1 ad D) H1 → va_S (va_A (wsOf G.2.1 ad D) s.heap.size) s.heap H1 locs1 → W p l e (rmD d 0) s m args below meth c H1 locs1 0 0 Q (F0 m (pc + 3) lsA (.int v :: rest))) :
    W p l e (rmD d 0) s m args below meth c H locs 0 0 Q (F0 m pc lsA ((As.map (cv ad G.2.2)).reverse ++ .ref (ad o) :: rest)) := by
  obtain ⟨m1, m2, m3, m4, m5, m6, m7, m8, m9, m10⟩ := mfact hbm
  rw [if_neg (by omega)] at m2 m6
  have hM := IH b (.ref o :: As) D (some (.int v)) D ad H.size hC
  rw [Nat.sub_self] at hM
  have hA : ∀ q : Nat, s.heap.size ≤ q → va_A (wsOf G.2.1 ad D) s.heap.size q := fun q h => Or.inr h
  have hpre := MP_pre (as := (Value.ref o :: As).map (cv ad G.2.2)) hP hK hD hS hA hRO0
  have hcell := recv_ok agree.rf hK hRO0 hP hS ho2 (o := o) (by rw [hrc]; exact clsne hbm)
  rw [hrc] at hcell
  have hrun := va_runV (p := p) (l := l) (e := e) (R := rmD d 0) (s := s) (m := m) (args := args) (below := below) (meth := meth) (c := c) (H := H) (locs := locs) (cells := 0) (slots := 0) (g := F0 m pc lsA ((As.map (cv ad G.2.2)).reverse ++ .ref (ad o) :: rest)) (rest := rest) (own := own) (Ts := Cond.code y0 cc n0 ret0 :: Tall) (As := As.map (cv ad G.2.2)) (n := nA b - 1) (y := nY b) (bytes := nB b) (maxL := nL b) (ret := nR b) (C := (nY b).cls) (index := idx) ⟨hx, hb, hml, hown, hts⟩ hM (by
      refine cwV (nA b - 1) hts ?_ rfl rfl rfl ⟨rfl, m4.1, m4.2, m6⟩ (rm_ok hd m9)
      intro w hw
      have h9 : w ∈ Tall := by
        unfold wsV at hw
        simp only [List.cons_append, List.nil_append, List.mem_cons] at hw
        rcases hw with rfl | rfl | rfl | rfl | hw
        · exact hlink
        · exact m2
        · exact hsel
        · exact m1
        · exact wsm_in hbm w (by simpa using hw)
      exact ⟨List.mem_cons_of_mem _ h9, (goodTall w h9).2⟩) ⟨MP_blind, hcell, hpre⟩ rfl (by simp; omega) hls rfl (lv_room hcat) hdg ⟨Nat.zero_le _, Nat.zero_le _⟩
  refine va_callg (Qx := MX G ad D H.size (some (.int v)) D) (A1 := va_A (wsOf G.2.1 ad D) H.size) hrun hS ?_ ?_ ?_
  · intro q hq h
    rcases h with h | h
    · exact Or.inl h
    · omega
  · intro q h
    rcases h with h | h
    · exact Or.inl h
    · exact Or.inr (Nat.le_trans hS.1 h)
  · intro v2 t H1 locs1 e1 e2 h3 h4 h5 h6
    obtain ⟨ad2, g0, rfl, g1, g2, g3, g4⟩ := h3
    have e9 := g4 rfl
    subst e9
    rw [e1] at g1
    exact next H1 locs1 g1 h6
