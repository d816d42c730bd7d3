/-! a call out of the law -/
def R_law : String := "CandleStatuteLaw"
abbrev AL (s : State) : Nat → Prop := fun q => s.heap.size ≤ q
def LX (p : Program) (s : State) (m : MethodId) (c : Code) (b L : Nat) (xs : Nat → Int32) (G : Gp) (ad0 : Nat → Nat) : Prop :=
  p.tables.exec = Jvm.exec ∧ c.code = code ∧ c.maxLocals = 8 ∧ s.vm.findClass R_law = some m.cls ∧ (∀ w ∈ Tall, w.before #[Value.ref b] s = true) ∧ va_X b L xs s s.heap ∧ b < s.heap.size ∧ va_K G.1 vwCl (tysA G.2.1) s ∧ RO ad0 G.2.2 (AL s) s s.heap ∧ L ≤ 2048
def LH (s : State) (G : Gp) (ad0 ad : Nat → Nat) (D : Mm) (H : Heap) (locs : List Loc) : Prop := agree ad0 ad ∧ va_P G.1 vwCl (wsOf G.2.1 ad D) H ∧ va_D (AL s) (wsOf G.2.1 ad D) ∧ va_S (AL s) s.heap H locs
abbrev lwv (b i : Nat) (ad0 : Nat → Nat) : List (Nat × Value) := [(0, .ref b), (1, .ref (ad0 0)), (2, .ref (ad0 171)), (3, .int (nI i))]
theorem recv6 {s : State} {G : Gp} {ad : Nat → Nat} {D : Mm} {H : Heap} (hK : va_K G.1 vwCl (tysA G.2.1) s) (hP : va_P G.1 vwCl (wsOf G.2.1 ad D) H) : ∃ cell : Cell, H[ad 0]? = some cell ∧ cell.vm.isStatics = false ∧ s.vm.findClass RX6 = some cell.cls :=
  va_recv hK hP (ci := 7) (q0 := 0) (q := (RX6, TX6, 9)) rfl (by rw [ws_get (by decide), cell_obj (by decide +kernel)]; rfl)
theorem recv7 {s : State} {G : Gp} {ad : Nat → Nat} {D : Mm} {H : Heap} (hK : va_K G.1 vwCl (tysA G.2.1) s) (hP : va_P G.1 vwCl (wsOf G.2.1 ad D) H) : ∃ cell : Cell, H[ad 171]? = some cell ∧ cell.vm.isStatics = false ∧ s.vm.findClass RX7 = some cell.cls :=
  va_recv hK hP (ci := 8) (q0 := 171) (q := (RX7, TX7, 25)) rfl (by rw [ws_get (by decide), cell_obj (by decide +kernel)]; rfl)
theorem stp_split {kC kM W : Nat} {As : List Value} {D : Mm} (h : StpJ 11 kC kM As W) (hJ : J D W) : ∃ (a : Int32) (D2 D3 : Mm), pot D ≤ pot D2 ∧ pot D2 ≤ pot D3 ∧ Ct 11 kC (.ref 0 :: As) D (Ex (some (.int a)) D2) ∧ Ct 11 kM (.ref 171 :: As) D2 (Ex (some (.int a)) D3) ∧ J D3 (W + 30) := by
  obtain ⟨r, D2, ⟨a, rfl, h2⟩, p1, e1⟩ := Ct_exact 11 _ _ _ _ (h D hJ)
  obtain ⟨r2, D3, ⟨rfl, hJ3⟩, p2, e2⟩ := Ct_exact 11 _ _ _ _ h2
  exact ⟨a, D2, D3, p1, p2, e1, e2, hJ3⟩
section
variable {p : Program} {l : Launch} {e : Env} {s : State} {m : MethodId} {below : List Frame} {meth : Method} {c : Code} {b L : Nat} {xs : Nat → Int32} {G : Gp} {ad0 ad : Nat → Nat} {D D1 : Mm} {H : Heap} {locs : List Loc} {Q : State → Prop} {pc : Nat} {ls : Array Slot} {rest : List Value}
theorem law_call (hX : LX p s m c b L xs G ad0) (hH : LH s G ad0 ad D H locs)
    {y : MethodName} {bytes : ByteArray} {maxL n idx a : Nat} {ret : Option FieldType} {rm : Room} {As : List Value} {v : Value}
    (hM : Met l y (Cond.code y bytes maxL ret :: Tall) rm (va_Pc (.ref a :: As) (MP G ad D H.size)) (MC G ad D H.size (some v) D1) (pot D1 - pot D) (2 * (pot D1 - pot D)) (va_A (wsOf G.2.1 ad D) H.size))
    (hv : ∀ ad2, cv ad2 G.2.2 v = v)
    (w1 : Cond.methodLink R_law idx y ∈ Tall) (w2 : Cond.instanceMethod y ∈ Tall) (w3 : Cond.selects y.cls y y ∈ Tall) (w4 : Cond.initialized y.cls ∈ Tall) (w5 : Cond.code y bytes maxL ret ∈ Tall)
    (hn : (y.cls ≠ "java/lang/invoke/MethodHandle" ∧ y.cls ≠ "java/lang/invoke/VarHandle") ∧ (parseMethodDescriptor y.desc).map (fun d => d.parameters.length) = some n) (hrm : rm.cells = pot D1 - pot D ∧ rm.slots = 2 * (pot D1 - pot D)) (hfr : rm.frames + 1 ≤ 12 ∧ 8 + (maxL + 11) + rm.locals ≤ 462)
    (hcell : ∃ cell : Cell, H[a]? = some cell ∧ cell.vm.isStatics = false ∧ s.vm.findClass y.cls = some cell.cls)
    (hAl : As.length = n) (hls : ls.size = 8) (hdg : decode code pc = .ok (.invokevirtual idx, 3)) (hcat : (rest.map fun v => v.category).sum ≤ 8) (hp : pot D ≤ pot D1) (hfit : pot D1 ≤ 600)
    (next : ∀ (ad2 : Nat → Nat) (H1 : Heap) (locs1 : List Loc), LH s G ad0 ad2 D1 H1 locs1 → W p l e room_1 s m #[Value.ref b] below meth c H1 locs1 (151 + pot D1) (3562 + 2 * pot D1) Q (F0 m (pc + 3) ls (v :: rest))) :
    W p l e room_1 s m #[Value.ref b] below meth c H locs (151 + pot D) (3562 + 2 * pot D) Q (F0 m pc ls (As.reverse ++ .ref a :: rest)) := by
  obtain ⟨hx, hb, hml, hown, hT, hXs, hbl, hK, hRO0, hL⟩ := hX
  obtain ⟨ha, hP, hD, hS⟩ := hH
  have hA : ∀ q : Nat, s.heap.size ≤ q → AL s q := fun _ h => h
  have hpre := MP_pre (as := .ref a :: As) hP hK hD hS hA (RO.agree ha hRO0)
  have hrun := va_runV (p := p) (l := l) (e := e) (R := room_1) (s := s) (m := m) (args := #[Value.ref b]) (below := below) (meth := meth) (c := c) (H := H) (locs := locs) (cells := 151 + pot D) (slots := 3562 + 2 * pot D) (g := F0 m pc ls (As.reverse ++ .ref a :: rest)) (rest := rest) (own := R_law) (Ts := Tall) (As := As) (n := n) (y := y) (bytes := bytes) (maxL := maxL) (ret := ret) (C := y.cls) (index := idx) ⟨hx, hb, hml, hown, hT⟩ hM (by
      refine cwV n hT ?_ rfl hrm.1 hrm.2 ⟨rfl, hn.1.1, hn.1.2, hn.2⟩ hfr
      intro w hw
      refine goodTall w ?_
      unfold wsV at hw
      simp only [List.cons_append, List.nil_append, List.mem_cons] at hw
      rcases hw with rfl | rfl | rfl | rfl | rfl | hw
      · exact w1
      · exact w2
      · exact w3
      · exact w4
      · exact w5
      · exact hw) ⟨MP_blind, hcell, hpre⟩ rfl hAl hls rfl (lv_room hcat) hdg ⟨by show 151 + pot D + (pot D1 - pot D) ≤ 600000; omega, by show 3562 + 2 * pot D + 2 * (pot D1 - pot D) ≤ 7302250; omega⟩
  refine va_callg (Qx := MX G ad D H.size (some v) D1) (A1 := va_A (wsOf G.2.1 ad D) H.size) hrun hS ?_ ?_ ?_
  · intro q hq h
    rcases h with ⟨k, e2, h⟩ | h
    · exact hD.2 _ _ h
    · omega
  · intro q h
    rcases h with ⟨k, e2, h⟩ | h
    · exact hD.2 _ _ h
    · exact Nat.le_trans hS.1 h
  · intro v2 t H1 locs1 e1 e2 h3 h4 h5 h6
    obtain ⟨ad2, g0, rfl, g1, g2, g3, g4⟩ := h3
    rw [e1] at g1
    have hF : ∀ (k : Nat) (q : Nat × va_E), (wsOf G.2.1 ad2 D1)[k]? = some q → va_A (wsOf G.2.1 ad D) H.size q.1 → AL s q.1 := by
      intro k q _ h
      rcases h with ⟨k, e2, h⟩ | h
      · exact hD.2 _ (q.1, e2) h
      · exact Nat.le_trans hS.1 h
    have hn2 := next ad2 H1 locs1 ⟨agree.tr ha g0, g1, g3.weaken hF, h6⟩
    refine W.cs (cells' := 151 + pot D1) (slots' := 3562 + 2 * pot D1) (by omega) (by omega) ?_
    show W p l e room_1 s m #[Value.ref b] below meth c H1 locs1 (151 + pot D1) (3562 + 2 * pot D1) Q (F0 m (pc + 3) ls (cv ad2 G.2.2 v :: rest))
    rw [hv]
    exact hn2
theorem law_callK (hX : LX p s m c b L xs G ad0) (hH : LH s G ad0 ad D H locs) {k idx o : Nat} {As : List Value} {x : Int32} (hC : Ct 11 k (.ref o :: As) D (Ex (some (.int x)) D1)) (hk : k < mnames) (hst : nS k = 0) (hAs : ∀ ad2, As.map (cv ad2 G.2.2) = As) (ho : o = 0 ∨ o = 171)
    (w1 : Cond.methodLink R_law idx (nY k) ∈ Tall) (w3 : Cond.selects (nY k).cls (nY k) (nY k) ∈ Tall) (hcls : (nY k).cls = if o = 0 then RX6 else RX7) (hAl : As.length = nA k - 1) (hls : ls.size = 8) (hdg : decode code pc = .ok (.invokevirtual idx, 3)) (hcat : (rest.map fun v => v.category).sum ≤ 8) (hp : pot D ≤ pot D1) (hfit : pot D1 ≤ 600)
    (next : ∀ (ad2 : Nat → Nat) (H1 : Heap) (locs1 : List Loc), LH s G ad0 ad2 D1 H1 locs1 → W p l e room_1 s m #[Value.ref b] below meth c H1 locs1 (151 + pot D1) (3562 + 2 * pot D1) Q (F0 m (pc + 3) ls (.int x :: rest))) :
    W p l e room_1 s m #[Value.ref b] below meth c H locs (151 + pot D) (3562 + 2 * pot D) Q (F0 m pc ls (As.reverse ++ .ref (ad0 o) :: rest)) := by
  obtain ⟨m1, m2, m3, m4, m5, m6, m7, m8, m9, m10⟩ := mfact hk
  rw [if_neg (by omega)] at m2 m6
  have e0 : ad o = ad0 o := hH.1 o (by omega) (by omega)
  have hM := snd (l := l) (G := G) 11 k (.ref o :: As) D (some (.int x)) D1 ad H.size hC
  rw [List.map_cons, hAs] at hM
  have hM : Met l (nY k) (wsm k) (rmD (11 - 1) (pot D1 - pot D)) (va_Pc (.ref (ad o) :: As) (MP G ad D H.size)) (MC G ad D H.size (some (.int x)) D1) (pot D1 - pot D) (2 * (pot D1 - pot D)) (va_A (wsOf G.2.1 ad D) H.size) := hM
  rw [e0] at hM
  refine law_call hX hH hM (fun _ => rfl) w1 m2 w3 m1 (codeIn k hk) ⟨m4, m6⟩ ⟨rfl, rfl⟩ ⟨by show 10 + 1 ≤ 12; decide, by show 8 + (nL k + 11) + 380 ≤ 462; omega⟩ ?_ hAl hls hdg hcat hp hfit next
  rw [hcls, ← e0]
  rcases ho with rfl | rfl
  · exact recv6 hX.2.2.2.2.2.2.2.1 hH.2.1
  · exact recv7 hX.2.2.2.2.2.2.2.1 hH.2.1
theorem push_arg {cells slots i j : Nat} {z : Int} (hX : LX p s m c b L xs G ad0) (hS : va_S (AL s) s.heap H locs) (hl : lv_has ls 8 (lwv b i ad0)) (hi : i + j < L) (hz : (Int32.ofInt z) = nI j)
    (d0 : decode code pc = .ok (.aload_n 0, 1)) (d1 : decode code (pc + 1) = .ok (.iload_n 3, 1)) (d2 : decode code (pc + 2) = .ok (.iconst z, 1)) (d3 : decode code (pc + 3) = .ok (.iadd, 1)) (d4 : decode code (pc + 4) = .ok (.iaload, 1))
    (next : W p l e room_1 s m #[Value.ref b] below meth c H locs cells slots Q (F0 m (pc + 5) ls (.int (xs (i + j)) :: rest))) : W p l e room_1 s m #[Value.ref b] below meth c H locs cells slots Q (F0 m pc ls rest) := by
  obtain ⟨hx, hb, hml, hown, hT, hXs, hbl, hK, hRO0, hL⟩ := hX
  refine lv_aload_n hx hb d0 rfl (lv_at hl 0 rfl) ?_
  refine lv_iload_n hx hb d1 rfl (lv_at hl 3 rfl) ?_
  refine lv_iconst hx hb d2 hz ?_
  refine lv_iadd hx hb d3 ?_
  rw [nI_add]
  have e2 : (nI (i + j)).toNatClampNeg = i + j := nI_clamp (by omega)
  refine va_sld hx hb hXs hbl (Nat.not_le.mpr hbl) hS (nI_in hi (by omega)) d4 ?_
  rw [e2]
  exact next
end
