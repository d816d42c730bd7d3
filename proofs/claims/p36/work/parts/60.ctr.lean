/-! the constructors: what they begin from, what they leave -/
theorem zw_kX0_9 : Cond.classLink RX0 9 RX4 ∈ Tall := atT_in (i := 3139) (by decide +kernel)
def i0 : Nat → Int32 := fun _ => 0
def b16 : Nat → Int32 := fun j => if j = LEN then nI 16 else 0
def rmC (d mc ms : Nat) : Room := { frames := d, cells := mc, slots := ms, locals := 40 * d }
def XT (A : Nat → Prop) (U : State) (H : Heap) : Prop :=
  va_Z "java/lang/String" "COMPACT_STRINGS" "Z" (.int 1) A U H ∧ va_AO "CandleStatute$State" U ∧ va_Nw (.methodLinkNest RX4 11 yX5_init RX6) U ∧ va_Nw (.methodLinkNest RX6 32 yX2_init RX6) U ∧ va_Nw (.methodLinkNest RX6 39 yX1_init RX6) U ∧ va_Nw (.methodLinkNest RX6 46 yX3_init RX6) U
theorem XT.same {A : Nat → Prop} {H : Heap} {u U : State} (e : u.vm = U.vm) (h : XT A u H) : XT A U H := by
  have hv : u.vm.Alike U.vm := by rw [e]; exact Vm.Alike.refl _
  exact ⟨h.1.moved hv, h.2.1.moved hv, va_Nw.same rfl e h.2.2.1, va_Nw.same rfl e h.2.2.2.1, va_Nw.same rfl e h.2.2.2.2.1, va_Nw.same rfl e h.2.2.2.2.2⟩
theorem XT.warm {A : Nat → Prop} {H : Heap} {s U : State} (hW : s.WarmedH U.vm) (h : XT A s H) : XT A U H :=
  ⟨h.1.moved hW.alike, h.2.1.moved hW.alike, va_Nw.warmM hW h.2.2.1, va_Nw.warmM hW h.2.2.2.1, va_Nw.warmM hW h.2.2.2.2.1, va_Nw.warmM hW h.2.2.2.2.2⟩
theorem XT.kept {A : Nat → Prop} {U : State} {H H1 : Heap} (hq : ∀ a : Nat, a < H.size → ¬ A a → H1[a]? = H[a]?) (h : XT A U H) : XT A U H1 := ⟨h.1.kept hq, h.2⟩
theorem XT.narrow {A B : Nat → Prop} {U : State} {H : Heap} (hAB : ∀ q, B q → A q) (h : XT A U H) : XT B U H := ⟨h.1.narrow hAB, h.2⟩
def CP (G : Gp) (h0 : Nat) (e : va_E) (sz : Nat) : State → Prop := fun U => U.heap.size = sz ∧ va_P G.1 vwCl [(h0, e)] U.heap ∧ va_K G.1 vwCl (tysA G.2.1) U ∧ va_D (fun _ => True) [(h0, e)] ∧ XT (va_A [(h0, e)] sz) U U.heap
def CX (G : Gp) (h0 : Nat) (e : va_E) (sz : Nat) (out : (Nat → Nat) → va_W) : Option Value → State → Prop := fun v t => v = none ∧ ∃ f : Nat → Nat, f 0 = h0 ∧ va_P G.1 vwCl (out f) t.heap ∧ va_D (va_A [(h0, e)] sz) (out f)
def CQ (G : Gp) (h0 : Nat) (e : va_E) (sz : Nat) (out : (Nat → Nat) → va_W) : Array Value → State → Outcome → State → Prop := fun _ st oc t => (∃ v, oc = .returned v ∧ CX G h0 e sz out v t) ∧ va_F (va_A [(h0, e)] sz) st t
theorem CP_blind {G : Gp} {h0 : Nat} {e : va_E} {sz : Nat} {as : List Value} : FrameBlind (va_Pc as (CP G h0 e sz)) := by
  intro a U g mk h
  obtain ⟨h0, h1, h2, h3, h4, h5⟩ := h
  exact ⟨h0, h1, h2, va_K.moved (u := U) (U := U.calling g mk a) (Vm.Alike.refl U.vm) h3, h4, XT.same (u := U) (U := U.calling g mk a) rfl h5⟩
theorem one_at {q : Nat} {e : va_E} {k : Nat} {x : Nat × va_E} (h : ([(q, e)] : va_W)[k]? = some x) : x = (q, e) ∧ k = 0 := by
  cases k with
  | zero => cases h; exact ⟨rfl, rfl⟩
  | succ k => simp at h
theorem last_at {Wr : va_W} {x : Nat × va_E} : (Wr ++ [x])[Wr.length]? = some x := by simp
theorem CP_pre {G : Gp} {q : Nat} {e : va_E} {A : Nat → Prop} {s : State} {H : Heap} {locs : List Loc} {Wr : va_W} {as : List Value} (hP : va_P G.1 vwCl (Wr ++ [(q, e)]) H) (hK : va_K G.1 vwCl (tysA G.2.1) s) (hD : va_D A (Wr ++ [(q, e)])) (hS : va_S A s.heap H locs) (hA : ∀ x : Nat, s.heap.size ≤ x → A x) (hX : XT A s s.heap) :
    ∀ U : State, U.heap = H → s.WarmedH U.vm → va_Pc as (CP G q e H.size) as.toArray U := by
  intro U hU hW
  refine ⟨rfl, by rw [hU], ?_, va_K.moved hW.alike hK, ⟨?_, fun _ _ _ => trivial⟩, ?_⟩
  · rw [hU]
    intro k x hx
    rw [(one_at hx).1]
    exact hP _ _ last_at
  · intro i j p r hi hj _
    rw [(one_at hi).2, (one_at hj).2]
  · rw [hU]
    refine XT.warm hW (XT.narrow (A := A) ?_ (XT.kept hS.2.1 hX))
    intro x hx
    rcases hx with ⟨k, e2, h⟩ | h
    · have h2 := (one_at h).1
      cases h2
      exact hD.2 _ _ last_at
    · exact hA x (Nat.le_trans hS.1 h)
section
variable {p : Program} {l : Launch} {env : Env} {R : Room} {s : State} {m : MethodId} {args : Array Value} {below : List Frame} {meth : Method} {c : Code} {G : Gp} {H : Heap} {locs : List Loc} {cells slots : Nat} {Q : State → Prop} {pc : Nat} {ls : Array Slot} {rest : List Value} {cc : ByteArray} {A : Nat → Prop} {ws : va_W}
theorem ctor_back {Wr : va_W} {q : Nat} {e : va_E} {out : (Nat → Nat) → va_W} {mc ms : Nat} {st0 : List Value} {As : Array Value} (hP : va_P G.1 vwCl (Wr ++ [(q, e)]) H) (hD : va_D A (Wr ++ [(q, e)])) (hS : va_S A s.heap H locs) (hA : ∀ x : Nat, s.heap.size ≤ x → A x)
    (hrun : va_Run p l env R s m args below meth c H locs cells slots mc ms (F0 m pc ls st0) rest (CQ G q e H.size out As) (va_A [(q, e)] H.size))
    (next : ∀ (f : Nat → Nat) (H1 : Heap) (locs1 : List Loc), f 0 = q → va_P G.1 vwCl (Wr ++ out f) H1 → va_D A (Wr ++ out f) → va_S A s.heap H1 locs1 → W p l env R s m args below meth c H1 locs1 (cells + mc) (slots + ms) Q (F0 m (pc + 3) ls rest)) :
    W p l env R s m args below meth c H locs cells slots Q (F0 m pc ls st0) := by
  have hF : ∀ x, va_A [(q, e)] H.size x → A x := by
    intro x hx
    rcases hx with ⟨k, e2, h⟩ | h
    · have h2 := (one_at h).1
      cases h2
      exact hD.2 _ _ last_at
    · exact hA x (Nat.le_trans hS.1 h)
  refine va_callg (Qx := CX G q e H.size out) (A1 := va_A [(q, e)] H.size) hrun hS (fun x _ h => hF x h) hF ?_
  intro v t H1 locs1 ht hvm hx hz hk hS1
  obtain ⟨rfl, f, hf, hP1, hD1⟩ := hx
  rw [ht] at hP1
  have up : ∀ (k : Nat) (x : Nat × va_E), Wr[k]? = some x → (Wr ++ [(q, e)])[k]? = some x ∧ k < Wr.length := fun k x hx => by
    have hkl : k < Wr.length := (List.getElem?_eq_some_iff.mp hx).1
    exact ⟨by rw [List.getElem?_append_left hkl]; exact hx, hkl⟩
  have apart : ∀ (k : Nat) (x : Nat × va_E), Wr[k]? = some x → x.1 < H.size ∧ ¬ va_A [(q, e)] H.size x.1 := by
    intro k x hx
    obtain ⟨h2, hkl⟩ := up k x hx
    have hl := (hP k x h2).lt
    refine ⟨hl, fun h => ?_⟩
    rcases h with ⟨k2, e2, h⟩ | h
    · have h3 := (one_at h).1
      have hx1 : x.1 = q := congrArg Prod.fst h3
      have h4 := hD.1 k Wr.length x (q, e) h2 last_at hx1
      omega
    · omega
  have hD2 : va_D A Wr := ⟨fun i j a b hi hj h => hD.1 i j a b (up i a hi).1 (up j b hj).1 h, fun k x hx => hD.2 k x (up k x hx).1⟩
  exact next f H1 locs1 hf (va_P.app (fun k x hx => (hP k x (up k x hx).1).kept (hk x.1 (apart k x hx).1 (apart k x hx).2)) hP1)
    (va_D.app hD2 (hD1.weaken (fun k x _ h => hF x.1 h)) (fun i j x y hx hy hxy => (apart i x hx).2 (by rw [hxy]; exact hD1.2 j y hy))) hS1
theorem new_int (hx : p.tables.exec = Jvm.exec) (hb : c.code = cc) (htT : ∀ w ∈ Tall, w.before args s = true) (hK : va_K G.1 vwCl (tysA G.2.1) s) (hP : va_P G.1 vwCl ws H) (hD : va_D A ws) (hS : va_S A s.heap H locs) (hA : ∀ x : Nat, s.heap.size ≤ x → A x) {n : Nat} (hn : n ≤ 2000) (hcells : cells + 1 ≤ R.cells) (hslots : slots + n ≤ R.slots) (hdg : decode cc pc = .ok (.newarray .int, 2))
    (kk : ∀ (q : Nat) (H1 : Heap), va_P G.1 vwCl (ws ++ [(q, .inl (G.2.1 0, n, .inl i0))]) H1 → va_D A (ws ++ [(q, .inl (G.2.1 0, n, .inl i0))]) → va_S A s.heap H1 locs → W p l env R s m args below meth c H1 locs (cells + 1) (slots + n) Q (F0 m (pc + 2) ls (.ref q :: rest))) :
    W p l env R s m args below meth c H locs cells slots Q (F0 m pc ls (.int (nI n) :: rest)) := by
  refine va_newa (atype := .int) (ty := .int) (N' := n) (a0 := (n, .inl i0)) hx hb (htT _ zw_a_int) rfl hK hP hD hS hA (fun cA => rfl) (nI_pos (by omega)) (nI_clamp (by omega)) (by show n * 4 ≤ _; omega) hcells hslots hdg ?_
  intro q cA H1 hK1 hP1 hD1 hS1
  have k1 : s.vm.findClass ("[" ++ FieldType.int.toString) = some cA := (hK1.2 4 (cA, .int) rfl).2
  have k2 : s.vm.findClass ("[" ++ FieldType.int.toString) = some (G.2.1 0) := (hK.2 0 (G.2.1 0, .int) rfl).2
  have e9 : cA = G.2.1 0 := Option.some.inj (k1.symm.trans k2)
  subst e9
  exact kk q H1 hP1 hD1 hS1
theorem new_bool (hx : p.tables.exec = Jvm.exec) (hb : c.code = cc) (htT : ∀ w ∈ Tall, w.before args s = true) (hK : va_K G.1 vwCl (tysA G.2.1) s) (hP : va_P G.1 vwCl ws H) (hD : va_D A ws) (hS : va_S A s.heap H locs) (hA : ∀ x : Nat, s.heap.size ≤ x → A x) {n : Nat} (hn : n ≤ 2000) (hcells : cells + 1 ≤ R.cells) (hslots : slots + n ≤ R.slots) (hdg : decode cc pc = .ok (.newarray .boolean, 2))
    (kk : ∀ (q : Nat) (H1 : Heap), va_P G.1 vwCl (ws ++ [(q, .inl (G.2.1 1, n, .inl i0))]) H1 → va_D A (ws ++ [(q, .inl (G.2.1 1, n, .inl i0))]) → va_S A s.heap H1 locs → W p l env R s m args below meth c H1 locs (cells + 1) (slots + n) Q (F0 m (pc + 2) ls (.ref q :: rest))) :
    W p l env R s m args below meth c H locs cells slots Q (F0 m pc ls (.int (nI n) :: rest)) := by
  refine va_newa (atype := .boolean) (ty := .boolean) (N' := n) (a0 := (n, .inl i0)) hx hb (htT _ zw_a_boolean) rfl hK hP hD hS hA (fun cA => rfl) (nI_pos (by omega)) (nI_clamp (by omega)) (by show n * 1 ≤ _; omega) hcells hslots hdg ?_
  intro q cA H1 hK1 hP1 hD1 hS1
  have k1 : s.vm.findClass ("[" ++ FieldType.boolean.toString) = some cA := (hK1.2 4 (cA, .boolean) rfl).2
  have k2 : s.vm.findClass ("[" ++ FieldType.boolean.toString) = some (G.2.1 1) := (hK.2 1 (G.2.1 1, .boolean) rfl).2
  have e9 : cA = G.2.1 1 := Option.some.inj (k1.symm.trans k2)
  subst e9
  exact kk q H1 hP1 hD1 hS1
theorem new_b16 (hx : p.tables.exec = Jvm.exec) (hb : c.code = cc) (htT : ∀ w ∈ Tall, w.before args s = true) (hK : va_K G.1 vwCl (tysA G.2.1) s) (hP : va_P G.1 vwCl ws H) (hD : va_D A ws) (hS : va_S A s.heap H locs) (hA : ∀ x : Nat, s.heap.size ≤ x → A x) (hcells : cells + 1 ≤ R.cells) (hslots : slots + 16 ≤ R.slots) (hdg : decode cc pc = .ok (.newarray .byte, 2))
    (kk : ∀ (q : Nat) (H1 : Heap), va_P G.1 vwCl (ws ++ [(q, .inl (G.2.1 2, 16, .inl b16))]) H1 → va_D A (ws ++ [(q, .inl (G.2.1 2, 16, .inl b16))]) → va_S A s.heap H1 locs → W p l env R s m args below meth c H1 locs (cells + 1) (slots + 16) Q (F0 m (pc + 2) ls (.ref q :: rest))) :
    W p l env R s m args below meth c H locs cells slots Q (F0 m pc ls (.int (nI 16) :: rest)) := by
  have hq : ∀ cA : ClassId, vp_cell cA (16, .inl b16) = arrV cA 16 (fun _ => defaultValue .byte) := by
    intro cA
    show arrV cA 16 (fun j => .int (b16 j)) = arrV cA 16 (fun _ => .int 0)
    unfold arrV
    congr 2
    funext j
    have h : b16 j.val = 0 := if_neg (by unfold LEN; omega)
    show Value.int (b16 j.val) = .int 0
    rw [h]
  refine va_newa (atype := .byte) (ty := .byte) (N' := 16) (a0 := (16, .inl b16)) hx hb (htT _ zw_a_byte) rfl hK hP hD hS hA hq (nI_pos (by omega)) (nI_clamp (by omega)) (Nat.le_of_ble_eq_true rfl) hcells hslots hdg ?_
  intro q cA H1 hK1 hP1 hD1 hS1
  have k1 : s.vm.findClass ("[" ++ FieldType.byte.toString) = some cA := (hK1.2 4 (cA, .byte) rfl).2
  have k2 : s.vm.findClass ("[" ++ FieldType.byte.toString) = some (G.2.1 2) := (hK.2 2 (G.2.1 2, .byte) rfl).2
  have e9 : cA = G.2.1 2 := Option.some.inj (k1.symm.trans k2)
  subst e9
  exact kk q H1 hP1 hD1 hS1
theorem new_rows (hx : p.tables.exec = Jvm.exec) (hb : c.code = cc) (htT : ∀ w ∈ Tall, w.before args s = true) (hown : s.vm.findClass RX0 = some m.cls) (hAO : va_AO "CandleStatute$State" s) (hK : va_K G.1 vwCl (tysA G.2.1) s) (hP : va_P G.1 vwCl ws H) (hD : va_D A ws) (hS : va_S A s.heap H locs) (hA : ∀ x : Nat, s.heap.size ≤ x → A x) {n : Nat} (hn : n ≤ 2000) (hcells : cells + 1 ≤ R.cells) (hslots : slots + n ≤ R.slots) (hdg : decode cc pc = .ok (.anewarray 9, 3))
    (kk : ∀ (q : Nat) (H1 : Heap), va_P G.1 vwCl (ws ++ [(q, .inl (G.2.1 3, n, .inr (.inr (.inr (.inr (fun j => ([] : List Nat)[j]?))))))]) H1 → va_D A (ws ++ [(q, .inl (G.2.1 3, n, .inr (.inr (.inr (.inr (fun j => ([] : List Nat)[j]?))))))]) → va_S A s.heap H1 locs → W p l env R s m args below meth c H1 locs (cells + 1) (slots + n) Q (F0 m (pc + 3) ls (.ref q :: rest))) :
    W p l env R s m args below meth c H locs cells slots Q (F0 m pc ls (.int (nI n) :: rest)) := by
  refine va_newq (C := "CandleStatute$State") (N' := n) hx hb hown (htT _ zw_kX0_9) hAO hK hP hD hS hA (nI_pos (by omega)) (nI_clamp (by omega)) (by omega) hcells hslots hdg ?_
  intro q cA H1 hK1 hP1 hD1 hS1
  obtain ⟨_, _, _, _, _, k1⟩ := (hK1.2 4 (cA, .object "CandleStatute$State") rfl).2
  obtain ⟨_, _, _, _, _, k2⟩ := (hK.2 3 (G.2.1 3, .object "CandleStatute$State") rfl).2
  have e9 : cA = G.2.1 3 := Option.some.inj (k1.symm.trans k2)
  subst e9
  have e8 : (fun _ => none : Nat → Option Nat) = fun j => ([] : List Nat)[j]? := by funext j; simp
  rw [e8] at hP1 hD1
  exact kk q H1 hP1 hD1 hS1
theorem put_row (hx : p.tables.exec = Jvm.exec) (hb : c.code = cc) (hK : va_K G.1 vwCl (tysA G.2.1) s) (hP : va_P G.1 vwCl ws H) (hD : va_D A ws) (hS : va_S A s.heap H locs) (q0 qk : Nat) {a n v : Nat} {L : List Nat} {vs : List Value} (ha : ws[q0]? = some (a, .inl (G.2.1 3, n, .inr (.inr (.inr (.inr (fun j => L[j]?))))))) (hv : ws[qk]? = some (v, .inr (5, vs))) (hk : L.length < n) (hn : n ≤ 2000) (hdg : decode cc pc = .ok (.aastore, 1))
    (kk : ∀ (H1 : Heap) (locs1 : List Loc), va_P G.1 vwCl (ws.set q0 (a, .inl (G.2.1 3, n, .inr (.inr (.inr (.inr (fun j => (L ++ [v])[j]?))))))) H1 → va_D A (ws.set q0 (a, .inl (G.2.1 3, n, .inr (.inr (.inr (.inr (fun j => (L ++ [v])[j]?))))))) → va_S A s.heap H1 locs1 → W p l env R s m args below meth c H1 locs1 cells slots Q (F0 m (pc + 1) ls rest)) :
    W p l env R s m args below meth c H locs cells slots Q (F0 m pc ls (.ref v :: .int (nI L.length) :: .ref a :: rest)) := by
  have e := nI_clamp (n := L.length) (by omega)
  have e2 : va_up (fun j => L[j]?) L.length (some v) = fun j => (L ++ [v])[j]? := by
    funext j
    unfold va_up
    by_cases h : j = L.length
    · rw [if_pos h, h]; simp
    · rw [if_neg h]
      rcases Nat.lt_or_ge j L.length with h2 | h2
      · show L[j]? = (L ++ [v])[j]?
        rw [List.getElem?_append_left h2]
      · show L[j]? = (L ++ [v])[j]?
        rw [List.getElem?_eq_none h2, List.getElem?_eq_none (by simp; omega)]
  refine va_astq hx hb hK hP hD hS q0 3 qk 5 (r := (RX4, TX4, 11)) ha rfl hv rfl (nI_in hk (by omega)) hdg ?_
  rw [e, e2]
  exact kk
theorem put_int (hx : p.tables.exec = Jvm.exec) (hb : c.code = cc) (hK : va_K G.1 vwCl (tysA G.2.1) s) (hP : va_P G.1 vwCl ws H) (hD : va_D A ws) (hS : va_S A s.heap H locs) (q0 : Nat) {a n k : Nat} {f : Nat → Int32} {x : Int32} (ha : ws[q0]? = some (a, .inl (G.2.1 0, n, .inl f))) (hk : k < n) (hn : n ≤ 2000) (hdg : decode cc pc = .ok (.iastore, 1))
    (kk : ∀ (H1 : Heap) (locs1 : List Loc), va_P G.1 vwCl (ws.set q0 (a, .inl (G.2.1 0, n, .inl (upd f k x)))) H1 → va_D A (ws.set q0 (a, .inl (G.2.1 0, n, .inl (upd f k x)))) → va_S A s.heap H1 locs1 → W p l env R s m args below meth c H1 locs1 cells slots Q (F0 m (pc + 1) ls rest)) :
    W p l env R s m args below meth c H locs cells slots Q (F0 m pc ls (.int x :: .int (nI k) :: .ref a :: rest)) := by
  have e := nI_clamp (n := k) (by omega)
  refine va_iast hx hb hK hP hD hS q0 0 ha rfl (nI_in hk (by omega)) hdg ?_
  rw [e]
  exact kk
theorem put_bool (hx : p.tables.exec = Jvm.exec) (hb : c.code = cc) (hK : va_K G.1 vwCl (tysA G.2.1) s) (hP : va_P G.1 vwCl ws H) (hD : va_D A ws) (hS : va_S A s.heap H locs) (q0 : Nat) {a n k : Nat} {f : Nat → Int32} (ha : ws[q0]? = some (a, .inl (G.2.1 1, n, .inl f))) (hk : k < n) (hn : n ≤ 2000) (hdg : decode cc pc = .ok (.bastore, 1))
    (kk : ∀ (H1 : Heap) (locs1 : List Loc), va_P G.1 vwCl (ws.set q0 (a, .inl (G.2.1 1, n, .inl (upd f k (nI 1))))) H1 → va_D A (ws.set q0 (a, .inl (G.2.1 1, n, .inl (upd f k (nI 1))))) → va_S A s.heap H1 locs1 → W p l env R s m args below meth c H1 locs1 cells slots Q (F0 m (pc + 1) ls rest)) :
    W p l env R s m args below meth c H locs cells slots Q (F0 m pc ls (.int (nI 1) :: .int (nI k) :: .ref a :: rest)) := by
  have e := nI_clamp (n := k) (by omega)
  have e2 : vp_nar .boolean (nI 1) = nI 1 := by decide +kernel
  refine va_zast hx hb hK hP hD hS q0 1 ha rfl (nI_in hk (by omega)) hdg ?_
  rw [e, e2]
  exact kk
end
