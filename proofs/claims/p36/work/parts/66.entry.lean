/-! THE CLAIM OUT OF ONE WALK OF THE LAW'S BODY. Your part is whole_start (and what it stands on); all else here is the same for every law, but numbers. -/
def R_law : String := "CandleStatuteLaw"
def lw_P (b : Addr) (xs : List Int32) (args : Array Value) (s : State) : Prop := args = #[.ref b] ∧ s.IntsAt b xs ∧ xs.length ≤ 260 ∧ (Jvm.Cond.and given_1 narrow_1).before args s = true
/-- what a walk over the start with the record d0 says of its end, said of the start itself -/
theorem lw_closed {s t : State} {o : Outcome} {d0 : Drawn} {L : List Loc} {k n : Nat} (hd0 : s.drawn.sameBut d0 lw_cs) (hv : ∃ v, o = .returned v) (hW : (s.setDrawn d0).WarmedH t.vm) (hs : (s.setDrawn d0).sameButNew ({ t with vm := s.vm } : State) L k n) : State.butDraws s t lw_cs (fun t1 => Framed s o t1 L k n) := by
  have h2 : t.drawn = d0 := congrArg State.drawn hs.1
  refine ⟨⟨hv, hW, State.sameButNew.setDrawn hs s.drawn⟩, ?_, by decide⟩
  rw [h2]
  exact hd0
def lw_Q (_ : Array Value) (s : State) (o : Outcome) (t : State) : Prop := o = .returned (some (.int 1)) ∧ State.butDraws s t lw_cs (fun t1 => Framed s o t1 [] 600000 7302250)
def lw_Z (below : List Frame) (a : Array Value) (s : State) : State → Prop := fun t => ∃ o, t.status = .running ∧ Ended t below o ∧ lw_Q a s o t
/-- the law's own end, with 1 on the stack, nothing written that was there before, its room as the claim has it; d0: the record of draws at this point (at the entry s.drawn: begin with 'refine W.base ?_' and 'have hd0 := Drawn.sameBut.refl s.drawn lw_cs') -/
theorem lw_ret {p : Program} {l : Launch} {e : Env} {s : State} {m : MethodId} {below : List Frame} {meth : Method} {c : Code} {b : Nat} {d0 : Drawn} (hd0 : s.drawn.sameBut d0 lw_cs) (hx : p.tables.exec = Jvm.exec) (hb : c.code = code) (hr : meth.sig.returnType = ret) (hlocks : meth.locks = false) {pc : Nat} {H : Heap} {ls : Array Slot} (hdg : decode code pc = .ok (.ireturn, 1)) : W p l e room_1 (s.setDrawn d0) m #[Value.ref b] below meth c H [] 600000 7302250 (lw_Z below #[Value.ref b] s) (F0 m pc ls [.int 1]) := by
  intro T hT X
  obtain ⟨fs, hret, hrun, hended, hW, hframe⟩ := X.leave (v := some (.int 1)) (hlocks := hlocks) (fun h => by rw [hr] at h; cases h)
  have hmeth' : T.vm.method? m = some meth := X.method'
  refine ⟨T.setFrames fs, ?_, .returned (some (.int 1)), hrun, hended, rfl, lw_closed hd0 ⟨_, rfl⟩ hW hframe⟩
  jvm_step X.here [X.here.top, hx, hb, hdg, hmeth', hr, ret, narrow_b1]
  (try refine ⟨rfl, ?_⟩); (try refine ⟨rfl, ?_⟩)
  first | (intro acts; rw [hret _ acts rfl rfl rfl]) | rw [hret _ _ rfl rfl rfl]
  exact Steps.refl _
/-- what holds at the law's entry: the machine, the code, the tables' words (any of lw_tbl by 'hts w (by decide +kernel)'), the script of L ints xs at the cell b, what the Statement gives of the start (any of its parts by flat_of_before) -/
def lw_At (p : Program) (s : State) (m : MethodId) (meth : Method) (c : Code) (b L : Nat) (xs : Nat → Int32) : Prop :=
  p.tables.exec = Jvm.exec ∧ c.code = code ∧ meth.sig.returnType = ret ∧ c.maxLocals = 10 ∧ s.vm.findClass R_law = some m.cls ∧ (∀ w ∈ lw_tbl, w.before #[Value.ref b] s = true) ∧ va_X b L xs s s.heap ∧ b < s.heap.size ∧ meth.locks = false ∧ (Jvm.Cond.and given_1 narrow_1).before #[Value.ref b] s = true

/-! the entry: from the law's first instruction to the abstract machine -/
abbrev AL (s : State) : Nat → Prop := fun q => s.heap.size ≤ q
theorem zs_c6 : Cond.classLink R_law 18 RX6 ∈ Tall := atT_in (i := 3021) (by decide +kernel)
theorem zs_m6 : Cond.instantiable RX6 9 ∈ Tall := atT_in (i := 3022) (by decide +kernel)
theorem zs_n6 : Cond.initialized RX6 ∈ Tall := atT_in (i := 3001) (by decide +kernel)
theorem zs_l6 : Cond.methodLink R_law 192 yX6_init ∈ Tall := atT_in (i := 3023) (by decide +kernel)
theorem zs_i6 : Cond.instanceMethod yX6_init ∈ Tall := atT_in (i := 3024) (by decide +kernel)
theorem zs_k6 : Cond.code yX6_init cX6_init 1 none ∈ Tall := atT_in (i := 3025) (by decide +kernel)
theorem zl_0 : decode code 0 = .ok (.new 18, 3) := by decide +kernel
theorem zl_3 : decode code 3 = .ok (.dup, 1) := by decide +kernel
theorem zl_4 : decode code 4 = .ok (.invokespecial 192, 3) := by decide +kernel
theorem good_t {w1 : Cond} (h : w1 ∈ Tall) : GoodIn Tall (w1 :: Tall) := fun w hw => by
  rcases List.mem_cons.mp hw with e | h2
  · rw [e]; exact ⟨h, (goodTall _ h).2⟩
  · exact ⟨h2, (goodTall _ h2).2⟩
def lawQ (r : Option Value) (D : Mm) : Prop := r = some (.int 1) ∧ pot D ≤ 500000
def lawL : List Value := [.ref 4000] ++ List.replicate 9 (.retAddr 0)
/-- what the abstract machine has to show of the law -/
def LawRuns : Prop := ∀ (scr : Nat → Int32) (L : Nat), L ≤ 260 → WP (Ct 14) 218 lawQ 7 lawL [.ref 0] (D0 scr L)
def Dbig : Mm := fun c j => if c = 4500 ∧ j = 1 then nI 500000 else 0
theorem pot_big : pot Dbig = 500000 := by decide +kernel
theorem law_k : nB 218 = code ∧ nR 218 = some .boolean ∧ nL 218 = 10 ∧ cN (nO 218) = R_law ∧ (nY 218).name ≠ "<init>" := by
  refine ⟨rfl, rfl, rfl, rfl, by decide +kernel⟩
set_option maxHeartbeats 4000000 in
set_option maxRecDepth 100000 in
theorem law_start (hLaw : LawRuns) {p : Program} {e : Env} {s : State} {m : MethodId} {below : List Frame} {meth : Method} {c : Code} (l : Launch) {b L : Nat} {xs : Nat → Int32} (hL : L ≤ 260) (C0 : lw_At p s m meth c b L xs) : W p l e room_1 s m #[Value.ref b] below meth c s.heap [] 0 0 (lw_Z below #[Value.ref b] s) (entryFrame m ([Value.ref b] : List Value).toArray 10) := by
  obtain ⟨hx, hb, hr, hml, hown, hts, hXs, hbl, hlocks, hgv⟩ := C0
  have hAn : ∀ a : Nat, a < s.heap.size → ¬ AL s a := fun a h => Nat.not_le.mpr h
  have hT := law_T hts
  obtain ⟨g, cA, hK⟩ := law_K hts
  obtain ⟨adS, fv, hRO⟩ := law_RO (A := AL s) hts hgv hAn
  have hXT := law_XT (A := AL s) hts hgv hAn
  have hCst := law_Cst hts
  obtain ⟨G, hG⟩ : ∃ G : Gp, G = (g, cA, fv) := ⟨_, rfl⟩
  have hK : va_K G.1 vwCl (tysA G.2.1) s := by rw [hG]; exact hK
  have hRO : RO adS G.2.2 (AL s) s s.heap := by rw [hG]; exact hRO
  have hfc : G.2.2.category = 1 := hRO.2.2.2.2.2.2.2.2
  have hA : ∀ q : Nat, s.heap.size ≤ q → AL s q := fun _ h => h
  have hS : va_S (AL s) s.heap s.heap [] := va_S.rf
  have hP : va_P G.1 vwCl [] s.heap := fun k q h => by simp at h
  have hD : va_D (AL s) [] := ⟨fun i j p q h => by simp at h, fun k q h => by simp at h⟩
  have hLK := LOK.entry (ad := fun _ => b) hfc (args := [.ref 4000]) (n := 10) rfl (Nat.le_of_ble_eq_true rfl)
  have hLK : LOK (fun _ => b) G.2.2 10 (lg_sl [Value.ref b] ++ List.replicate (10 - (lg_sl [Value.ref b]).length) Slot.unset).toArray lawL := hLK
  have hl := lv_entry [.ref b] (n := 10) (Nat.le_of_ble_eq_true rfl)
  rw [lg_entry_eq]
  generalize (lg_sl [Value.ref b] ++ List.replicate (10 - (lg_sl [Value.ref b]).length) Slot.unset).toArray = ls at hl hLK ⊢
  have hl : lv_has ls 10 [(0, .ref b)] := hl
  refine va_new (ci := 7) (fs := [.null, .null, .int 0, .null, .null, .null, .null, .null, .null]) (C := RX6) (T := TX6) (N := 9) hx hb hT uin_X6 tyX6 tyX6_ok hown (hT _ zs_c6) (hT _ zs_m6) (hT _ zs_n6) hK hP hD hS hA rfl (by decide +kernel) (Nat.le_of_ble_eq_true rfl) (Nat.le_of_ble_eq_true rfl) zl_0 (fun q0 H hP hD hS => ?_)
  refine lv_dup hx hb zl_3 rfl ?_
  refine W.cs (cells' := 1) (slots' := 9) (by omega) (by omega) ?_
  refine ctor_back (Wr := []) (mc := 172) (ms := 1868) hP hD hS hA (va_runI (As := []) (rest := [.ref q0]) ⟨hx, hb, hml, hown, hT⟩ ctr_X6 (cwI 0 hT (good_t zs_k6) rfl rfl rfl (hT _ zs_n6) (hT _ zs_l6) (hT _ zs_i6) rfl ⟨by decide, by decide, by decide +kernel⟩ ⟨Nat.le_of_ble_eq_true rfl, Nat.le_of_ble_eq_true rfl⟩) ⟨CP_blind, CP_pre (Wr := []) hP hK hD hS hA hXT⟩ rfl rfl hl.1 rfl (lv_room (Nat.le_of_ble_eq_true rfl)) zl_4 ⟨Nat.le_of_ble_eq_true rfl, Nat.le_of_ble_eq_true rfl⟩) (fun f1 H locs ef1 hP hD hS => ?_)
  have hP : va_P G.1 vwCl (x6W G.2.1 f1) H := hP
  have hD : va_D (AL s) (x6W G.2.1 f1) := hD
  refine W.cs (cells' := 173) (slots' := 1877) (by omega) (by omega) ?_
  obtain ⟨ad0, ha0⟩ : ∃ ad0 : Nat → Nat, ad0 = fun k => if k < 1000 then f1 k else if k = 4000 then b else adS k := ⟨_, rfl⟩
  have a1 : ∀ k, k < 171 ∨ k = 181 ∨ k = 182 → f1 k = ad0 k := fun k h => by
    rw [ha0]
    show _ = if k < 1000 then f1 k else if k = 4000 then b else adS k
    rw [if_pos (by omega)]
  have a4 : ad0 4000 = b := by rw [ha0]; rfl
  have hRO2 : RO ad0 G.2.2 (AL s) s s.heap := by
    have h3 : RO (fun k => if k = 4000 then adS k else ad0 k) G.2.2 (AL s) s s.heap := RO_hi (ad := adS) (fun k hk => by
      show (if k = 4000 then adS k else ad0 k) = adS k
      by_cases h : k = 4000
      · rw [if_pos h]
      · rw [if_neg h, ha0]
        show (if k < 1000 then f1 k else if k = 4000 then b else adS k) = _
        rw [if_neg (by omega), if_neg h]) hRO
    have e1 : (fun i => (fun k => if k = 4000 then adS k else ad0 k) (3000 + i)) 0 = ad0 3000 := if_neg (by decide)
    unfold RO at h3 ⊢
    refine ⟨⟨fun i hi => ?_, fun i j hi hj e => h3.1.2 i j hi hj ?_⟩, h3.2.1, h3.2.2.1, h3.2.2.2.1, h3.2.2.2.2.1, h3.2.2.2.2.2.1, h3.2.2.2.2.2.2.1, fun c hc q hq => ?_, h3.2.2.2.2.2.2.2.2⟩
    · have h9 := h3.1.1 i hi
      dsimp only at h9 ⊢
      rw [if_neg (by omega), if_neg (by omega)] at h9
      exact h9
    · dsimp only at e ⊢
      rw [if_neg (by omega), if_neg (by omega)]
      exact e
    · have h9 := h3.2.2.2.2.2.2.2.1 c hc q hq
      have hm := lmp_lt hc
      dsimp only at h9
      rw [if_neg (by omega)] at h9
      exact h9
  have e0 : ad0 0 = q0 := (a1 0 (by decide)).symm.trans ef1
  have eW : x6W G.2.1 f1 = frag G.2.1 ad0 L6 := by rw [← x6_frag, x6_cg a1]
  rw [eW] at hP hD
  obtain ⟨hP0, hD0⟩ := ws_start (scr := xs) (L := L) hP hD
  have hSX : SX ad0 (D0 xs L 4000) (AL s) s s.heap := by
    refine ⟨?_, by rw [a4]; exact hbl, by rw [a4]; exact hAn b hbl, hCst⟩
    rw [a4, D0_len, nI_clamp (by omega)]
    obtain ⟨sc, x1, x2, x3, x4, x5⟩ := hXs
    exact ⟨sc, x1, x2, x3, x4, fun j hj => by rw [D0_scr (by unfold LEN; omega)]; exact x5 j hj⟩
  have hLK2 : LOK ad0 G.2.2 10 ls lawL := ⟨hLK.1, hLK.2.1, hLK.2.2.1, fun i v hi h1 h2 h3 => by
    obtain ⟨z1, z2⟩ := hLK.2.2.2 i v hi h1 h2 h3
    refine ⟨z1, z2.trans ?_⟩
    have hv : v = .ref 4000 ∨ v = .retAddr 0 := by
      have hm := List.mem_of_getElem? hi
      unfold lawL at hm
      rcases List.mem_append.mp hm with q | q
      · exact Or.inl (List.mem_singleton.mp q)
      · exact Or.inr (List.eq_of_mem_replicate q)
    rcases hv with rfl | rfl
    · show some (Slot.val (.ref b)) = some (.val (.ref (ad0 4000)))
      rw [a4]
    · exact absurd rfl h1⟩
  have hWF : WFD (D0 xs L) := ⟨by rw [D0_nxt]; decide, fun o ho => by
    have := ho.2
    rw [D0_nxt] at this
    have := ho.1
    omega⟩
  have pB : pot Dbig - pot (D0 xs L) = 499968 := by rw [pot_big, pot_start]
  have hps := hLaw xs L hL (PS p l e room_1 173 1877 s m #[Value.ref b] below meth c G 218 (AL s) ad0 (D0 xs L) (lw_Z below #[Value.ref b] s) Dbig) (fun pc ls st D2 hst =>
    snd_step (snd 14) (Ct_pos 14) ⟨Nat.le_of_ble_eq_true rfl, Nat.le_of_ble_eq_true rfl, by rw [pB]; exact Nat.le_of_ble_eq_true rfl, by rw [pB]; exact Nat.le_of_ble_eq_true rfl⟩ hA (by decide) hx (by rw [hb]; exact law_k.1.symm) (by rw [hml]; exact law_k.2.2.1.symm) (by rw [law_k.2.2.2.1]; exact hown) hT hK hRO2 hSX (fun h9 => absurd h9 law_k.2.2.2.2)
      (Qr := lawQ) (fun pc ls st D i a b2 cc dd h1 h2 h3 => by
        unfold Step at h3
        rw [h1] at h3
        rcases h2 with rfl | rfl | rfl | rfl | rfl
        · match st, h3 with
          | [.int v], ⟨_, hv, hp⟩ =>
            cases hv
            refine ⟨by rw [pot_big]; exact hp, fun H locs ad lsA _ _ _ hS _ hle _ _ => ?_⟩
            refine va_forget (fun q hq => hS.2.2 q hq) ?_
            have hle2 := hle.1
            rw [pot_start] at hle2 ⊢
            refine W.widen (k := 600000) (n := 7302250) (by omega) (by omega) ?_
            have hd := ins_d (k := 218) (by decide) h1 rfl
            rw [law_k.1] at hd
            exact W.base (lw_ret (Drawn.sameBut.refl s.drawn lw_cs) hx hb hr hlocks hd)
        · match st, h3 with
          | [.ref v], ⟨_, hv, _⟩ => unfold retA at hv; rw [law_k.2.1] at hv; exact hv.elim
        · have := h3.1; rw [law_k.2.1] at this; cases this
        · match st, h3 with
          | [.double v], ⟨hv, _⟩ => rw [law_k.2.1] at hv; cases hv
        · match st, h3 with
          | [.float v], ⟨hv, _⟩ => rw [law_k.2.1] at hv; cases hv) pc ls st D2 hst)
  have h9 := hps.2 H locs ad0 ls agree.rf hP0 hD0 hS hLK2 leD.rf (fun _ => rfl) hWF
  rw [Nat.sub_self] at h9
  have h10 : W p l e room_1 s m #[Value.ref b] below meth c H locs 173 1877 (lw_Z below #[Value.ref b] s) (F0 m 7 ls [.ref (ad0 0)]) := h9
  rw [e0] at h10
  exact h10
