/-! cells that are made on the way: text builders and texts -/
theorem DBv : DB = 5000 := rfl
theorem LENv : LEN = 1000000 := rfl
theorem KNDv : KND = 1000001 := rfl
theorem dyn_fr {D D2 : Mm} {o k : Nat} (h : dyn D o k) (hn : nxt D ≤ nxt D2) (hr : D2 o = D o) : dyn D2 o k := ⟨dv_le h.1 hn, by unfold kd; rw [hr]; exact h.2⟩
theorem dyn_mup {D : Mm} {o k c j : Nat} {x : Int32} (h : dyn D o k) (hc : c ≠ 4500) (hj : c ≠ o ∨ j ≠ KND) : dyn (mup D c j x) o k := by
  refine ⟨⟨h.1.1, by rw [nxt_mup hc]; exact h.1.2⟩, ?_⟩
  have e : mup D c j x o KND = D o KND := by
    rcases hj with q | q
    · exact mupC (fun e => q e.symm)
    · exact mupJ (fun e => q e.symm)
  unfold kd
  rw [e]; exact h.2
theorem dyn_ge {D : Mm} {o k : Nat} (h : dyn D o k) : 5000 ≤ o ∧ o < 5000 + nxt D := h.1
theorem dyn_al {D : Mm} {f : Nat → Int32} {n o k : Nat} (h : dyn D o k) (hf : fitU D n) : dyn (alD D f n) o k := by
  have hg := dyn_ge h
  exact dyn_fr h (by rw [al_nxt hf]; omega) (al_old (by unfold DB; omega) (by omega))
theorem dyn_new {D : Mm} {f : Nat → Int32} {n k : Nat} (hf : fitU D n) (hk : (f KND).toNatClampNeg = k) : dyn (alD D f n) (DB + nxt D) k :=
  ⟨⟨by unfold DB; omega, by rw [al_nxt hf]; omega⟩, by unfold kd; rw [al_new]; exact hk⟩
theorem rwA_k {k n : Nat} : rwA k n KND = nI k := if_pos rfl
theorem rwA_l {k n : Nat} : rwA k n LEN = nI n := by
  unfold rwA; rw [if_neg (by decide), if_pos rfl]
theorem rwA_0 {k n j : Nat} (h : j < LEN) : rwA k n j = 0 := by
  have h1 := LENv; have h2 := KNDv
  unfold rwA; rw [if_neg (by omega), if_neg (by omega)]
theorem rwO_k {b : Nat} : rwO b KND = nI b := if_pos rfl
theorem cap_al {D : Mm} {f : Nat → Int32} {n o : Nat} (h : o ≠ DB + nxt D) (h2 : o ≠ 4500) : cap (alD D f n) o = cap D o := by unfold cap; rw [al_old h h2]
theorem cap_new {D : Mm} {k n : Nat} (h : n < 2147483648) : cap (alD D (rwA k n) n) (DB + nxt D) = n := by
  unfold cap; rw [al_new, rwA_l]; exact nI_clamp h
theorem cp_in {D : Mm} {src dst sp dp n j : Nat} (h1 : dp ≤ j) (h2 : j < dp + n) : cpD D src dst sp dp n dst j = csD D src (sp + (j - dp)) := by
  unfold cpD va_cpy; rw [if_pos rfl, if_pos ⟨h1, h2⟩]
theorem cp_out {D : Mm} {src dst sp dp n j : Nat} (h : j < dp ∨ dp + n ≤ j) : cpD D src dst sp dp n dst j = D dst j := by
  unfold cpD va_cpy; rw [if_pos rfl, if_neg (by omega)]
theorem cap_cp {D : Mm} {src dst sp dp n o : Nat} (h : dp + n ≤ 1000000) : cap (cpD D src dst sp dp n) o = cap D o := by
  have h1 := LENv
  unfold cap
  by_cases e : o = dst
  · subst e; rw [cp_out (by omega)]
  · rw [cp_ne e]
theorem nxt_cp {D : Mm} {src dst sp dp n : Nat} (h : dst ≠ 4500) : nxt (cpD D src dst sp dp n) = nxt D := by unfold nxt; rw [cp_ne (fun e => h e.symm)]
theorem usd_cp {D : Mm} {src dst sp dp n : Nat} (h : dst ≠ 4500) : usd (cpD D src dst sp dp n) = usd D := by unfold usd; rw [cp_ne (fun e => h e.symm)]
theorem dyn_cp {D : Mm} {src dst sp dp n o k : Nat} (h : dyn D o k) (hd : dst ≠ 4500) (hn : dp + n ≤ 1000000) : dyn (cpD D src dst sp dp n) o k := by
  have h1 := KNDv
  refine ⟨⟨h.1.1, by rw [nxt_cp hd]; exact h.1.2⟩, ?_⟩
  unfold kd
  by_cases e : o = dst
  · subst e; rw [cp_out (by omega)]; exact h.2
  · rw [cp_ne e]; exact h.2
theorem csD_d {D : Mm} {o : Nat} (h : DB ≤ o) : csD D o = D o := if_neg (by omega)
theorem csL_d {D : Mm} {o : Nat} (h : DB ≤ o) : csL D o = cap D o := if_neg (by omega)
theorem csD_r {D : Mm} {o : Nat} (h : o < DB) : csD D o = fun j => (roc o).getD j 0 := if_pos h
theorem csL_r {D : Mm} {o : Nat} (h : o < DB) : csL D o = (roc o).length := if_pos h
/-- what lies below a number of cells is as it was -/
def FrL (lo : Nat) (D D2 : Mm) : Prop := (∀ q, q < DB + lo → q ≠ 4500 → D2 q = D q) ∧ nxt D ≤ nxt D2
theorem FrL.rf {lo : Nat} {D : Mm} : FrL lo D D := ⟨fun _ _ _ => rfl, Nat.le_refl _⟩
theorem FrL.tr {lo : Nat} {D D2 D3 : Mm} (h : FrL lo D D2) (g : FrL lo D2 D3) : FrL lo D D3 := ⟨fun q a b => (g.1 q a b).trans (h.1 q a b), Nat.le_trans h.2 g.2⟩
theorem FrL.mono {lo lo2 : Nat} {D D2 : Mm} (h : FrL lo D D2) (g : lo2 ≤ lo) : FrL lo2 D D2 := ⟨fun q a b => h.1 q (by omega) b, h.2⟩
theorem FrL.mup {lo o j : Nat} {D : Mm} {x : Int32} (h : DB + lo ≤ o) : FrL lo D (mup D o j x) := by
  have h0 := DBv
  exact ⟨fun q a b => mupF (by omega), by rw [nxt_mup (by omega)]; exact Nat.le_refl _⟩
theorem FrL.al {lo n : Nat} {D : Mm} {f : Nat → Int32} (hf : fitU D n) (h : lo ≤ nxt D) : FrL lo D (alD D f n) := ⟨fun q a b => al_old (by omega) b, by rw [al_nxt hf]; omega⟩
theorem FrL.cp {lo src dst sp dp n : Nat} {D : Mm} (h : DB + lo ≤ dst) : FrL lo D (cpD D src dst sp dp n) := by
  have h0 := DBv
  exact ⟨fun q a b => cp_ne (by omega), by rw [nxt_cp (by omega)]; exact Nat.le_refl _⟩
/-- the bytes of a text -/
def ByR (r : Nat → Int32) (t : List Nat) : Prop := (∀ i, i < t.length → r i = nI (t.getD i 0)) ∧ ∀ c, c ∈ t → c < 128
/-- a builder o with its row b holding t; lo: what lies below isn't its own; T: the longest it becomes; u: what had been made before, this one's rows left out -/
def SbX (D : Mm) (lo T u o b : Nat) (t : List Nat) : Prop := dyn D o 0 ∧ dyn D b 22 ∧ D o 0 = nI b ∧ D o 1 = nI 0 ∧ D o 3 = nI t.length ∧ t.length ≤ cap D b ∧ cap D b ≤ 2 * T + 16 ∧ T ≤ 5000 ∧ ByR (D b) t ∧ (∀ j, j < cap D b → fits .byte (.int (D b j)) = true) ∧ (DB + lo ≤ o ∧ DB + lo ≤ b) ∧ nxt D ≤ usd D ∧ usd D ≤ u + 2 * cap D b ∧ u ≤ 1000000
section
variable {D : Mm} {lo T u o b : Nat} {t : List Nat}
theorem SbX.ob (h : SbX D lo T u o b t) : dyn D o 0 := h.1
theorem SbX.rb (h : SbX D lo T u o b t) : dyn D b 22 := h.2.1
theorem SbX.val (h : SbX D lo T u o b t) : D o 0 = nI b := h.2.2.1
theorem SbX.cod (h : SbX D lo T u o b t) : D o 1 = nI 0 := h.2.2.2.1
theorem SbX.len (h : SbX D lo T u o b t) : D o 3 = nI t.length := h.2.2.2.2.1
theorem SbX.fit (h : SbX D lo T u o b t) : t.length ≤ cap D b := h.2.2.2.2.2.1
theorem SbX.cpm (h : SbX D lo T u o b t) : cap D b ≤ 2 * T + 16 := h.2.2.2.2.2.2.1
theorem SbX.tT (h : SbX D lo T u o b t) : T ≤ 5000 := h.2.2.2.2.2.2.2.1
theorem SbX.byr (h : SbX D lo T u o b t) : ByR (D b) t := h.2.2.2.2.2.2.2.2.1
theorem SbX.fb (h : SbX D lo T u o b t) : ∀ j, j < cap D b → fits .byte (.int (D b j)) = true := h.2.2.2.2.2.2.2.2.2.1
theorem SbX.low (h : SbX D lo T u o b t) : DB + lo ≤ o ∧ DB + lo ≤ b := h.2.2.2.2.2.2.2.2.2.2.1
theorem SbX.nu (h : SbX D lo T u o b t) : nxt D ≤ usd D := h.2.2.2.2.2.2.2.2.2.2.2.1
theorem SbX.us (h : SbX D lo T u o b t) : usd D ≤ u + 2 * cap D b := h.2.2.2.2.2.2.2.2.2.2.2.2.1
theorem SbX.uu (h : SbX D lo T u o b t) : u ≤ 1000000 := h.2.2.2.2.2.2.2.2.2.2.2.2.2
theorem SbX.ne (h : SbX D lo T u o b t) : o ≠ b := fun e => by
  have h1 := h.ob.2
  have h2 := h.rb.2
  rw [e] at h1; omega
theorem SbX.bN (h : SbX D lo T u o b t) : b < 2147483648 := by
  have h1 := dyn_ge h.rb
  have h2 := h.nu
  have h3 := h.us
  have h4 := h.cpm
  have h5 := h.tT
  have h6 := h.uu
  omega
theorem SbX.rvl (h : SbX D lo T u o b t) : dvl D o 0 0 = .ref b := by
  have hb := dyn_ge h.rb
  unfold dvl rv
  rw [if_pos (show rfB 0 0 = true from rfl), h.val, nI_clamp h.bN, if_pos (by unfold DB; omega)]
theorem SbX.rec (h : SbX D lo T u o b t) {k : Nat} (hk : kb (nC k) = 0) : rcv D o k := Or.inr ⟨h.ob.1, by rw [hk]; exact h.ob.2, by rw [h.ob.2]; decide⟩
end
/-- a longer row -/
def grX (D : Mm) (o b c : Nat) : Mm := mup (cpD (alD D (rwA 22 c) c) b (DB + nxt D) 0 0 (cap D b)) o 0 (nI (DB + nxt D))
theorem grow_x {D : Mm} {lo T u o b n : Nat} {t : List Nat} (h : SbX D lo T u o b t) (hlo : lo ≤ nxt D) (h1 : cap D b < n) (h2 : n ≤ T) : SbX (grX D o b (max n (2 * cap D b + 2))) lo T u o (DB + nxt D) t ∧ n ≤ cap (grX D o b (max n (2 * cap D b + 2))) (DB + nxt D) ∧ FrL lo D (grX D o b (max n (2 * cap D b + 2))) ∧ fitU D (max n (2 * cap D b + 2)) := by
  obtain ⟨c, hc⟩ : ∃ c, c = max n (2 * cap D b + 2) := ⟨_, rfl⟩
  rw [← hc]
  have a1 := h.cpm; have a2 := h.tT; have a3 := h.nu; have a4 := h.us; have a5 := h.uu; have a6 := h.fit
  have go := dyn_ge h.ob; have gb := dyn_ge h.rb; have glo := h.low
  have hL := LENv; have hB := DBv; have hK := KNDv
  have c1 : 2 * cap D b + 2 ≤ c := by omega
  have c2 : n ≤ c := by omega
  have c3 : c ≤ 2 * n := by omega
  have hf : fitU D c := ⟨by omega, a3⟩
  have hne : o ≠ DB + nxt D := by omega
  have hn4 : DB + nxt D ≠ 4500 := by omega
  have ebD : csD (alD D (rwA 22 c) c) b = D b := by rw [csD_d (by omega), al_old (by omega) (by omega)]
  have eo : ∀ j, j ≠ 0 → grX D o b c o j = D o j := fun j hj => by
    unfold grX
    rw [show mup (cpD (alD D (rwA 22 c) c) b (DB + nxt D) 0 0 (cap D b)) o 0 (nI (DB + nxt D)) o j = cpD (alD D (rwA 22 c) c) b (DB + nxt D) 0 0 (cap D b) o j from mupJ hj, cp_ne hne, al_old hne (by omega)]
  have ebi : ∀ j, j < cap D b → grX D o b c (DB + nxt D) j = D b j := fun j hj => by
    unfold grX
    rw [mupF (fun e => hne e.symm), cp_in (Nat.zero_le _) (by omega), ebD, Nat.sub_zero, Nat.zero_add]
  have ebo : ∀ j, cap D b ≤ j → grX D o b c (DB + nxt D) j = rwA 22 c j := fun j hj => by
    unfold grX
    rw [mupF (fun e => hne e.symm), cp_out (by omega), al_new]
  have ec : cap (grX D o b c) (DB + nxt D) = c := by
    unfold cap
    rw [ebo LEN (by omega), rwA_l]
    exact nI_clamp (by omega)
  have eu : usd (grX D o b c) = usd D + (c + 1) := by
    unfold grX
    rw [usd_mup (by omega), usd_cp hn4, al_usd hf]
  have en : nxt (grX D o b c) = nxt D + 1 := by
    unfold grX
    rw [nxt_mup (by omega), nxt_cp hn4, al_nxt hf]
  have eO : dyn (grX D o b c) o 0 := dyn_mup (dyn_cp (dyn_al h.ob hf) hn4 (by omega)) (by omega) (Or.inr (by omega))
  have eB : dyn (grX D o b c) (DB + nxt D) 22 := dyn_mup (dyn_cp (dyn_new hf (by rw [rwA_k]; exact nI_clamp (by omega))) hn4 (by omega)) (by omega) (Or.inl hne)
  refine ⟨⟨eO, eB, mupE, (eo 1 (by decide)).trans h.cod, (eo 3 (by decide)).trans h.len, by rw [ec]; omega, by rw [ec]; omega, a2, ⟨fun i hi => (ebi i (by omega)).trans (h.byr.1 i hi), h.byr.2⟩, fun j hj => ?_, ⟨glo.1, by omega⟩, by rw [eu, en]; omega, by rw [eu, ec]; omega, a5⟩, by rw [ec]; exact c2, ?_, hf⟩
  · rw [ec] at hj
    rcases Nat.lt_or_ge j (cap D b) with q | q
    · rw [ebi j q]; exact h.fb j q
    · rw [ebo j q, rwA_0 (by omega)]; decide
  · exact (FrL.al hf hlo).tr ((FrL.cp (by omega)).tr (FrL.mup glo.1))
theorem entE {d : Nat} {args ls : List Value} {Q : Option Value → Mm → Prop} {D : Mm} (hB : dyB args = true) (ha : args.length = 2) (hc : args.all c1B = true) (hl : args ++ List.replicate 1 (.retAddr 0) = ls) (h : Wp d 217 Q 0 ls [] D) : Ct (d + 1) 217 args D Q := by
  unfold Ct
  rw [if_neg (fun q => by have := q.2; rw [hB] at this; cases this)]
  have e1 : nA 217 = 2 := c217.2.1
  have e2 : nL 217 = 3 := by decide +kernel
  subst hl
  refine ⟨c217.1, ha.trans e1.symm, hc, ?_⟩
  rw [e1, e2]
  exact h
theorem gc_s_D {m0 d : Nat} {Q : Option Value → Mm → Prop} {x : Value} {m p : Nat} {D : Mm} {u v : Value} (hx : nvB x = true) (hm : 100 ≤ m) (hm2 : m < 100000) (hp : p + 2 ≤ cap D m0) (hc : cap D m0 ≤ 1000000) (hu : dyn D m0 22) (h : ∀ u v, Wp d 200 Q 22 [.int (-(nI (m / 100))), x, .ref m0, u, v, .int (nI p), .int (nI 0)] [] (mup (mup D m0 (p + 1) (nI (48 + m % 10))) m0 p (nI (48 + m / 10 % 10)))) : Wp d 200 Q 22 [.int (-(nI m)), x, .ref m0, u, v, .int (nI (p + 2)), .int (nI 0)] [] D := by
  have hL : LEN = 1000000 := rfl
  refine w_ild0 i200_22 ?_
  refine w_bip i200_23 kb_m100 ?_
  refine w_cgtF i200_25 (by rw [neg100]; exact (neg_le (by omega) (by omega)).mpr hm) ?_
  refine w_ild0 i200_28 ?_
  refine w_bip i200_29 kb_100 ?_
  refine w_idiv i200_31 (by decide) (neg_div (by omega)) ?_
  refine w_ist3 i200_32 ?_
  refine w_ild3 i200_33 ?_
  refine w_bip i200_34 kb_100 ?_
  refine w_imul i200_36 rfl ?_
  refine w_ild0 i200_37 ?_
  refine w_isub i200_38 (neg_qr hm2) ?_
  refine w_ist4 i200_39 ?_
  refine w_ild3 i200_41 ?_
  refine w_ist0 i200_42 ?_
  refine w_ald2 i200_43 ?_
  refine w_inc5 i200_44 (dec1 _) ?_
  refine w_ild5 i200_47 ?_
  refine w_gst i200_49 rfl ?_
  refine w_ild4 i200_52 ?_
  refine w_balO i200_54 (by omega) ?_
  refine w_basD i200_55 hu (by omega) hc ?_
  refine w_ald2 i200_56 ?_
  refine w_inc5 i200_57 (dec1 _) ?_
  refine w_ild5 i200_60 ?_
  refine w_gst i200_62 rfl ?_
  refine w_ild4 i200_65 ?_
  refine w_balT i200_67 (by omega) ?_
  refine w_basD i200_68 (dyn_mup hu (by have := dyn_ge hu; omega) (Or.inr (by unfold KND; omega))) (by rw [cap_mup2 (Or.inr (by omega))]; omega) (by rw [cap_mup2 (Or.inr (by omega))]; exact hc) ?_
  refine w_goto i200_69 g200_69 ?_
  rw [narb_t _ (by omega), narb_t _ (by omega), show m % 100 % 10 = m % 10 by omega, show m % 100 / 10 = m / 10 % 10 by omega]
  exact h _ _
theorem gc_f1_D {m0 d : Nat} {Q : Option Value → Mm → Prop} {x : Value} {m p : Nat} {D : Mm} {u v : Value} (hx : nvB x = true) (hm : m < 10) (hp : p + 1 ≤ cap D m0) (hc : cap D m0 ≤ 1000000) (hu : dyn D m0 22) (h : Q (some (.int (nI p))) (mup D m0 p (nI (48 + m)))) : Wp d 200 Q 22 [.int (-(nI m)), x, .ref m0, u, v, .int (nI (p + 1)), .int (nI 0)] [] D := by
  have hL : LEN = 1000000 := rfl
  refine w_ild0 i200_22 ?_
  refine w_bip i200_23 kb_m100 ?_
  refine w_cgtT i200_25 g200_25 (by rw [neg100]; exact (neg_lt (by omega) (by omega)).mpr (by omega)) ?_
  refine w_ald2 i200_72 ?_
  refine w_inc5 i200_73 (dec1 _) ?_
  refine w_ild5 i200_76 ?_
  refine w_gst i200_78 rfl ?_
  refine w_ild0 i200_81 ?_
  refine w_ineg i200_82 neg_neg' ?_
  refine w_balO i200_83 (by omega) ?_
  refine w_basD i200_84 hu (by omega) hc ?_
  refine w_ild0 i200_85 ?_
  refine w_bip i200_86 kb_m9 ?_
  refine w_cgeT i200_88 g200_88 (by rw [neg9]; exact (neg_le (by omega) (by omega)).mpr (by omega)) ?_
  refine w_ild6 i200_104 ?_
  refine w_ieqNT i200_106 g200_106 (by omega) (by omega) ?_
  refine w_ild5 i200_118 ?_
  refine w_ri i200_120 r200 ?_
  rw [narb_t _ (by omega), show 48 + m % 10 = 48 + m by omega]
  exact h
theorem gc_f2_D {m0 d : Nat} {Q : Option Value → Mm → Prop} {x : Value} {m p : Nat} {D : Mm} {u v : Value} (hx : nvB x = true) (hm : ¬ m < 10) (hm2 : m < 100) (hp : p + 2 ≤ cap D m0) (hc : cap D m0 ≤ 1000000) (hu : dyn D m0 22) (h : Q (some (.int (nI p))) (mup (mup D m0 (p + 1) (nI (48 + m % 10))) m0 p (nI (48 + m / 10)))) : Wp d 200 Q 22 [.int (-(nI m)), x, .ref m0, u, v, .int (nI (p + 2)), .int (nI 0)] [] D := by
  have hL : LEN = 1000000 := rfl
  refine w_ild0 i200_22 ?_
  refine w_bip i200_23 kb_m100 ?_
  refine w_cgtT i200_25 g200_25 (by rw [neg100]; exact (neg_lt (by omega) (by omega)).mpr (by omega)) ?_
  refine w_ald2 i200_72 ?_
  refine w_inc5 i200_73 (dec1 _) ?_
  refine w_ild5 i200_76 ?_
  refine w_gst i200_78 rfl ?_
  refine w_ild0 i200_81 ?_
  refine w_ineg i200_82 neg_neg' ?_
  refine w_balO i200_83 (by omega) ?_
  refine w_basD i200_84 hu (by omega) hc ?_
  refine w_ild0 i200_85 ?_
  refine w_bip i200_86 kb_m9 ?_
  refine w_cgeF i200_88 (by rw [neg9]; exact (neg_lt (by omega) (by omega)).mpr (by omega)) ?_
  refine w_ald2 i200_91 ?_
  refine w_inc5 i200_92 (dec1 _) ?_
  refine w_ild5 i200_95 ?_
  refine w_gst i200_97 rfl ?_
  refine w_ild0 i200_100 ?_
  refine w_ineg i200_101 neg_neg' ?_
  refine w_balT i200_102 (by omega) ?_
  refine w_basD i200_103 (dyn_mup hu (by have := dyn_ge hu; omega) (Or.inr (by unfold KND; omega))) (by rw [cap_mup2 (Or.inr (by omega))]; omega) (by rw [cap_mup2 (Or.inr (by omega))]; exact hc) ?_
  refine w_ild6 i200_104 ?_
  refine w_ieqNT i200_106 g200_106 (by omega) (by omega) ?_
  refine w_ild5 i200_118 ?_
  refine w_ri i200_120 r200 ?_
  rw [narb_t _ (by omega), narb_t _ (by omega)]
  exact h
def GcP_D (m0 : Nat) (D D2 : Mm) (s n : Nat) : Prop := (∀ i, i < (dgl n).length → D2 m0 (s + i) = nI ((dgl n).getD i 0)) ∧ (∀ j, (j < s ∨ s + (dgl n).length ≤ j) → D2 m0 j = D m0 j) ∧ (∀ q, q ≠ m0 → D2 q = D q)
theorem K_getC_D {m0 d : Nat} {D : Mm} {Q : Option Value → Mm → Prop} {n s : Nat} (hn : n < 100000) (hs : s + (dgl n).length ≤ cap D m0) (hc : cap D m0 ≤ 1000000) (hu : dyn D m0 22) (hq : ∀ D2 v, GcP_D m0 D D2 s n → Q (some (.int v)) D2) : Ct (d + 1) 200 [.int (nI n), .int (nI (s + (dgl n).length)), .ref m0] D Q := by
  have hL : LEN = 1000000 := rfl
  refine ent m200 rfl rfl (ls := [.int (nI n), .int (nI (s + (dgl n).length)), .ref m0, .retAddr 0, .retAddr 0, .retAddr 0, .retAddr 0]) rfl ?_
  refine w_ild1 i200_0 ?_
  refine w_ist5 i200_1 ?_
  refine w_ild0 i200_3 ?_
  refine w_igeNT i200_4 g200_4 (by omega) (by omega) ?_
  refine w_const i200_11 kc_0 ?_
  refine w_ist6 i200_12 ?_
  refine w_ild6 i200_14 ?_
  refine w_ineNF i200_16 (by omega) (by omega) ?_
  refine w_ild0 i200_19 ?_
  refine w_ineg i200_20 rfl ?_
  refine w_ist0 i200_21 ?_
  by_cases h1 : n < 10
  · have e : dgl n = [48 + n] := by unfold dgl; rw [if_pos h1]
    rw [e] at hs ⊢
    refine gc_f1_D rfl h1 (by exact hs) hc hu (hq _ _ ⟨?_, ?_, fun q a => mupF a⟩)
    · rw [e]; intro i hi
      have : i = 0 := by have hi : i < 1 := hi; omega
      subst this; exact mupE
    · rw [e]; intro j hj
      have hj : j < s ∨ s + 1 ≤ j := hj
      exact mupJ (by omega)
  · by_cases h2 : n < 100
    · have e : dgl n = [48 + n / 10, 48 + n % 10] := by unfold dgl; rw [if_neg h1, if_pos h2]
      rw [e] at hs ⊢
      refine gc_f2_D rfl h1 h2 (by exact hs) hc hu (hq _ _ ⟨?_, ?_, fun q a => (mupF a).trans (mupF a)⟩)
      · rw [e]; intro i hi
        have hi : i < 2 := hi
        rcases (by omega : i = 0 ∨ i = 1) with z | z <;> subst z
        · exact mupE
        · exact Eq.trans (mupJ (by omega)) mupE
      · rw [e]; intro j hj
        have hj : j < s ∨ s + 2 ≤ j := hj
        exact Eq.trans (mupJ (by omega)) (mupJ (by omega))
    · by_cases h3 : n < 1000
      · have e : dgl n = [48 + n / 100, 48 + n / 10 % 10, 48 + n % 10] := by unfold dgl; rw [if_neg h1, if_neg h2, if_pos h3]
        rw [e] at hs ⊢
        have hs : s + 3 ≤ cap D m0 := hs
        refine gc_s_D (p := s + 1) rfl (by omega) hn (by omega) hc hu (fun u v => ?_)
        refine gc_f1_D rfl (by omega) (by rw [cap_mup2 (Or.inr (by omega)), cap_mup2 (Or.inr (by omega))]; omega) (by rw [cap_mup2 (Or.inr (by omega)), cap_mup2 (Or.inr (by omega))]; exact hc) (dyn_mup (dyn_mup hu (by have := dyn_ge hu; omega) (Or.inr (by unfold KND; omega))) (by have := dyn_ge hu; omega) (Or.inr (by unfold KND; omega))) (hq _ _ ⟨?_, ?_, fun q a => (mupF a).trans ((mupF a).trans (mupF a))⟩)
        · rw [e]; intro i hi
          have hi : i < 3 := hi
          rcases (by omega : i = 0 ∨ i = 1 ∨ i = 2) with z | z | z <;> subst z
          · exact mupE
          · exact Eq.trans (mupJ (by omega)) mupE
          · exact Eq.trans (mupJ (by omega)) (Eq.trans (mupJ (by omega)) mupE)
        · rw [e]; intro j hj
          have hj : j < s ∨ s + 3 ≤ j := hj
          exact Eq.trans (mupJ (by omega)) (Eq.trans (mupJ (by omega)) (mupJ (by omega)))
      · by_cases h4 : n < 10000
        · have e : dgl n = [48 + n / 1000, 48 + n / 100 % 10, 48 + n / 10 % 10, 48 + n % 10] := by unfold dgl; rw [if_neg h1, if_neg h2, if_neg h3, if_pos h4]
          rw [e] at hs ⊢
          have hs : s + 4 ≤ cap D m0 := hs
          refine gc_s_D (p := s + 2) rfl (by omega) hn (by omega) hc hu (fun u v => ?_)
          refine gc_f2_D rfl (by omega) (by omega) (by rw [cap_mup2 (Or.inr (by omega)), cap_mup2 (Or.inr (by omega))]; omega) (by rw [cap_mup2 (Or.inr (by omega)), cap_mup2 (Or.inr (by omega))]; exact hc) (dyn_mup (dyn_mup hu (by have := dyn_ge hu; omega) (Or.inr (by unfold KND; omega))) (by have := dyn_ge hu; omega) (Or.inr (by unfold KND; omega))) (hq _ _ ⟨?_, ?_, fun q a => (mupF a).trans ((mupF a).trans ((mupF a).trans (mupF a)))⟩)
          · rw [e]; intro i hi
            have hi : i < 4 := hi
            rcases (by omega : i = 0 ∨ i = 1 ∨ i = 2 ∨ i = 3) with z | z | z | z <;> subst z
            · refine Eq.trans mupE ?_
              rw [show n / 100 / 10 = n / 1000 by omega]; rfl
            · exact Eq.trans (mupJ (by omega)) mupE
            · exact Eq.trans (mupJ (by omega)) (Eq.trans (mupJ (by omega)) mupE)
            · exact Eq.trans (mupJ (by omega)) (Eq.trans (mupJ (by omega)) (Eq.trans (mupJ (by omega)) mupE))
          · rw [e]; intro j hj
            have hj : j < s ∨ s + 4 ≤ j := hj
            exact Eq.trans (mupJ (by omega)) (Eq.trans (mupJ (by omega)) (Eq.trans (mupJ (by omega)) (mupJ (by omega))))
        · have e : dgl n = [48 + n / 10000, 48 + n / 1000 % 10, 48 + n / 100 % 10, 48 + n / 10 % 10, 48 + n % 10] := by unfold dgl; rw [if_neg h1, if_neg h2, if_neg h3, if_neg h4]
          rw [e] at hs ⊢
          have hs : s + 5 ≤ cap D m0 := hs
          refine gc_s_D (p := s + 3) rfl (by omega) hn (by omega) hc hu (fun u v => ?_)
          refine gc_s_D (p := s + 1) rfl (by omega) (by omega) (by rw [cap_mup2 (Or.inr (by omega)), cap_mup2 (Or.inr (by omega))]; omega) (by rw [cap_mup2 (Or.inr (by omega)), cap_mup2 (Or.inr (by omega))]; exact hc) (dyn_mup (dyn_mup hu (by have := dyn_ge hu; omega) (Or.inr (by unfold KND; omega))) (by have := dyn_ge hu; omega) (Or.inr (by unfold KND; omega))) (fun u v => ?_)
          refine gc_f1_D rfl (by omega) (by rw [cap_mup2 (Or.inr (by omega)), cap_mup2 (Or.inr (by omega)), cap_mup2 (Or.inr (by omega)), cap_mup2 (Or.inr (by omega))]; omega) (by rw [cap_mup2 (Or.inr (by omega)), cap_mup2 (Or.inr (by omega)), cap_mup2 (Or.inr (by omega)), cap_mup2 (Or.inr (by omega))]; exact hc) (dyn_mup (dyn_mup (dyn_mup (dyn_mup hu (by have := dyn_ge hu; omega) (Or.inr (by unfold KND; omega))) (by have := dyn_ge hu; omega) (Or.inr (by unfold KND; omega))) (by have := dyn_ge hu; omega) (Or.inr (by unfold KND; omega))) (by have := dyn_ge hu; omega) (Or.inr (by unfold KND; omega))) (hq _ _ ⟨?_, ?_, fun q a => (mupF a).trans ((mupF a).trans ((mupF a).trans ((mupF a).trans (mupF a))))⟩)
          · rw [e]; intro i hi
            have hi : i < 5 := hi
            rcases (by omega : i = 0 ∨ i = 1 ∨ i = 2 ∨ i = 3 ∨ i = 4) with z | z | z | z | z <;> subst z
            · refine Eq.trans mupE ?_
              rw [show n / 100 / 100 = n / 10000 by omega]; rfl
            · refine Eq.trans (mupJ (by omega)) (Eq.trans mupE ?_)
              rw [show n / 100 / 10 = n / 1000 by omega]; rfl
            · exact Eq.trans (mupJ (by omega)) (Eq.trans (mupJ (by omega)) mupE)
            · exact Eq.trans (mupJ (by omega)) (Eq.trans (mupJ (by omega)) (Eq.trans (mupJ (by omega)) mupE))
            · exact Eq.trans (mupJ (by omega)) (Eq.trans (mupJ (by omega)) (Eq.trans (mupJ (by omega)) (Eq.trans (mupJ (by omega)) mupE)))
          · rw [e]; intro j hj
            have hj : j < s ∨ s + 5 ≤ j := hj
            exact Eq.trans (mupJ (by omega)) (Eq.trans (mupJ (by omega)) (Eq.trans (mupJ (by omega)) (Eq.trans (mupJ (by omega)) (mupJ (by omega)))))
