/-! the law's text of a state -/
/-- what is counted on: bounds of what only grows -/
def GV (n : Nat) (V : Nat → Int32) (B : Nat) : Prop := (∀ j, 2 ≤ j → j ≤ 5 → ∃ x, x ≤ 9 * B ∧ V j = nI x) ∧ ∀ s, s < n → ∃ x, x ≤ 9 * B ∧ V (30 + 8 * s + 7) = nI x
theorem sN6_c {f : Nat → Nat} {c : Nat} : ∀ n, (∀ i, i < n → f i ≤ c) → sN6 n f ≤ c * n
  | 0, _ => Nat.zero_le _
  | n + 1, h => by
    have h1 := sN6_c n (fun i hi => h i (by omega))
    have h2 := h n (by omega)
    have e : sN6 (n + 1) f = sN6 n f + f n := rfl
    rw [e, Nat.mul_succ]; omega
/-- a number's signs -/
def ndt (x : Int32) : List Nat := if x = -1015 then [45, 49, 48, 49, 53] else dgl (cl x)
theorem ndt_n {m : Nat} (h : m < 100000) : ndt (nI m) = dgl m := by
  unfold ndt
  rw [if_neg (fun e => by
    have e2 := congrArg Int32.toInt e
    rw [nI_toInt (by omega)] at e2
    have e3 : ((m : Nat) : Int) = -1015 := e2
    omega), cl_nI (by omega)]
theorem okN_n {m : Nat} (h : m < 100000) : okN (nI m) (ndt (nI m)) := Or.inl ⟨m, h, rfl, ndt_n h⟩
theorem okN_m : okN (-1015) (ndt (-1015)) := Or.inr ⟨rfl, by decide⟩
noncomputable def accV (n : Nat) (V : Nat → Int32) : Nat → Int32
  | 0 => nI n
  | 1 => mOpens V
  | 2 => mWrits n V
  | 3 => mOfAll n V 1
  | 4 => mStores V
  | 5 => mPooled V
  | 6 => V 1
  | 7 => V 2
  | 8 => V 3
  | 9 => V 4
  | 10 => mOfAll n V 4
  | _ => V 5
theorem ho_nat {n B h : Nat} {V : Nat → Int32} (H : IV n V B) (hh : h < 6) : (V (6 + 4 * h + 2) = nI (stc V h) ∧ stc V h < 1073741824) ∧ (V (6 + 4 * h + 3) = nI (poc V h) ∧ poc V h < 1073741824) ∧ ∃ e, e < 6 ∧ V (6 + 4 * h + 1) = nI e := by
  obtain ⟨o, e, s, p, h0, h1, h2, h3, b0, b1, b2, b3⟩ := H.2.2.2.1 h hh
  refine ⟨?_, ?_, e, b1, h1⟩
  · have e1 : stc V h = s := by unfold stc; rw [h2, cl_nI (by omega)]
    rw [e1]; exact ⟨h2, b2⟩
  · have e1 : poc V h = p := by unfold poc; rw [h3, cl_nI (by omega)]
    rw [e1]; exact ⟨h3, b3⟩
theorem stores_nat {n B : Nat} {V : Nat → Int32} (H : IV n V B) : mStores V = nI (sN6 6 (stc V)) := sumN_nI 6 (fun h hh => (ho_nat H hh).1.1)
theorem pooled_nat {n B : Nat} {V : Nat → Int32} (H : IV n V B) : mPooled V = nI (sN6 6 (poc V)) := sumN_nI 6 (fun h hh => (ho_nat H hh).2.1.1)
theorem SM_le {n B : Nat} {V : Nat → Int32} (H : IV n V B) : sN6 n (wxc V) ≤ B ∧ sN6 6 (stc V) ≤ B ∧ sN6 6 (poc V) ≤ B ∧ sN6 n (wxc V) + sN6 6 (stc V) + sN6 6 (poc V) ≤ B := by
  have h := H.2.2.2.2.2.2.2
  unfold SM at h
  omega
def wic (V : Nat → Int32) (s : Nat) : Nat := if V (30 + 8 * s + 6) ≤ 0 then 0 else 1
theorem writs_nat {n : Nat} {V : Nat → Int32} : mWrits n V = nI (sN6 n (wic V)) := sumN_nI n (fun s hs => by
  unfold wic
  by_cases h : V (30 + 8 * s + 6) ≤ 0
  · rw [ifp_t h, if_pos h]
  · rw [ifp_f h, if_neg h])
def dbc (V : Nat → Int32) (s : Nat) : Nat := cl (V (30 + 8 * s + 4))
theorem db_nat {n B : Nat} {V : Nat → Int32} (H : IV n V B) {s : Nat} (hs : s < n) : V (30 + 8 * s + 4) = nI (dbc V s) ∧ dbc V s ≤ 90 := by
  obtain ⟨o, w, k, t, u, z, b, h0, h1, h2, h3, h4, h5, h6, b0, b1, b2, b3, b4, b5, b6, b7, b8⟩ := H.2.2.1 s hs
  have e : dbc V s = u := by unfold dbc; rw [h4, cl_nI (by omega)]
  rw [e]; exact ⟨h4, b4⟩
theorem debts_nat {n B : Nat} {V : Nat → Int32} (H : IV n V B) : mOfAll n V 4 = nI (sN6 n (dbc V)) := sumN_nI n (fun s hs => (db_nat H hs).1)
theorem acc_ok {n B : Nat} {V : Nat → Int32} (H : IV n V B) (G : GV n V B) (hB : B ≤ 9000) : ∀ j, j < 12 → ∃ m, m < 100000 ∧ accV n V j = nI m := by
  have hs := SM_le H
  have h12 := H.2.1
  have g := fun j a b => G.1 j a b
  intro j hj
  match j, hj with
  | 0, _ => exact ⟨n, by omega, rfl⟩
  | 1, _ => exact ⟨_, by have := sN6_c (f := opc V) (c := 1) 6 (fun i hi => (opc_01 H hi).1); omega, opens_nat H⟩
  | 2, _ => exact ⟨_, by have := sN6_c (f := wic V) (c := 1) n (fun i hi => by unfold wic; split <;> omega); omega, writs_nat⟩
  | 3, _ => exact ⟨_, by omega, ofAll_nat H⟩
  | 4, _ => exact ⟨_, by omega, stores_nat H⟩
  | 5, _ => exact ⟨_, by omega, pooled_nat H⟩
  | 6, _ =>
    obtain ⟨x, hx, e⟩ := g 2 (by decide) (by decide)
    have h2 : V 1 = nI (SM n V) + V 2 := H.2.2.2.2.2.2.1
    have h3 : SM n V ≤ B := H.2.2.2.2.2.2.2
    exact ⟨SM n V + x, by omega, by show V 1 = _; rw [h2, e, nI_add]⟩
  | 7, _ => obtain ⟨x, hx, e⟩ := g 2 (by decide) (by decide); exact ⟨x, by omega, e⟩
  | 8, _ => obtain ⟨x, hx, e⟩ := g 3 (by decide) (by decide); exact ⟨x, by omega, e⟩
  | 9, _ => obtain ⟨x, hx, e⟩ := g 4 (by decide) (by decide); exact ⟨x, by omega, e⟩
  | 10, _ => exact ⟨_, by have := sN6_c (f := dbc V) (c := 90) n (fun i hi => (db_nat H hi).2); omega, debts_nat H⟩
  | 11, _ => obtain ⟨x, hx, e⟩ := g 5 (by decide) (by decide); exact ⟨x, by omega, e⟩
  | j + 12, hj => omega
theorem so6_ok {n B s : Nat} {V : Nat → Int32} (H : IV n V B) (hs : s < n) : okN (vStubOf V s 6) (ndt (vStubOf V s 6)) := by
  obtain ⟨o, w, k, t, u, z, b, h0, h1, h2, h3, h4, h5, h6, b0, b1, b2, b3, b4, b5, b6, b7, b8⟩ := H.2.2.1 s hs
  have e : vStubOf V s 6 = ifp (V (30 + 8 * s + 6) = 0) (-1015) (V (30 + 8 * s + 6) - nI 1) := by
    unfold vStubOf
    rw [ifp_f (by decide), ifp_t rfl]
  rw [e, h6]
  by_cases z : nI b = 0
  · rw [ifp_t z]; exact okN_m
  · have hb : b ≠ 0 := fun q => z (by rw [q]; rfl)
    rw [ifp_f z, nI_sub (by omega)]; exact okN_n (by omega)
theorem so7_ok {n B s : Nat} {V : Nat → Int32} (G : GV n V B) (hB : B ≤ 9000) (hs : s < n) : okN (vStubOf V s 7) (ndt (vStubOf V s 7)) := by
  obtain ⟨x, hx, e1⟩ := G.2 s hs
  have e : vStubOf V s 7 = V (30 + 8 * s + 7) := by
    unfold vStubOf
    rw [ifp_f (by decide), ifp_f (by decide)]
  rw [e, e1]; exact okN_n (by omega)
/-- the line that tells a stub, and the houses' -/
def tlV (V : Nat → Int32) (s : Nat) : List Nat := tlS s (cl (V (30 + 8 * s + 0))) (cl (V (30 + 8 * s + 1))) (cl (V (30 + 8 * s + 2))) (cl (V (30 + 8 * s + 3))) (cl (V (30 + 8 * s + 4))) (cl (V (30 + 8 * s + 6))) (cl (V (30 + 8 * s + 5)))
def thV (V : Nat → Int32) : List Nat := thL (opc V) (stc V) (poc V) 6
noncomputable def accL (n : Nat) (V : Nat → Int32) : Nat → List Nat
  | 0 => []
  | j + 1 => accL n V j ++ [44] ++ ndt (accV n V j)
noncomputable def stuL (V : Nat → Int32) : Nat → List Nat
  | 0 => []
  | s + 1 => stuL V s ++ [59] ++ tlV V s ++ [47] ++ ndt (vStubOf V s 6) ++ [44] ++ ndt (vStubOf V s 7)
noncomputable def houL (V : Nat → Int32) : Nat → List Nat
  | 0 => []
  | h + 1 => houL V h ++ [59] ++ ndt (V (6 + 4 * h + 1))
noncomputable def toldT (n : Nat) (V : Nat → Int32) : List Nat := thV V ++ accL n V 12 ++ stuL V n ++ houL V 6
theorem dgl_2 {n : Nat} (h : n < 100) : (dgl n).length ≤ 2 := by
  unfold dgl
  split
  · exact (by decide : 1 ≤ 2)
  · exact Nat.le_refl 2
theorem tlS_len {s o w k t u b z : Nat} (h1 : s < 100) (h2 : o < 100) (h3 : w < 100) (h4 : k < 100) (h5 : t < 100) (h6 : u < 100) (h7 : z < 100) : (tlS s o w k t u b z).length ≤ 20 := by
  have d1 := dgl_2 h1; have d2 := dgl_2 h2; have d3 := dgl_2 h3; have d4 := dgl_2 h4; have d5 := dgl_2 (n := t - 1) (by omega); have d6 := dgl_2 h6; have d7 := dgl_2 h7
  have a : (tlB s o w k).length ≤ 11 := by unfold tlB; simp only [List.length_append, List.length_cons, List.length_nil]; omega
  have b2 : (tlC t u (tlB s o w k)).length ≤ 17 := by
    unfold tlC
    split
    · omega
    · simp only [List.length_append, List.length_cons, List.length_nil]; omega
  unfold tlS tlD
  split
  · omega
  · simp only [List.length_append, List.length_cons, List.length_nil]; omega
theorem tlV_len {n B s : Nat} {V : Nat → Int32} (H : IV n V B) (hs : s < n) : (tlV V s).length ≤ 20 := by
  obtain ⟨o, w, k, t, u, z, b, h0, h1, h2, h3, h4, h5, h6, b0, b1, b2, b3, b4, b5, b6, b7, b8⟩ := H.2.2.1 s hs
  have h12 := H.2.1
  unfold tlV
  rw [h0, h1, h2, h3, h4, h5, h6, cl_nI (by omega), cl_nI (by omega), cl_nI (by omega), cl_nI (by omega), cl_nI (by omega), cl_nI (by omega), cl_nI (by omega)]
  exact tlS_len (by omega) (by omega) (by omega) (by omega) (by omega) (by omega) (by omega)
theorem accL_len {n B : Nat} {V : Nat → Int32} (H : IV n V B) (G : GV n V B) (hB : B ≤ 9000) : ∀ j, j ≤ 12 → (accL n V j).length ≤ 6 * j
  | 0, _ => Nat.zero_le _
  | j + 1, h => by
    have h1 := accL_len H G hB j (by omega)
    obtain ⟨m, hm, e⟩ := acc_ok H G hB j (by omega)
    have h2 := (okN_len (okN_n hm)).1
    show (accL n V j ++ [44] ++ ndt (accV n V j)).length ≤ _
    rw [e]
    simp only [List.length_append, List.length_cons, List.length_nil]; omega
theorem stuL_len {n B : Nat} {V : Nat → Int32} (H : IV n V B) (G : GV n V B) (hB : B ≤ 9000) : ∀ s, s ≤ n → (stuL V s).length ≤ 33 * s
  | 0, _ => Nat.zero_le _
  | s + 1, h => by
    have h1 := stuL_len H G hB s (by omega)
    have h2 := tlV_len H (show s < n by omega)
    have h3 := (okN_len (so6_ok H (show s < n by omega))).1
    have h4 := (okN_len (so7_ok G hB (show s < n by omega))).1
    show (stuL V s ++ [59] ++ tlV V s ++ [47] ++ ndt (vStubOf V s 6) ++ [44] ++ ndt (vStubOf V s 7)).length ≤ _
    simp only [List.length_append, List.length_cons, List.length_nil]; omega
theorem houL_len {n B : Nat} {V : Nat → Int32} (H : IV n V B) : ∀ h, h ≤ 6 → (houL V h).length ≤ 6 * h
  | 0, _ => Nat.zero_le _
  | h + 1, g => by
    have h1 := houL_len H h (by omega)
    obtain ⟨e, he, e2⟩ := (ho_nat H (show h < 6 by omega)).2.2
    have h2 := (okN_len (okN_n (show e < 100000 by omega))).1
    show (houL V h ++ [59] ++ ndt (V (6 + 4 * h + 1))).length ≤ _
    rw [e2]
    simp only [List.length_append, List.length_cons, List.length_nil]; omega
theorem thV_len {V : Nat → Int32} : (thV V).length ≤ 72 := thL_len 6
theorem K_accW {d : Nat} {D : Mm} {n : Nat} {V : Nat → Int32} (R : Rel D n V) (h12 : n ≤ 12) (ho : opV V) (hb : byV n V) : ∀ j, j < 12 → Ct (d + 7) 80 [.ref 0, .int (nI j)] D (Ex (some (.int (accV n V j))) D)
  | 0, _ => K_acc0 R h12 ho hb
  | 1, _ => K_acc1 R h12 ho hb
  | 2, _ => K_acc2 R h12 ho hb
  | 3, _ => K_acc3 R h12 ho hb
  | 4, _ => K_acc4 R h12 ho hb
  | 5, _ => K_acc5 R h12 ho hb
  | 6, _ => K_acc6 R h12 ho hb
  | 7, _ => K_acc7 R h12 ho hb
  | 8, _ => K_acc8 R h12 ho hb
  | 9, _ => K_acc9 R h12 ho hb
  | 10, _ => K_acc10 R h12 ho hb
  | 11, _ => K_acc11 R h12 ho hb
  | j + 12, h => absurd h (by omega)
