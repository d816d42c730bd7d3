/-! places by an order -/
theorem pigeon : ∀ (N : Nat) (f : Nat → Nat), (∀ i, i < N → f i < N) → (∀ i j, i < N → j < N → f i = f j → i = j) → ∀ p, p < N → ∃ i, i < N ∧ f i = p
  | 0, _, _, _, p, hp => absurd hp (Nat.not_lt_zero p)
  | N + 1, f, h1, h2, p, hp => by
    by_cases hN : f N = N
    · by_cases hpN : p = N
      · exact ⟨N, by omega, by rw [hN, hpN]⟩
      · obtain ⟨i, hi, e⟩ := pigeon N f (fun i hi => by
          have a := h1 i (by omega)
          have b : f i ≠ N := fun q => by have := h2 i N (by omega) (by omega) (q.trans hN.symm); omega
          omega) (fun i j hi hj e => h2 i j (by omega) (by omega) e) p (by omega)
        exact ⟨i, by omega, e⟩
    · have hq := h1 N (by omega)
      have inj : ∀ i j, i < N → j < N → (if f i = N then f N else f i) = (if f j = N then f N else f j) → i = j := fun i j hi hj e => by
        by_cases a : f i = N
        · by_cases b : f j = N
          · exact h2 i j (by omega) (by omega) (a.trans b.symm)
          · rw [if_pos a, if_neg b] at e
            have := h2 N j (by omega) (by omega) e; omega
        · by_cases b : f j = N
          · rw [if_neg a, if_pos b] at e
            have := h2 i N (by omega) (by omega) e; omega
          · rw [if_neg a, if_neg b] at e
            exact h2 i j (by omega) (by omega) e
      have g := pigeon N (fun i => if f i = N then f N else f i) (fun i hi => by
        show (if f i = N then f N else f i) < N
        have := h1 i (by omega)
        split <;> omega) inj
      have into : ∀ p, p < N → ∃ i, i < N + 1 ∧ f i = p := fun p hp => by
        obtain ⟨i, hi, e⟩ := g p hp
        have e : (if f i = N then f N else f i) = p := e
        by_cases a : f i = N
        · rw [if_pos a] at e; exact ⟨N, by omega, e⟩
        · rw [if_neg a] at e; exact ⟨i, by omega, e⟩
      by_cases hpN : p = N
      · obtain ⟨i, hi, e⟩ := g (f N) (by omega)
        have e : (if f i = N then f N else f i) = f N := e
        by_cases a : f i = N
        · exact ⟨i, by omega, by rw [a, hpN]⟩
        · rw [if_neg a] at e
          have := h2 i N (by omega) (by omega) e; omega
      · exact into p (by omega)
/-- an order, and each one's place in it: how many are ahead -/
def ordA (N : Nat) (A : Nat → Nat → Prop) : Prop := (∀ i, i < N → ¬ A i i) ∧ (∀ i j k, i < N → j < N → k < N → A i j → A j k → A i k) ∧ (∀ i j, i < N → j < N → i ≠ j → A i j ∨ A j i)
noncomputable def rkN (N : Nat) (A : Nat → Nat → Prop) (h : Nat) : Nat := sN6 N (fun o => ifp (A o h) 1 0)
theorem ifp_n01 {p : Prop} : ifp p 1 0 ≤ 1 := by
  by_cases h : p
  · rw [ifp_t h]; exact Nat.le_refl 1
  · rw [ifp_f h]; exact Nat.zero_le 1
theorem sN6_lt {f g : Nat → Nat} {j : Nat} : ∀ n, (∀ i, i < n → f i ≤ g i) → j < n → f j < g j → sN6 n f < sN6 n g
  | 0, _, h, _ => absurd h (Nat.not_lt_zero j)
  | n + 1, h, hj, hl => by
    have e1 : sN6 (n + 1) f = sN6 n f + f n := rfl
    have e2 : sN6 (n + 1) g = sN6 n g + g n := rfl
    have h1 := sN6_le (f := f) (g := g) n (fun i hi => h i (by omega))
    have h2 := h n (by omega)
    by_cases z : j = n
    · subst z; omega
    · have := sN6_lt n (fun i hi => h i (by omega)) (show j < n by omega) hl
      omega
theorem rk_lt {N o h : Nat} {A : Nat → Nat → Prop} (H : ordA N A) (ho : o < N) (hh : h < N) (ha : A o h) : rkN N A o < rkN N A h := by
  refine sN6_lt (j := o) N (fun i hi => ?_) ho ?_
  · by_cases z : A i o
    · rw [ifp_t z, ifp_t (H.2.1 i o h hi ho hh z ha)]; exact Nat.le_refl 1
    · rw [ifp_f z]; exact Nat.zero_le _
  · rw [ifp_f (H.1 o ho), ifp_t ha]; exact Nat.zero_lt_one
theorem rk_in {N h : Nat} {A : Nat → Nat → Prop} (H : ordA N A) (hh : h < N) : rkN N A h < N := by
  have h1 : sN6 N (fun o => ifp (A o h) 1 0) < sN6 N (fun _ => 1) := sN6_lt (j := h) N (fun i _ => ifp_n01) hh (by rw [ifp_f (H.1 h hh)]; exact Nat.zero_lt_one)
  have h2 := sN6_c (f := fun _ => 1) (c := 1) N (fun i _ => Nat.le_refl 1)
  unfold rkN
  omega
theorem rk_inj {N i j : Nat} {A : Nat → Nat → Prop} (H : ordA N A) (hi : i < N) (hj : j < N) (e : rkN N A i = rkN N A j) : i = j := by
  by_cases z : i = j
  · exact z
  · rcases H.2.2 i j hi hj z with a | a
    · have := rk_lt H hi hj a; omega
    · have := rk_lt H hj hi a; omega
theorem rk_at {N p : Nat} {A : Nat → Nat → Prop} (H : ordA N A) (hp : p < N) : ∃ h, h < N ∧ rkN N A h = p := pigeon N (rkN N A) (fun i hi => rk_in H hi) (fun i j hi hj e => rk_inj H hi hj e) p hp
theorem rk_ord {N i j : Nat} {A : Nat → Nat → Prop} (H : ordA N A) (hi : i < N) (hj : j < N) (e : rkN N A i < rkN N A j) : A i j := by
  by_cases z : i = j
  · subst z; omega
  · rcases H.2.2 i j hi hj z with a | a
    · exact a
    · have := rk_lt H hj hi a; omega
/-- an order by two numbers and the place -/
def ordK (x y : Nat → Int) (o h : Nat) : Prop := x h < x o ∨ (x h = x o ∧ (y h < y o ∨ (y h = y o ∧ o < h)))
theorem ordK_ok {N : Nat} {x y : Nat → Int} : ordA N (ordK x y) := by
  refine ⟨fun i _ h => ?_, fun i j k _ _ _ h g => ?_, fun i j _ _ hne => ?_⟩
  · unfold ordK at h; omega
  · unfold ordK at h g ⊢; omega
  · unfold ordK; omega
theorem frk_at {f : Nat → Int32} {g : Nat → Nat} {N p h : Nat} (hf : ∀ i, i < N → f i = nI (g i)) (hg : ∀ i, i < N → g i < 2147483648) (hp : p < 2147483648) (hu : ∀ i, i < N → g i = p → i = h) (hh : h < N) (e : g h = p) : ∀ k s, s + k = N → s ≤ h → frk f (nI p) k s = nI h
  | 0, s, h1, h2 => absurd h2 (by omega)
  | k + 1, s, h1, h2 => by
    unfold frk
    by_cases z : s = h
    · subst z
      rw [ifp_t (by rw [hf s hh, e])]
    · have : ¬ f s = nI p := fun q => by
        rw [hf s (by omega)] at q
        have := nI_inj hp (hg s (by omega)) q.symm
        exact z (hu s (by omega) this)
      rw [ifp_f this]
      exact frk_at hf hg hp hu hh e k (s + 1) (by omega) (by omega)
theorem frk_no {f : Nat → Int32} {g : Nat → Nat} {N p : Nat} (hf : ∀ i, i < N → f i = nI (g i)) (hg : ∀ i, i < N → g i < p) (hp : p < 2147483648) : ∀ k s, s + k = N → frk f (nI p) k s = -1011
  | 0, s, _ => rfl
  | k + 1, s, h1 => by
    unfold frk
    have : ¬ f s = nI p := fun q => by
      rw [hf s (by omega)] at q
      have h2 := hg s (by omega)
      have := nI_inj hp (by omega) q.symm
      omega
    rw [ifp_f this]
    exact frk_no hf hg hp k (s + 1) (by omega)
/-- the stubs' places -/
def ligN (V : Nat → Int32) (s : Nat) : Int := ((wxc V s * cl (V (30 + 8 * s + 2)) : Nat) : Int)
def debN (V : Nat → Int32) (s : Nat) : Int := -((dbc V s : Nat) : Int)
theorem st_nat {n B s : Nat} {V : Nat → Int32} (H : IV n V B) (hs : s < n) : V (30 + 8 * s + 1) * V (30 + 8 * s + 2) = nI (wxc V s * cl (V (30 + 8 * s + 2))) ∧ wxc V s * cl (V (30 + 8 * s + 2)) ≤ 270 := by
  obtain ⟨o, w, k, t, u, z, b, h0, h1, h2, h3, h4, h5, h6, b0, b1, b2, b3, b4, b5, b6, b7, b8⟩ := H.2.2.1 s hs
  have e : wxc V s = w := by unfold wxc; rw [h1, cl_nI (by omega)]
  rw [h2, cl_nI (by omega), e, h1, nI_mul]
  exact ⟨rfl, Nat.mul_le_mul b1 b2⟩
theorem sBy_int {n B h o : Nat} {V : Nat → Int32} (H : IV n V B) (hh : h < n) (ho : o < n) : (sBy V h o).toInt = if ligN V o = ligN V h then debN V o - debN V h else ligN V o - ligN V h := by
  obtain ⟨e1, l1⟩ := st_nat H hh
  obtain ⟨e2, l2⟩ := st_nat H ho
  obtain ⟨d1, m1⟩ := db_nat H hh
  obtain ⟨d2, m2⟩ := db_nat H ho
  unfold sBy ligN debN
  rw [e1, e2, d1, d2]
  have s1 := sub_toInt (a := wxc V o * cl (V (30 + 8 * o + 2))) (b := wxc V h * cl (V (30 + 8 * h + 2))) (by omega) (by omega)
  have s2 := sub_toInt (a := dbc V h) (b := dbc V o) (by omega) (by omega)
  by_cases z : nI (wxc V o * cl (V (30 + 8 * o + 2))) - nI (wxc V h * cl (V (30 + 8 * h + 2))) = 0
  · rw [ifp_t z]
    have q := congrArg Int32.toInt z
    rw [s1, show (0 : Int32).toInt = 0 from rfl] at q
    rw [if_pos (by omega), s2]; omega
  · rw [ifp_f z]
    have q : ¬ ((wxc V o * cl (V (30 + 8 * o + 2)) : Nat) : Int) - ((wxc V h * cl (V (30 + 8 * h + 2)) : Nat) : Int) = 0 := fun q => z (Int32.toInt_inj.mp (by rw [s1, q]; rfl))
    rw [if_neg (by omega), s1]
theorem sRk1_n {n B h o : Nat} {V : Nat → Int32} (H : IV n V B) (hh : h < n) (ho : o < n) : sRk1 V h o = nI (ifp (ordK (ligN V) (debN V) o h) 1 0) := by
  have e := sBy_int H hh ho
  have p1 : (0 < sBy V h o) ↔ 0 < (sBy V h o).toInt := by rw [Int32.lt_iff_toInt_lt]; rfl
  have p2 : (sBy V h o = 0) ↔ (sBy V h o).toInt = 0 := ⟨fun q => by rw [q]; rfl, fun q => Int32.toInt_inj.mp (by rw [q]; rfl)⟩
  unfold sRk1
  by_cases z : o = h
  · rw [ifp_t z, z, ifp_f (ordK_ok (N := h + 1).1 h (by omega))]
  · rw [ifp_f z]
    by_cases z1 : 0 < sBy V h o
    · rw [ifp_t z1]
      have z1 := p1.mp z1
      rw [ifp_t (show ordK (ligN V) (debN V) o h by unfold ordK; rw [e] at z1; split at z1 <;> omega)]
    · rw [ifp_f z1]
      have z1 : ¬ 0 < (sBy V h o).toInt := fun q => z1 (p1.mpr q)
      by_cases z2 : sBy V h o = 0
      · rw [ifp_t z2]
        have z2 := p2.mp z2
        by_cases z3 : o < h
        · rw [ifp_t z3, ifp_t (show ordK (ligN V) (debN V) o h by unfold ordK; rw [e] at z2; split at z2 <;> omega)]
        · rw [ifp_f z3, ifp_f (show ¬ ordK (ligN V) (debN V) o h by unfold ordK; rw [e] at z2; split at z2 <;> omega)]
      · rw [ifp_f z2]
        have z2 : ¬ (sBy V h o).toInt = 0 := fun q => z2 (p2.mpr q)
        rw [ifp_f (show ¬ ordK (ligN V) (debN V) o h by
          have z1 := Int.not_lt.mp z1
          unfold ordK
          rw [e] at z1 z2
          split at z1
          · rename_i q; rw [if_pos q] at z2; omega
          · rename_i q; rw [if_neg q] at z2; omega)]
theorem sRank_n {n B h : Nat} {V : Nat → Int32} (H : IV n V B) (hh : h < n) : sRank n V h = nI (rkN n (ordK (ligN V) (debN V)) h) := sumN_nI n (fun o ho => sRk1_n H hh ho)
