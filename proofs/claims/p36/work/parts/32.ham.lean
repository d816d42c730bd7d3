/-! both ways to share are one -/
def sN6 : Nat → (Nat → Nat) → Nat
  | 0, _ => 0
  | n + 1, f => sN6 n f + f n
theorem sN6_congr {f g : Nat → Nat} : ∀ n, (∀ i, i < n → f i = g i) → sN6 n f = sN6 n g := by
  intro n
  induction n with
  | zero => intro _; rfl
  | succ n ih => intro h; rw [sN6, sN6, ih (fun i hi => h i (by omega)), h n (by omega)]
theorem sN6_upd {f : Nat → Nat} {m x : Nat} : ∀ n, m < n → sN6 n (fun i => if i = m then f i + x else f i) = sN6 n f + x := by
  intro n
  induction n with
  | zero => intro h; omega
  | succ n ih =>
    intro h
    rw [sN6, sN6]
    by_cases e : m = n
    · subst e
      rw [if_pos rfl]
      have := sN6_congr (f := fun i => if i = m then f i + x else f i) (g := f) m (fun i hi => by rw [if_neg (by omega)])
      omega
    · rw [if_neg (fun z => e z.symm)]
      have := ih (by omega)
      omega
theorem sN6_le {f g : Nat → Nat} : ∀ n, (∀ i, i < n → f i ≤ g i) → sN6 n f ≤ sN6 n g := by
  intro n
  induction n with
  | zero => intro _; exact Nat.le_refl _
  | succ n ih =>
    intro h
    rw [sN6, sN6]
    have := ih (fun i hi => h i (by omega))
    have := h n (by omega)
    omega
theorem sumN_nI {f : Nat → Int32} {g : Nat → Nat} : ∀ n, (∀ i, i < n → f i = nI (g i)) → sumN n f = nI (sN6 n g) := by
  intro n
  induction n with
  | zero => intro _; rfl
  | succ n ih => intro h; rw [sumS, ih (fun i hi => h i (by omega)), h n (by omega), nI_add]; rfl
theorem ilt {x y : Int32} (h : x < y) (g : y ≤ x) : False := Int32.not_lt.mpr g h
theorem ilt_le {x y z : Int32} (h : x < y) (g : y ≤ z) : x < z := by
  rw [Int32.lt_iff_toInt_lt] at h ⊢
  rw [Int32.le_iff_toInt_le] at g
  omega
theorem ile_lt {x y z : Int32} (h : x ≤ y) (g : y < z) : x < z := by
  rw [Int32.lt_iff_toInt_lt] at g ⊢
  rw [Int32.le_iff_toInt_le] at h
  omega
theorem ile_tr {x y z : Int32} (h : x ≤ y) (g : y ≤ z) : x ≤ z := by
  rw [Int32.le_iff_toInt_le] at h g ⊢
  omega
theorem ilt_i {x y : Int32} (h : x < y) : x ≤ y := by
  rw [Int32.lt_iff_toInt_lt] at h
  rw [Int32.le_iff_toInt_le]
  omega
theorem ile_rf {x : Int32} : x ≤ x := by rw [Int32.le_iff_toInt_le]; exact Int.le_refl _
theorem amx_max {B : Nat → Int32} : ∀ i, (∀ j, j ≤ i → B j ≤ B (amx B i)) ∧ (∀ j, j < amx B i → B j < B (amx B i)) := by
  intro i
  induction i with
  | zero =>
    constructor
    · intro j hj
      have : j = 0 := by omega
      subst this
      exact ile_rf
    · intro j hj; exact absurd hj (Nat.not_lt_zero j)
  | succ i ih =>
    by_cases h : B (amx B i) < B (i + 1)
    · have e : amx B (i + 1) = i + 1 := ifp_t h
      rw [e]
      constructor
      · intro j hj
        by_cases g : j = i + 1
        · rw [g]; exact ile_rf
        · exact ilt_i (ile_lt (ih.1 j (by omega)) h)
      · intro j hj
        exact ile_lt (ih.1 j (by omega)) h
    · have e : amx B (i + 1) = amx B i := ifp_f h
      rw [e]
      constructor
      · intro j hj
        by_cases g : j = i + 1
        · rw [g]; exact Int32.not_lt.mp h
        · exact ih.1 j (by omega)
      · exact ih.2
theorem amx_uniq {B : Nat → Int32} {i m : Nat} (hm : m ≤ i) (h1 : ∀ j, j ≤ i → B j ≤ B m) (h2 : ∀ j, j < m → B j < B m) : amx B i = m := by
  have a := amx_max (B := B) i
  have b := amx_le (B := B) i
  by_cases e : amx B i < m
  · exact absurd (h2 _ e) (fun z => ilt z (a.1 m hm))
  · by_cases f : m < amx B i
    · exact absurd (a.2 _ f) (fun z => ilt z (h1 _ b))
    · omega
def posF (B : Nat → Int32) : Nat := sN6 6 (fun h => if 0 < B h then 1 else 0)
def Sim (B B2 : Nat → Int32) : Prop := ∀ h, h < 6 → (0 < B h ∨ 0 < B2 h) → B h = B2 h
theorem posF_ex {B : Nat → Int32} (h : 0 < posF B) : ∃ m, m < 6 ∧ 0 < B m := by
  by_cases e : ∃ m, m < 6 ∧ 0 < B m
  · exact e
  · exfalso
    have : posF B = sN6 6 (fun _ => 0) := sN6_congr 6 (fun i hi => by rw [if_neg (fun z => e ⟨i, hi, z⟩)])
    rw [this] at h
    exact absurd h (by decide)
theorem posF_dec {B : Nat → Int32} {m : Nat} {x : Int32} (hm : m < 6) (h : 0 < B m) (hx : x ≤ 0) : posF (vup B m x) + 1 = posF B := by
  have e : sN6 6 (fun i => if i = m then (if 0 < vup B m x i then 1 else 0) + 1 else (if 0 < vup B m x i then 1 else 0)) = posF (vup B m x) + 1 := sN6_upd 6 hm
  rw [← e]
  refine sN6_congr 6 (fun i hi => ?_)
  by_cases g : i = m
  · subst g
    rw [if_pos rfl, updE, if_neg (Int32.not_lt.mpr hx), if_pos h]
  · rw [if_neg g, updJ g]
theorem sim_amx {B B2 : Nat → Int32} (h : Sim B B2) (hp : 0 < posF B) : amx B2 5 = amx B 5 ∧ 0 < B (amx B 5) ∧ B2 (amx B 5) = B (amx B 5) := by
  obtain ⟨p, hp6, hp0⟩ := posF_ex hp
  have a := amx_max (B := B) 5
  have b := amx_le (B := B) 5
  have pm : 0 < B (amx B 5) := ilt_le hp0 (a.1 p (by omega))
  have e := (h _ (by omega) (Or.inl pm)).symm
  refine ⟨amx_uniq b (fun j hj => ?_) (fun j hj => ?_), pm, e⟩
  · rw [e]
    by_cases g : 0 < B2 j
    · rw [← h j (by omega) (Or.inr g)]; exact a.1 j hj
    · exact ile_tr (Int32.not_lt.mp g) (ilt_i pm)
  · rw [e]
    by_cases g : 0 < B2 j
    · rw [← h j (by omega) (Or.inr g)]; exact a.2 j hj
    · exact ile_lt (Int32.not_lt.mp g) pm
theorem sim_up {B B2 : Nat → Int32} {m : Nat} {x y : Int32} (h : Sim B B2) (hx : x ≤ 0) (hy : y ≤ 0) : Sim (vup B m x) (vup B2 m y) := by
  intro i hi z
  by_cases g : i = m
  · subst g
    rw [updE, updE] at z
    rcases z with z | z
    · exact absurd z (Int32.not_lt.mpr hx)
    · exact absurd z (Int32.not_lt.mpr hy)
  · rw [updJ g, updJ g] at z ⊢
    exact h i hi z
theorem ham_hz : ∀ L A (B B2 : Nat → Int32), Sim B B2 → L ≤ posF B → (vHz L A B2).1 = (vHam L A B).1 := by
  intro L
  induction L with
  | zero => intro A B B2 _ _; rfl
  | succ L ih =>
    intro A B B2 hs hL
    obtain ⟨e, p, f⟩ := sim_amx hs (by omega)
    have b := amx_le (B := B) 5
    have h1 : hz1 A B2 = (vup A (amx B 5) (A (amx B 5) + nI 1), vup B2 (amx B 5) (nI 0)) := by
      unfold hz1
      rw [e, f, ifp_f (Int32.not_le.mpr p)]
    unfold vHz vHam
    rw [h1]
    refine ih _ _ _ (sim_up hs (by decide) (by decide)) ?_
    have := posF_dec (x := -1) (show amx B 5 < 6 by omega) p (by decide)
    omega
theorem ham_dl {C : Int32} : ∀ L A (B B2 : Nat → Int32), Sim B B2 → L ≤ posF B → (∀ h, h < 6 → 0 < B h → B h - C ≤ 0) → (vDl C L A B2).1 = (vHam L A B).1 := by
  intro L
  induction L with
  | zero => intro A B B2 _ _ _; rfl
  | succ L ih =>
    intro A B B2 hs hL hC
    obtain ⟨e, p, f⟩ := sim_amx hs (by omega)
    have b := amx_le (B := B) 5
    unfold vDl vHam
    rw [e, f]
    refine ih _ _ _ (sim_up hs (by decide) (hC _ (by omega) p)) ?_ (fun h hh => ?_)
    · have := posF_dec (x := -1) (show amx B 5 < 6 by omega) p (by decide)
      omega
    · by_cases g : h = amx B 5
      · rw [g, updE]; intro z; exact absurd z (by decide)
      · rw [updJ g]; exact hC h hh
theorem vHz_ag : ∀ L {A B A2 B2 : Nat → Int32}, ag6 A A2 → ag6 B B2 → ag6 (vHz L A B).1 (vHz L A2 B2).1 := by
  intro L
  induction L with
  | zero => intro A B A2 B2 h _; exact h
  | succ L ih =>
    intro A B A2 B2 h g
    unfold vHz hz1
    have e := amx_ag g 5 (by omega)
    have hb := amx_le (B := B2) 5
    rw [e, h _ (by omega), g _ (by omega)]
    by_cases z : B2 (amx B2 5) ≤ 0
    · rw [ifp_t z, ifp_t z]; exact ih h g
    · rw [ifp_f z, ifp_f z]; exact ih (vup_ag h) (vup_ag g)
theorem vDl_ag {C : Int32} : ∀ L {A B A2 B2 : Nat → Int32}, ag6 A A2 → ag6 B B2 → ag6 (vDl C L A B).1 (vDl C L A2 B2).1 := by
  intro L
  induction L with
  | zero => intro A B A2 B2 h _; exact h
  | succ L ih =>
    intro A B A2 B2 h g
    unfold vDl
    have e := amx_ag g 5 (by omega)
    have hb := amx_le (B := B2) 5
    rw [e, h _ (by omega), g _ (by omega)]
    exact ih (vup_ag h) (vup_ag g)
theorem vDl_add {C : Int32} : ∀ a b (A B : Nat → Int32), vDl C (a + b) A B = vDl C b (vDl C a A B).1 (vDl C a A B).2 := by
  intro a
  induction a with
  | zero => intro b A B; rw [Nat.zero_add]; rfl
  | succ a ih =>
    intro b A B
    rw [show a + 1 + b = (a + b) + 1 by omega]
    show vDl C (a + b) _ _ = vDl C b (vDl C a _ _).1 (vDl C a _ _).2
    exact ih _ _ _
theorem nle {a b : Nat} (ha : a < 2147483648) (hb : b < 2147483648) : nI a ≤ nI b ↔ a ≤ b := by
  rw [Int32.le_iff_toInt_le, nI_toInt ha, nI_toInt hb]; omega
theorem nlt {a b : Nat} (ha : a < 2147483648) (hb : b < 2147483648) : nI a < nI b ↔ a < b := by
  rw [Int32.lt_iff_toInt_lt, nI_toInt ha, nI_toInt hb]; omega
theorem npos {a : Nat} (ha : a < 2147483648) : 0 < nI a ↔ 0 < a := by
  rw [← nI_0]; exact nlt (by decide) ha
/-- the first pieces: up to the whole parts -/
theorem dl_one {C : Nat} {a : Nat → Nat} (hC : 0 < C) (ha : ∀ h, h < 6 → a h < 2147483648) (hC2 : C < 2147483648) : ∀ k (x : Nat → Nat) (A B : Nat → Int32), (∀ h, h < 6 → A h = nI (x h) ∧ B h = nI (a h - C * x h) ∧ x h ≤ a h / C) → sN6 6 x + k = sN6 6 (fun h => a h / C) → ∀ h, h < 6 → (vDl (nI C) k A B).1 h = nI (a h / C) ∧ (vDl (nI C) k A B).2 h = nI (a h % C) := by
  intro k
  induction k with
  | zero =>
    intro x A B hx hS h hh
    have e : x h = a h / C := by
      have l0 := (hx 0 (by decide)).2.2
      have l1 := (hx 1 (by decide)).2.2
      have l2 := (hx 2 (by decide)).2.2
      have l3 := (hx 3 (by decide)).2.2
      have l4 := (hx 4 (by decide)).2.2
      have l5 := (hx 5 (by decide)).2.2
      simp only [sN6] at hS
      rcases (by omega : h = 0 ∨ h = 1 ∨ h = 2 ∨ h = 3 ∨ h = 4 ∨ h = 5) with e | e | e | e | e | e <;> subst e <;> omega
    refine ⟨((hx h hh).1).trans (by rw [e]), ((hx h hh).2.1).trans ?_⟩
    rw [e]
    congr 1
    have := Nat.div_add_mod (a h) C
    omega
  | succ k ih =>
    intro x A B hx hS
    have hm := amx_max (B := B) 5
    have hb := amx_le (B := B) 5
    have ex : ∃ p, p < 6 ∧ x p < a p / C := by
      by_cases e : ∃ p, p < 6 ∧ x p < a p / C
      · exact e
      · exfalso
        have : sN6 6 (fun h => a h / C) ≤ sN6 6 x := sN6_le 6 (fun i hi => Nat.not_lt.mp (fun z => e ⟨i, hi, z⟩))
        omega
    obtain ⟨p, hp, hlt⟩ := ex
    generalize hM : amx B 5 = M at hm hb
    have hM6 : M < 6 := by omega
    have hle := hm.1 p (by omega)
    have bp := (hx p hp).2.1
    have bm := (hx M hM6).2.1
    have ap := ha p hp
    have am := ha M hM6
    rw [bp, bm, nle (by omega) (by omega)] at hle
    have q1 : C * (x p + 1) ≤ a p := Nat.le_trans (Nat.mul_le_mul_left C hlt) (Nat.mul_div_le (a p) C)
    have q2 : C * (x p + 1) = C * x p + C := Nat.mul_succ C (x p)
    have q3 : C * (x M + 1) = C * x M + C := Nat.mul_succ C (x M)
    have q4 : C * (x M + 1) ≤ a M := by omega
    have q5 : x M + 1 ≤ a M / C := (Nat.le_div_iff_mul_le hC).mpr (by rw [Nat.mul_comm]; exact q4)
    show ∀ h, h < 6 → (vDl (nI C) k (vup A (amx B 5) (A (amx B 5) + nI 1)) (vup B (amx B 5) (B (amx B 5) - nI C))).1 h = nI (a h / C) ∧ (vDl (nI C) k (vup A (amx B 5) (A (amx B 5) + nI 1)) (vup B (amx B 5) (B (amx B 5) - nI C))).2 h = nI (a h % C)
    rw [hM]
    refine ih (fun i => if i = M then x i + 1 else x i) _ _ (fun h hh => ?_) ?_
    · by_cases e : h = M
      · subst e
        rw [if_pos rfl, updE, updE, (hx h hh).1, bm]
        refine ⟨nI_add _ _, ?_, q5⟩
        rw [nI_sub (by omega)]
        congr 1
        omega
      · rw [if_neg e, updJ e, updJ e]
        exact hx h hh
    · rw [sN6_upd 6 hM6]; omega
/-- pool and claims as numbers -/
def shD (n : Nat) (V : Nat → Int32) (P : Nat) (c : Nat → Nat) : Prop := mPooled V = nI P ∧ (∀ h, h < 6 → mClaim n V h = nI (c h)) ∧ P * sN6 6 c < 2147483648 ∧ sN6 6 c < 2147483648 ∧ P < 2147483648
theorem shD.cl {n P : Nat} {V : Nat → Int32} {c : Nat → Nat} (H : shD n V P c) : mClaims n V = nI (sN6 6 c) := sumN_nI 6 H.2.1
theorem c_le {c : Nat → Nat} {h : Nat} (hh : h < 6) : c h ≤ sN6 6 c := by
  simp only [sN6]
  rcases (by omega : h = 0 ∨ h = 1 ∨ h = 2 ∨ h = 3 ∨ h = 4 ∨ h = 5) with e | e | e | e | e | e <;> subst e <;> omega
theorem shD.a {n P : Nat} {V : Nat → Int32} {c : Nat → Nat} (H : shD n V P c) {h : Nat} (hh : h < 6) : P * c h < 2147483648 := Nat.lt_of_le_of_lt (Nat.mul_le_mul_left P (c_le hh)) H.2.2.1
theorem shD.pt {n P : Nat} {V : Nat → Int32} {c : Nat → Nat} (H : shD n V P c) {h : Nat} (hh : h < 6) : vPt n V h = nI (P * c h / sN6 6 c) := by
  unfold vPt
  rw [H.1, H.2.1 h hh, H.cl, nI_mul, nI_div (H.a hh) H.2.2.2.1]
theorem shD.rs {n P : Nat} {V : Nat → Int32} {c : Nat → Nat} (H : shD n V P c) {h : Nat} (hh : h < 6) : vRs n V h = nI (P * c h % sN6 6 c) := by
  unfold vRs
  rw [H.1, H.2.1 h hh, H.cl, nI_mul, nI_mod (H.a hh) H.2.2.2.1]
theorem six {P C : Nat} {c : Nat → Nat} (hC : C = sN6 6 c) : sN6 6 (fun h => C * (P * c h / C)) + sN6 6 (fun h => P * c h % C) = C * P := by
  have e : ∀ h, C * (P * c h / C) + P * c h % C = P * c h := fun h => Nat.div_add_mod (P * c h) C
  have e0 := e 0
  have e1 := e 1
  have e2 := e 2
  have e3 := e 3
  have e4 := e 4
  have e5 := e 5
  have t : P * sN6 6 c = P * c 0 + P * c 1 + P * c 2 + P * c 3 + P * c 4 + P * c 5 := by
    simp only [sN6, Nat.mul_add, Nat.mul_zero, Nat.zero_add]
  rw [Nat.mul_comm C P, hC, t, ← hC]
  simp only [sN6]
  omega
theorem sixm {C : Nat} {q : Nat → Nat} : sN6 6 (fun h => C * q h) = C * sN6 6 q := by
  simp only [sN6, Nat.mul_add, Nat.mul_zero]
theorem shD.le {n P : Nat} {V : Nat → Int32} {c : Nat → Nat} (_H : shD n V P c) (hC : 0 < sN6 6 c) : sN6 6 (fun h => P * c h / sN6 6 c) ≤ P ∧ sN6 6 c * (P - sN6 6 (fun h => P * c h / sN6 6 c)) = sN6 6 (fun h => P * c h % sN6 6 c) := by
  have s := six (P := P) (c := c) (C := sN6 6 c) rfl
  rw [sixm] at s
  generalize sN6 6 c = C at *
  generalize sN6 6 (fun h => P * c h / C) = S at *
  have l : S ≤ P := by
    by_cases g : S ≤ P
    · exact g
    · exfalso
      have : C * (P + 1) ≤ C * S := Nat.mul_le_mul_left C (by omega)
      rw [Nat.mul_succ] at this
      omega
  refine ⟨l, ?_⟩
  rw [Nat.mul_sub]
  omega
theorem shD.left {n P : Nat} {V : Nat → Int32} {c : Nat → Nat} (H : shD n V P c) (hC : 0 < sN6 6 c) : vLeft n V = nI (P - sN6 6 (fun h => P * c h / sN6 6 c)) := by
  have hl := (H.le hC).1
  have K : ∀ k, k ≤ 6 → subN (nI P) (vPt n V) k = nI (P - sN6 k (fun h => P * c h / sN6 6 c)) ∧ sN6 k (fun h => P * c h / sN6 6 c) ≤ sN6 6 (fun h => P * c h / sN6 6 c) := by
    intro k
    induction k with
    | zero => intro _; exact ⟨rfl, Nat.zero_le _⟩
    | succ k ih =>
      intro hk
      obtain ⟨i1, _⟩ := ih (by omega)
      have mono : ∀ j, k + 1 + j = 6 → sN6 (k + 1) (fun h => P * c h / sN6 6 c) ≤ sN6 6 (fun h => P * c h / sN6 6 c) := by
        intro j hj
        have M : ∀ j (f : Nat → Nat), sN6 (k + 1) f ≤ sN6 (k + 1 + j) f := by
          intro j f
          induction j with
          | zero => exact Nat.le_refl _
          | succ j ihj =>
            show sN6 (k + 1) f ≤ sN6 (k + 1 + j) f + f (k + 1 + j)
            omega
        have := M j (fun h => P * c h / sN6 6 c)
        rw [hj] at this
        exact this
      have m6 := mono (6 - (k + 1)) (by omega)
      refine ⟨?_, m6⟩
      have e1 : sN6 (k + 1) (fun h => P * c h / sN6 6 c) = sN6 k (fun h => P * c h / sN6 6 c) + P * c k / sN6 6 c := rfl
      rw [subN, i1, H.pt (by omega), nI_sub (by omega)]
      congr 1
      omega
  unfold vLeft
  rw [H.1]
  exact (K 6 (by decide)).1
theorem posF_nI {B : Nat → Int32} {r : Nat → Nat} (h : ∀ i, i < 6 → B i = nI (r i)) (hr : ∀ i, i < 6 → r i < 2147483648) : posF B = sN6 6 (fun i => if 0 < r i then 1 else 0) := by
  refine sN6_congr 6 (fun i hi => ?_)
  rw [h i hi]
  by_cases g : 0 < r i
  · rw [if_pos g, if_pos ((npos (hr i hi)).mpr g)]
  · rw [if_neg g, if_neg (fun z => g ((npos (hr i hi)).mp z))]
theorem left_pos {C L : Nat} {r : Nat → Nat} (hC : 0 < C) (hr : ∀ i, i < 6 → r i < C) (e : C * L = sN6 6 r) : L ≤ sN6 6 (fun i => if 0 < r i then 1 else 0) ∧ L ≤ 5 := by
  obtain ⟨K, rfl⟩ : ∃ K, C = K + 1 := ⟨C - 1, by omega⟩
  have l : sN6 6 r ≤ sN6 6 (fun i => K * (if 0 < r i then 1 else 0)) := by
    refine sN6_le 6 (fun i hi => ?_)
    have := hr i hi
    by_cases g : 0 < r i
    · rw [if_pos g]; omega
    · rw [if_neg g]; omega
  rw [sixm] at l
  generalize hS : sN6 6 (fun i => if 0 < r i then 1 else 0) = S at *
  have hS6 : S ≤ 6 := by
    rw [← hS]
    have : sN6 6 (fun i => if 0 < r i then 1 else 0) ≤ sN6 6 (fun _ => 1) := sN6_le 6 (fun i _ => by split <;> omega)
    exact this
  have a : L ≤ S := by
    by_cases g : L ≤ S
    · exact g
    · exfalso
      have : (K + 1) * (S + 1) ≤ (K + 1) * L := Nat.mul_le_mul_left _ (by omega)
      rw [Nat.mul_succ, Nat.succ_mul] at this
      omega
  refine ⟨a, ?_⟩
  by_cases g : L ≤ 5
  · exact g
  · exfalso
    have : (K + 1) * 6 ≤ (K + 1) * L := Nat.mul_le_mul_left _ (by omega)
    have : K * S ≤ K * 6 := Nat.mul_le_mul_left _ hS6
    omega
theorem shD.pos {n P : Nat} {V : Nat → Int32} {c : Nat → Nat} (H : shD n V P c) (hC : 0 < sN6 6 c) : P - sN6 6 (fun h => P * c h / sN6 6 c) ≤ posF (vRs n V) ∧ P - sN6 6 (fun h => P * c h / sN6 6 c) ≤ 5 := by
  have hr : ∀ i, i < 6 → P * c i % sN6 6 c < sN6 6 c := fun i _ => Nat.mod_lt _ hC
  rw [posF_nI (r := fun i => P * c i % sN6 6 c) (fun i hi => H.rs hi) (fun i hi => Nat.lt_trans (hr i hi) H.2.2.2.1)]
  exact left_pos hC hr (H.le hC).2
theorem Sim.rf {B : Nat → Int32} : Sim B B := fun _ _ _ => rfl
theorem shD.parts {n P : Nat} {V : Nat → Int32} {c : Nat → Nat} (H : shD n V P c) (hC : 0 < sN6 6 c) {h : Nat} : vParts n V h = (vHam (P - sN6 6 (fun h => P * c h / sN6 6 c)) (vPt n V) (vRs n V)).1 h := by
  unfold vParts
  have hl := H.2.2.2.2
  rw [ifp_f (by rw [H.cl, nI_eq0 H.2.2.2.1]; omega), H.left hC, nI_clamp (by omega)]
theorem shD.div {n P : Nat} {V W1 W2 : Nat → Int32} {c : Nat → Nat} (H : shD n V P c) (hC : 0 < sN6 6 c) {h : Nat} (hh : h < 6) : (vHz (P - sN6 6 (fun h => P * c h / sN6 6 c)) (fil W1 6 (vPt n V)) (fil W2 6 (vRs n V))).1 h = vParts n V h := by
  rw [vHz_ag _ fil6 fil6 h hh, H.parts hC, ham_hz _ _ _ _ Sim.rf (H.pos hC).1]
theorem shD.deal {n P : Nat} {V W1 W2 : Nat → Int32} {c : Nat → Nat} (H : shD n V P c) (hC : 0 < sN6 6 c) {h : Nat} (hh : h < 6) : (vDl (mClaims n V) P (fil W1 6 (fun _ => nI 0)) (fil W2 6 (vDu n V))).1 h = vParts n V h := by
  rw [vDl_ag P fil6 fil6 h hh, H.parts hC, H.cl]
  have hle := (H.le hC).1
  have st := dl_one (a := fun h => P * c h) hC (fun h hh => H.a hh) H.2.2.2.1 (sN6 6 (fun h => P * c h / sN6 6 c)) (fun _ => 0) (fun _ => nI 0) (vDu n V) (fun h hh => ⟨rfl, by unfold vDu; rw [H.1, H.2.1 h hh, nI_mul, Nat.mul_zero, Nat.sub_zero], Nat.zero_le _⟩) (by simp only [sN6]; omega)
  have ePL : P = sN6 6 (fun h => P * c h / sN6 6 c) + (P - sN6 6 (fun h => P * c h / sN6 6 c)) := by omega
  have e2 : vDl (nI (sN6 6 c)) P (fun _ => nI 0) (vDu n V) = vDl (nI (sN6 6 c)) (sN6 6 (fun h => P * c h / sN6 6 c) + (P - sN6 6 (fun h => P * c h / sN6 6 c))) (fun _ => nI 0) (vDu n V) := congrArg (fun z => vDl (nI (sN6 6 c)) z (fun _ => nI 0) (vDu n V)) ePL
  rw [e2, vDl_add]
  rw [vDl_ag (A2 := vPt n V) (B2 := vRs n V) _ (fun h hh => (st h hh).1.trans (H.pt hh).symm) (fun h hh => (st h hh).2.trans (H.rs hh).symm) h hh]
  rw [ham_dl _ _ _ _ Sim.rf (H.pos hC).1]
  intro i hi _
  rw [H.rs hi]
  have hr : P * c i % sN6 6 c < sN6 6 c := Nat.mod_lt _ hC
  have hc := H.2.2.2.1
  rw [Int32.le_iff_toInt_le, Int32.toInt_sub, nI_toInt (by omega), nI_toInt (by omega), show (0 : Int32).toInt = 0 from rfl]
  rw [Int.bmod_eq_of_le (by omega) (by omega)]
  omega
/-- the parts as numbers: all of the pool -/
theorem ham_nat : ∀ L (A B : Nat → Int32) (y : Nat → Nat), (∀ h, h < 6 → A h = nI (y h)) → ∃ z : Nat → Nat, (∀ h, h < 6 → (vHam L A B).1 h = nI (z h)) ∧ sN6 6 z = sN6 6 y + L := by
  intro L
  induction L with
  | zero => intro A B y h; exact ⟨y, h, rfl⟩
  | succ L ih =>
    intro A B y h
    have b := amx_le (B := B) 5
    obtain ⟨z, h1, h2⟩ := ih (vup A (amx B 5) (A (amx B 5) + nI 1)) (vup B (amx B 5) (-1)) (fun i => if i = amx B 5 then y i + 1 else y i) (fun i hi => by
      by_cases g : i = amx B 5
      · rw [if_pos g, g, updE, h _ (by omega), nI_add]
      · rw [if_neg g, updJ g, h i hi])
    refine ⟨z, h1, ?_⟩
    rw [h2, sN6_upd 6 (by omega)]
    omega
theorem shD.sum {n P : Nat} {V : Nat → Int32} {c : Nat → Nat} (H : shD n V P c) (hC : 0 < sN6 6 c) : ∃ z : Nat → Nat, (∀ h, h < 6 → vParts n V h = nI (z h)) ∧ sN6 6 z = P := by
  have hle := (H.le hC).1
  obtain ⟨z, h1, h2⟩ := ham_nat (P - sN6 6 (fun h => P * c h / sN6 6 c)) (vPt n V) (vRs n V) (fun h => P * c h / sN6 6 c) (fun h hh => H.pt hh)
  refine ⟨z, fun h hh => ?_, by omega⟩
  rw [H.parts hC]
  exact h1 h hh
