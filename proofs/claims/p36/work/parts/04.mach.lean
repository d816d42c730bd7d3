/-! the abstract machine: cells by number, ints alone as contents -/
abbrev Mm : Type := Nat → Nat → Int32
def mup (D : Mm) (c j : Nat) (x : Int32) : Mm := fun c2 j2 => if c2 = c then (if j2 = j then x else D c2 j2) else D c2 j2
abbrev Shp : Type := Nat × Nat × List (Option Nat)
def shL : List Shp := [(7, 9, [some 1, some 15, none, some 155, some 157, some 160, some 165, some 169, some 170]), (5, 11, [some 2, some 11, some 12, some 13, some 14, none, none, none, none, none, none]), (6, 9, [some 3, some 4, some 5, some 6, some 7, some 8, some 9, some 10, none]), (20, 12, []), (20, 12, []), (20, 12, []), (20, 12, []), (20, 12, []), (20, 12, []), (20, 12, []), (20, 12, []), (21, 6, []), (20, 6, []), (20, 6, []), (20, 6, []), (5, 11, [some 16, some 25, some 26, some 27, some 28, none, none, none, none, none, none]), (6, 9, [some 17, some 18, some 19, some 20, some 21, some 22, some 23, some 24, none]), (20, 12, []), (20, 12, []), (20, 12, []), (20, 12, []), (20, 12, []), (20, 12, []), (20, 12, []), (20, 12, []), (21, 6, []), (20, 6, []), (20, 6, []), (20, 6, []), (5, 11, [some 30, some 39, some 40, some 41, some 42, none, none, none, none, none, none]), (6, 9, [some 31, some 32, some 33, some 34, some 35, some 36, some 37, some 38, none]), (20, 12, []), (20, 12, []), (20, 12, []), (20, 12, []), (20, 12, []), (20, 12, []), (20, 12, []), (20, 12, []), (21, 6, []), (20, 6, []), (20, 6, []), (20, 6, []), (5, 11, [some 44, some 53, some 54, some 55, some 56, none, none, none, none, none, none]), (6, 9, [some 45, some 46, some 47, some 48, some 49, some 50, some 51, some 52, none]), (20, 12, []), (20, 12, []), (20, 12, []), (20, 12, []), (20, 12, []), (20, 12, []), (20, 12, []), (20, 12, []), (21, 6, []), (20, 6, []), (20, 6, []), (20, 6, []), (5, 11, [some 58, some 67, some 68, some 69, some 70, none, none, none, none, none, none]), (6, 9, [some 59, some 60, some 61, some 62, some 63, some 64, some 65, some 66, none]), (20, 12, []), (20, 12, []), (20, 12, []), (20, 12, []), (20, 12, []), (20, 12, []), (20, 12, []), (20, 12, []), (21, 6, []), (20, 6, []), (20, 6, []), (20, 6, []), (5, 11, [some 72, some 81, some 82, some 83, some 84, none, none, none, none, none, none]), (6, 9, [some 73, some 74, some 75, some 76, some 77, some 78, some 79, some 80, none]), (20, 12, []), (20, 12, []), (20, 12, []), (20, 12, []), (20, 12, []), (20, 12, []), (20, 12, []), (20, 12, []), (21, 6, []), (20, 6, []), (20, 6, []), (20, 6, []), (5, 11, [some 86, some 95, some 96, some 97, some 98, none, none, none, none, none, none]), (6, 9, [some 87, some 88, some 89, some 90, some 91, some 92, some 93, some 94, none]), (20, 12, []), (20, 12, []), (20, 12, []), (20, 12, []), (20, 12, []), (20, 12, []), (20, 12, []), (20, 12, []), (21, 6, []), (20, 6, []), (20, 6, []), (20, 6, []), (5, 11, [some 100, some 109, some 110, some 111, some 112, none, none, none, none, none, none]), (6, 9, [some 101, some 102, some 103, some 104, some 105, some 106, some 107, some 108, none]), (20, 12, []), (20, 12, []), (20, 12, []), (20, 12, []), (20, 12, []), (20, 12, []), (20, 12, []), (20, 12, []), (21, 6, []), (20, 6, []), (20, 6, []), (20, 6, []), (5, 11, [some 114, some 123, some 124, some 125, some 126, none, none, none, none, none, none]), (6, 9, [some 115, some 116, some 117, some 118, some 119, some 120, some 121, some 122, none]), (20, 12, []), (20, 12, []), (20, 12, []), (20, 12, []), (20, 12, []), (20, 12, []), (20, 12, []), (20, 12, []), (21, 6, []), (20, 6, []), (20, 6, []), (20, 6, []), (5, 11, [some 128, some 137, some 138, some 139, some 140, none, none, none, none, none, none]), (6, 9, [some 129, some 130, some 131, some 132, some 133, some 134, some 135, some 136, none]), (20, 12, []), (20, 12, []), (20, 12, []), (20, 12, []), (20, 12, []), (20, 12, []), (20, 12, []), (20, 12, []), (21, 6, []), (20, 6, []), (20, 6, []), (20, 6, []), (5, 11, [some 142, some 151, some 152, some 153, some 154, none, none, none, none, none, none]), (6, 9, [some 143, some 144, some 145, some 146, some 147, some 148, some 149, some 150, none]), (20, 12, []), (20, 12, []), (20, 12, []), (20, 12, []), (20, 12, []), (20, 12, []), (20, 12, []), (20, 12, []), (21, 6, []), (20, 6, []), (20, 6, []), (20, 6, []), (1, 3, [some 156, none, none]), (23, 9, [some 29, some 43, some 57, some 71, some 85, some 99, some 113, some 127, some 141]), (3, 3, [some 158, some 159, none]), (20, 3, []), (20, 3, []), (2, 6, [some 161, some 162, some 163, some 164, none, none]), (20, 60, []), (20, 60, []), (20, 60, []), (20, 60, []), (4, 3, [some 166, some 167, some 168]), (20, 6, []), (20, 6, []), (20, 6, []), (0, 4, [some 181, none, none, none]), (0, 4, [some 182, none, none, none]), (99, 0, []), (99, 0, []), (99, 0, []), (99, 0, []), (99, 0, []), (99, 0, []), (99, 0, []), (99, 0, []), (99, 0, []), (99, 0, []), (22, 0, []), (22, 0, [])]
def sh (a : Nat) : Shp := shL.getD a (99, 0, [])
def NS : Nat := 173
def DB : Nat := 5000
def LEN : Nat := 1000000
def KND : Nat := 1000001
def cap (D : Mm) (o : Nat) : Nat := (D o LEN).toNatClampNeg
def kd (D : Mm) (o : Nat) : Nat := (D o KND).toNatClampNeg
def nxt (D : Mm) : Nat := (D 4500 0).toNatClampNeg
def usd (D : Mm) : Nat := (D 4500 1).toNatClampNeg
def pot (D : Mm) : Nat := cap D 181 + cap D 182 + usd D
def dv (D : Mm) (o : Nat) : Prop := DB ≤ o ∧ o < DB + nxt D
def dyn (D : Mm) (o k : Nat) : Prop := dv D o ∧ kd D o = k
def nF (k : Nat) : Nat := if k = 8 then 1 else 4
def rfB (k c : Nat) : Bool := (k == 0 || k == 9) && c == 0
def rv (x : Int32) : Value := if DB ≤ x.toNatClampNeg then .ref x.toNatClampNeg else .null
def dvl (D : Mm) (o k c : Nat) : Value := if rfB k c = true then rv (D o c) else .int (D o c)
def kb (b : Nat) : Nat := if b = 25 then 9 else b
def okr (D : Mm) (a : Nat) : Prop := a < DB ∨ dv D a
def okV (D : Mm) (v : Value) : Prop := match v with
  | .ref a => okr D a
  | _ => True
def nvV (D : Mm) (v : Value) : Prop := match v with
  | .ref a => a ≠ 181 ∧ a ≠ 182 ∧ okr D a
  | _ => True
def lsok (D : Mm) (ls : List Value) : Prop := ∀ v, v ∈ ls → okV D v
/-- a cell is made: its row f, n places -/
def alD (D : Mm) (f : Nat → Int32) (n : Nat) : Mm := fun c j => if c = DB + nxt D then f j else if c = 4500 then (if j = 0 then nI (nxt D + 1) else if j = 1 then nI (usd D + (n + 1)) else D c j) else D c j
def rwO (b : Nat) : Nat → Int32 := fun j => if j = KND then nI b else if rfB b j = true then -1 else 0
def rwA (k n : Nat) : Nat → Int32 := fun j => if j = KND then nI k else if j = LEN then nI n else 0
def fitU (D : Mm) (n : Nat) : Prop := usd D + (n + 1) ≤ 2000000 ∧ nxt D ≤ usd D
/-- the bytes that are copied: a text's of the constants, or a cell's -/
def nvB : Value → Bool
  | .int _ => true
  | .ref a => !(a == 181) && !(a == 182) && decide (a < 5000)
  | .retAddr _ => true
  | _ => false
def c1B : Value → Bool
  | .int _ => true
  | .ref _ => true
  | .retAddr _ => true
  | .null => true
  | .float _ => true
  | _ => false
def strB : List (List Int32) := [[115, 98, 111, 119, 112, 100, 109, 104, 101, 116], [49, 58, 50, 47, 49], [50, 42, 50], [50, 62, 49, 61, 50], [49, 33, 50, 42, 50], [50, 43, 50], [49, 62, 49], [49], [50], [], [64], [58], [47], [62], [61], [33], [32], [120], [43]]
def dgO : List Int32 := [48, 49, 50, 51, 52, 53, 54, 55, 56, 57, 48, 49, 50, 51, 52, 53, 54, 55, 56, 57, 48, 49, 50, 51, 52, 53, 54, 55, 56, 57, 48, 49, 50, 51, 52, 53, 54, 55, 56, 57, 48, 49, 50, 51, 52, 53, 54, 55, 56, 57, 48, 49, 50, 51, 52, 53, 54, 55, 56, 57, 48, 49, 50, 51, 52, 53, 54, 55, 56, 57, 48, 49, 50, 51, 52, 53, 54, 55, 56, 57, 48, 49, 50, 51, 52, 53, 54, 55, 56, 57, 48, 49, 50, 51, 52, 53, 54, 55, 56, 57]
def dgT : List Int32 := [48, 48, 48, 48, 48, 48, 48, 48, 48, 48, 49, 49, 49, 49, 49, 49, 49, 49, 49, 49, 50, 50, 50, 50, 50, 50, 50, 50, 50, 50, 51, 51, 51, 51, 51, 51, 51, 51, 51, 51, 52, 52, 52, 52, 52, 52, 52, 52, 52, 52, 53, 53, 53, 53, 53, 53, 53, 53, 53, 53, 54, 54, 54, 54, 54, 54, 54, 54, 54, 54, 55, 55, 55, 55, 55, 55, 55, 55, 55, 55, 56, 56, 56, 56, 56, 56, 56, 56, 56, 56, 57, 57, 57, 57, 57, 57, 57, 57, 57, 57]
def roc (a : Nat) : List Int32 := if a = 3000 then dgO else if a = 3001 then dgT else strB.getD (a - 2000) []
def roK (a : Nat) : Prop := (2000 ≤ a ∧ a < 2019) ∨ a = 3000 ∨ a = 3001
def rk (o : Nat) : Nat := if 1000 ≤ o ∧ o < 1019 then 25 else (sh o).1
abbrev Ctr : Type := Nat → List Value → Mm → (Option Value → Mm → Prop) → Prop
abbrev Pst : Type := Nat → List Value → List Value → Mm → Prop
def sI (st : List Value) (f : Int32 → List Value → Prop) : Prop := match st with
  | .int a :: r => f a r
  | _ => False
def sII (st : List Value) (f : Int32 → Int32 → List Value → Prop) : Prop := match st with
  | .int b :: .int a :: r => f a b r
  | _ => False
def sA (st : List Value) (f : Nat → List Value → Prop) : Prop := match st with
  | .ref a :: r => f a r
  | _ => False
def sIA (st : List Value) (f : Nat → Int32 → List Value → Prop) : Prop := match st with
  | .int b :: .ref a :: r => f a b r
  | _ => False
def sIIA (st : List Value) (f : Nat → Int32 → Int32 → List Value → Prop) : Prop := match st with
  | .int x :: .int b :: .ref a :: r => f a b x r
  | _ => False
def lI (ls : List Value) (i : Nat) (f : Int32 → Prop) : Prop := match ls[i]? with
  | some (.int v) => f v
  | _ => False
def lA (ls : List Value) (i : Nat) (f : Nat → Prop) : Prop := match ls[i]? with
  | some (.ref v) => f v
  | _ => False
def icmp (c : ClassFile.Cond) (x y : Int32) : Prop := match c with
  | .eq => x = y
  | .ne => ¬ x = y
  | .lt => x < y
  | .ge => y ≤ x
  | .gt => y < x
  | .le => x ≤ y
def tg (pc : Nat) (off : Int) : Nat := ((pc : Int) + off).toNat
def tsel (pc : Nat) (d lo hi : Int) (os : Array Int) (x : Int32) : Option Nat := if x.toInt < lo ∨ hi < x.toInt then some (tg pc d) else (os[(x.toInt - lo).toNat]?).map (tg pc)
def callA (C : Ctr) (b : Nat) (ls st : List Value) (D : Mm) (K : List Value → Mm → Prop) : Prop :=
  nA b ≤ st.length ∧ (∀ v, v ∈ st.drop (nA b) → nvV D v ∧ c1B v = true) ∧ (st.drop (nA b)).length ≤ 8 ∧
  (nS b = 0 → ∃ o, ((st.take (nA b)).reverse)[0]? = some (.ref o) ∧ ((rk o = nC b ∧ o < 1019) ∨ (dv D o ∧ kd D o = kb (nC b) ∧ kd D o < 20))) ∧
  C b ((st.take (nA b)).reverse) D (fun r D1 => ((∀ v, v ∈ ls → nvV D v) ∨ pot D1 = pot D) ∧ K (r.toList ++ st.drop (nA b)) D1)
def retK (k : Nat) (v : Int32) : Prop := match nR k with
  | some .int => True
  | some ty => (ty = .boolean ∨ ty = .char ∨ ty = .byte) ∧ narrow ty (.int v) = .int v
  | none => False
def retA (k : Nat) : Prop := match nR k with
  | some (.object _) => True
  | some (.array _) => True
  | _ => False
def gfA (P : Pst) (b c pc : Nat) (ls : List Value) (D : Mm) (o : Nat) (r : List Value) : Prop :=
  (dyn D o (kb b) ∧ (kb b = 0 ∨ kb b = 8 ∨ kb b = 9) ∧ c < nF (kb b) ∧ (b = 25 → c < 2) ∧ P (pc + 3) ls (dvl D o (kb b) c :: r) D) ∨
  (if b = 25 then 1000 ≤ o ∧ o < 1019 ∧ (if c = 0 then P (pc + 3) ls (.ref (o + 1000) :: r) D else c = 1 ∧ P (pc + 3) ls (.int 0 :: r) D)
  else (sh o).1 = b ∧ match (sh o).2.2[c]? with
    | some none => P (pc + 3) ls (.int (D o c) :: r) D
    | some (some q) => P (pc + 3) ls (.ref q :: r) D
    | none => False)
def pfA (P : Pst) (k b c d pc : Nat) (ls : List Value) (D : Mm) (st : List Value) : Prop := match st with
  | .int v :: .ref o :: r => (dyn D o (kb b) ∧ (kb b = 0 ∨ kb b = 8 ∨ kb b = 9) ∧ c < nF (kb b) ∧ rfB (kb b) c = false ∧ (b = 25 → c = 1 ∧ (nY k).name = "<init>" ∧ nO k = 10) ∧ ((b ≠ 25 ∧ d = 0) ∨ (b ≠ 25 ∧ d = 1 ∧ (v = 0 ∨ v = 1)) ∨ ((b = 25 ∨ d = 2) ∧ fits .byte (.int v) = true ∧ narrow .byte (.int v) = .int v)) ∧ P (pc + 3) ls r (mup D o c v)) ∨
      (b < 20 ∧ (sh o).1 = b ∧ (sh o).2.2[c]? = some none ∧ (d = 0 ∨ (d = 1 ∧ (v = 0 ∨ v = 1))) ∧ P (pc + 3) ls r (mup D o c v))
  | .ref q :: .ref o :: r => dyn D o (kb b) ∧ (b = 0 ∨ (b = 25 ∧ (nY k).name = "<init>" ∧ nO k = 10)) ∧ c = 0 ∧ d = 3 ∧ dv D q ∧ P (pc + 3) ls r (mup D o c (nI q))
  | _ => False
def ialA (P : Pst) (pc : Nat) (ls : List Value) (D : Mm) (o : Nat) (i : Int32) (r : List Value) : Prop :=
  ((sh o).1 = 20 ∧ vp_in i (sh o).2.1 ∧ P (pc + 1) ls (.int (D o i.toNatClampNeg) :: r) D) ∨
  (dyn D o 20 ∧ vp_in i (cap D o) ∧ P (pc + 1) ls (.int (D o i.toNatClampNeg) :: r) D) ∨
  (o = 4000 ∧ vp_in i (cap D o) ∧ P (pc + 1) ls (.int (D o i.toNatClampNeg) :: r) D)
def iasA (P : Pst) (pc : Nat) (ls : List Value) (D : Mm) (o : Nat) (i x : Int32) (r : List Value) : Prop :=
  ((sh o).1 = 20 ∧ vp_in i (sh o).2.1 ∧ P (pc + 1) ls r (mup D o i.toNatClampNeg x)) ∨
  (dyn D o 20 ∧ vp_in i (cap D o) ∧ i.toNatClampNeg < LEN ∧ P (pc + 1) ls r (mup D o i.toNatClampNeg x))
def balA (P : Pst) (pc : Nat) (ls : List Value) (D : Mm) (o : Nat) (i : Int32) (r : List Value) : Prop :=
  ((sh o).1 = 21 ∧ vp_in i (sh o).2.1 ∧ P (pc + 1) ls (.int (D o i.toNatClampNeg) :: r) D) ∨
  ((sh o).1 = 22 ∧ vp_in i (cap D o) ∧ i.toNatClampNeg < LEN ∧ P (pc + 1) ls (.int (D o i.toNatClampNeg) :: r) D) ∨
  (roK o ∧ vp_in i (roc o).length ∧ P (pc + 1) ls (.int ((roc o).getD i.toNatClampNeg 0) :: r) D) ∨
  (dyn D o 22 ∧ vp_in i (cap D o) ∧ P (pc + 1) ls (.int (D o i.toNatClampNeg) :: r) D)
def basA (P : Pst) (pc : Nat) (ls : List Value) (D : Mm) (o : Nat) (i x : Int32) (r : List Value) : Prop :=
  ((sh o).1 = 21 ∧ vp_in i (sh o).2.1 ∧ P (pc + 1) ls r (mup D o i.toNatClampNeg (vp_nar .boolean x))) ∨
  ((sh o).1 = 22 ∧ vp_in i (cap D o) ∧ i.toNatClampNeg < LEN ∧ P (pc + 1) ls r (mup D o i.toNatClampNeg (vp_nar .byte x))) ∨
  (dyn D o 22 ∧ vp_in i (cap D o) ∧ i.toNatClampNeg < LEN ∧ P (pc + 1) ls r (mup D o i.toNatClampNeg (vp_nar .byte x)))
def alnA (P : Pst) (pc : Nat) (ls : List Value) (D : Mm) (o : Nat) (r : List Value) : Prop :=
  ((sh o).1 = 22 ∧ P (pc + 1) ls (.int (Int32.ofNat (cap D o)) :: r) D) ∨ ((sh o).1 = 20 ∧ P (pc + 1) ls (.int (Int32.ofNat (sh o).2.1) :: r) D) ∨
  (roK o ∧ P (pc + 1) ls (.int (Int32.ofNat (roc o).length) :: r) D) ∨
  ((dyn D o 22 ∨ dyn D o 20 ∨ o = 4000) ∧ P (pc + 1) ls (.int (Int32.ofNat (cap D o)) :: r) D)
/-- the bytes' row that a copy is made of: a cell's, or a constant text's -/
def csD (D : Mm) (o : Nat) : Nat → Int32 := if o < DB then fun j => (roc o).getD j 0 else D o
def csL (D : Mm) (o : Nat) : Nat := if o < DB then (roc o).length else cap D o
def cpD (D : Mm) (src dst sp dp n : Nat) : Mm := fun c j => if c = dst then va_cpy (csD D src) (D dst) sp dp n j else D c j
def cpyA (P : Pst) (pc : Nat) (ls : List Value) (D : Mm) (st : List Value) : Prop := match st with
  | .int n :: .int dp :: .ref dst :: .int sp :: .ref src :: r => (dyn D src 22 ∨ (2000 ≤ src ∧ src < 2019)) ∧ dyn D dst 22 ∧ (∀ v, v ∈ r → c1B v = true) ∧ r.length ≤ 8 ∧ 0 ≤ sp.toInt ∧ 0 ≤ dp.toInt ∧ 0 ≤ n.toInt ∧ sp.toNatClampNeg + n.toNatClampNeg ≤ csL D src ∧ dp.toNatClampNeg + n.toNatClampNeg ≤ cap D dst ∧ cap D dst ≤ 1000000 ∧
      (∀ i, i < n.toNatClampNeg → fits .byte (.int (csD D src (sp.toNatClampNeg + i))) = true) ∧ P (pc + 3) ls r (cpD D src dst sp.toNatClampNeg dp.toNatClampNeg n.toNatClampNeg)
  | _ => False
def clnA (P : Pst) (pc : Nat) (ls : List Value) (D : Mm) (st : List Value) : Prop := match st with
  | .ref a :: r => dyn D a 22 ∧ (∀ j, j < cap D a → fits .byte (.int (D a j)) = true) ∧ (∀ v, v ∈ r → c1B v = true) ∧ r.length ≤ 8 ∧ cap D a ≤ 1000000 ∧ lsok D ls ∧ lsok D st ∧ fitU D (cap D a) ∧ P (pc + 3) ls (.ref (DB + nxt D) :: r) (alD D (D a) (cap D a))
  | _ => False
def sval (b : Nat) : Option Value := match b with
  | 0 => some (.int 1)
  | 1 => some (.retAddr 1)
  | 2 => some (.ref 3000)
  | 3 => some (.ref 3001)
  | _ => none
def Step (C : Ctr) (k : Nat) (Q : Option Value → Mm → Prop) (P : Pst) (pc : Nat) (ls st : List Value) (D : Mm) : Prop :=
  match ins k pc with
  | none => False
  | some (i, _, b, c, d) => match i with
    | .iconst n => P (pc + 1) ls (.int (Int32.ofInt n) :: st) D
    | .bipush n => P (pc + 2) ls (.int (Int8.ofInt n).toInt32 :: st) D
    | .sipush n => P (pc + 3) ls (.int (Int16.ofInt n).toInt32 :: st) D
    | .iload_n x => lI ls x (fun v => P (pc + 1) ls (.int v :: st) D)
    | .iload x => lI ls x (fun v => P (pc + 2) ls (.int v :: st) D)
    | .aload_n x => lA ls x (fun v => P (pc + 1) ls (.ref v :: st) D)
    | .aload x => lA ls x (fun v => P (pc + 2) ls (.ref v :: st) D)
    | .istore_n x => sI st (fun v r => (x : Nat) < ls.length ∧ P (pc + 1) (ls.set x (.int v)) r D)
    | .istore x => sI st (fun v r => x < ls.length ∧ P (pc + 2) (ls.set x (.int v)) r D)
    | .astore_n x => sA st (fun v r => (x : Nat) < ls.length ∧ P (pc + 1) (ls.set x (.ref v)) r D)
    | .astore x => sA st (fun v r => x < ls.length ∧ P (pc + 2) (ls.set x (.ref v)) r D)
    | .iinc x n => lI ls x (fun v => P (pc + 3) (ls.set x (.int (v + Int32.ofInt n))) st D)
    | .iadd => sII st (fun x y r => P (pc + 1) ls (.int (x + y) :: r) D)
    | .isub => sII st (fun x y r => P (pc + 1) ls (.int (x - y) :: r) D)
    | .imul => sII st (fun x y r => P (pc + 1) ls (.int (x * y) :: r) D)
    | .iand => sII st (fun x y r => P (pc + 1) ls (.int (x &&& y) :: r) D)
    | .ior => sII st (fun x y r => P (pc + 1) ls (.int (x ||| y) :: r) D)
    | .idiv => sII st (fun x y r => (¬ y = 0) ∧ P (pc + 1) ls (.int (x / y) :: r) D)
    | .irem => sII st (fun x y r => (¬ y = 0) ∧ P (pc + 1) ls (.int (x - x / y * y) :: r) D)
    | .ishr => sII st (fun x y r => P (pc + 1) ls (.int (x >>> (y &&& 31)) :: r) D)
    | .ineg => sI st (fun x r => P (pc + 1) ls (.int (-x) :: r) D)
    | .i2b => sI st (fun x r => P (pc + 1) ls (.int x.toInt8.toInt32 :: r) D)
    | .i2c => sI st (fun x r => P (pc + 1) ls (.int (x.toUInt32 % 65536).toInt32 :: r) D)
    | .dup => match st with
      | v :: r => c1B v = true ∧ P (pc + 1) ls (v :: v :: r) D
      | _ => False
    | .dup_x1 => match st with
      | v :: w :: r => c1B v = true ∧ c1B w = true ∧ P (pc + 1) ls (v :: w :: v :: r) D
      | _ => False
    | .dup2 => match st with
      | v :: w :: r => c1B v = true ∧ c1B w = true ∧ P (pc + 1) ls (v :: w :: v :: w :: r) D
      | _ => False
    | .pop => match st with
      | v :: r => c1B v = true ∧ P (pc + 1) ls r D
      | _ => False
    | .ifCond cd off => sI st (fun x r => (icmp cd x 0 → P (tg pc off) ls r D) ∧ (¬ icmp cd x 0 → P (pc + 3) ls r D))
    | .if_icmp cd off => sII st (fun x y r => (icmp cd x y → P (tg pc off) ls r D) ∧ (¬ icmp cd x y → P (pc + 3) ls r D))
    | .goto off => P (tg pc off) ls st D
    | .tableswitch dd lo hi os => sI st (fun x r => ∃ t, tsel pc dd lo hi os x = some t ∧ P t ls r D)
    | .getfield _ => sA st (fun o r => gfA P b c pc ls D o r)
    | .putfield _ => pfA P k b c d pc ls D st
    | .iaload => sIA st (fun o i r => ialA P pc ls D o i r)
    | .baload => sIA st (fun o i r => balA P pc ls D o i r)
    | .iastore => sIIA st (fun o i x r => iasA P pc ls D o i x r)
    | .bastore => sIIA st (fun o i x r => basA P pc ls D o i x r)
    | .arraylength => sA st (fun o r => alnA P pc ls D o r)
    | .aaload => sIA st (fun o i r => (sh o).1 = 23 ∧ vp_in i (sh o).2.1 ∧ ∃ q, (sh o).2.2[i.toNatClampNeg]? = some (some q) ∧ P (pc + 1) ls (.ref q :: r) D)
    | .invokevirtual _ => (b < mnames ∧ (c = 0 ∨ c = 2 ∨ c = 6) ∧ callA C b ls st D (fun st2 D1 => P (pc + 3) ls st2 D1)) ∨ (b = 997 ∧ clnA P pc ls D st)
    | .invokestatic _ => (b < mnames ∧ c = 1 ∧ callA C b ls st D (fun st2 D1 => P (pc + 3) ls st2 D1)) ∨ (b = 998 ∧ cpyA P pc ls D st)
    | .invokespecial _ => (b < mnames ∧ (c = 3 ∨ c = 4) ∧ callA C b ls st D (fun st2 D1 => P (pc + 3) ls st2 D1)) ∨ (b = 996 ∧ (∀ v, v ∈ st → c1B v = true) ∧ st.length ≤ 8 ∧ sA st (fun _ r => P (pc + 3) ls r D))
    | .new _ => (b = 0 ∨ b = 8 ∨ b = 9) ∧ lsok D ls ∧ lsok D st ∧ fitU D (nF b) ∧ P (pc + 3) ls (.ref (DB + nxt D) :: st) (alD D (rwO b) (nF b))
    | .newarray ty => sI st (fun x r => ((ty = .int ∧ P (pc + 2) ls (.ref (DB + nxt D) :: r) (alD D (rwA 20 x.toNatClampNeg) x.toNatClampNeg)) ∨ (ty = .byte ∧ P (pc + 2) ls (.ref (DB + nxt D) :: r) (alD D (rwA 22 x.toNatClampNeg) x.toNatClampNeg))) ∧ 0 ≤ x.toInt ∧ x.toNatClampNeg ≤ 1000000 ∧ lsok D ls ∧ lsok D r ∧ fitU D x.toNatClampNeg)
    | .aconst_null => P (pc + 1) ls (.null :: st) D
    | .if_acmp cd off => match st with
      | .ref y :: .ref x :: r => cd = .ne ∧ dv D x ∧ dv D y ∧ (¬ x = y → P (tg pc off) ls r D) ∧ (x = y → P (pc + 3) ls r D)
      | _ => False
    | .ifnonnull off => sA st (fun _ r => P (tg pc off) ls r D)
    | .instanceof _ => sA st (fun o r => b = 0 ∧ dyn D o 9 ∧ P (pc + 3) ls (.int 1 :: r) D)
    | .checkcast _ => sA st (fun o r => ((b = 0 ∧ dyn D o 9) ∨ (b = 1 ∧ dyn D o 22)) ∧ P (pc + 3) ls (.ref o :: r) D)
    | .iushr => sII st (fun x y r => P (pc + 1) ls (.int ((x.toUInt32 >>> (y.toUInt32 &&& Int32.toUInt32 31)).toInt32) :: r) D)
    | .ishl => sII st (fun x y r => P (pc + 1) ls (.int (x <<< (y &&& 31)) :: r) D)
    | .i2d => sI st (fun x r => P (pc + 1) ls (.double (FP.i2d x) :: r) D)
    | .i2f => sI st (fun x r => P (pc + 1) ls (.float (FP.i2f x) :: r) D)
    | .ddiv => match st with
      | .double y :: .double x :: r => vf_n64 (FP.ddiv x y) ∧ P (pc + 1) ls (.double (FP.ddiv x y) :: r) D
      | _ => False
    | .fdiv => match st with
      | .float y :: .float x :: r => vf_n32 (FP.fdiv x y) ∧ P (pc + 1) ls (.float (FP.fdiv x y) :: r) D
      | _ => False
    | .dcmp op => match st with
      | .double y :: .double x :: r => P (pc + 1) ls (.int (Op.cmpValue (FP.dcmp x y) op) :: r) D
      | _ => False
    | .fcmp op => match st with
      | .float y :: .float x :: r => P (pc + 1) ls (.int (Op.cmpValue (FP.fcmp x y) op) :: r) D
      | _ => False
    | .dconst n => n = 0 ∧ P (pc + 1) ls (.double FP.dconst0 :: st) D
    | .fconst n => n = 0 ∧ P (pc + 1) ls (.float FP.fconst0 :: st) D
    | .dload x => match ls[x]? with
      | some (.double v) => ls[x + 1]? = some (.retAddr 2) ∧ P (pc + 2) ls (.double v :: st) D
      | _ => False
    | .dstore x => match st with
      | .double v :: r => x + 1 < ls.length ∧ P (pc + 2) ((ls.set x (.double v)).set (x + 1) (.retAddr 2)) r D
      | _ => False
    | .fload x => match ls[x]? with
      | some (.float v) => P (pc + 2) ls (.float v :: st) D
      | _ => False
    | .fstore x => match st with
      | .float v :: r => x < ls.length ∧ P (pc + 2) (ls.set x (.float v)) r D
      | _ => False
    | .dreturn => match st with
      | [.double v] => nR k = some .double ∧ Q (some (.double v)) D
      | _ => False
    | .freturn => match st with
      | [.float v] => nR k = some .float ∧ Q (some (.float v)) D
      | _ => False
    | .getstatic _ => ∃ v, sval b = some v ∧ P (pc + 3) ls (v :: st) D
    | .ldc _ => (b = 1 ∧ c < 19 ∧ P (pc + 2) ls (.ref (1000 + c) :: st) D) ∨ (b = 2 ∧ ∃ f, ctab[c]? = some f ∧ P (pc + 2) ls (.int f.2.2.2 :: st) D)
    | .ireturn => match st with
      | [.int v] => retK k v ∧ Q (some (.int v)) D
      | _ => False
    | .areturn => match st with
      | [.ref o] => nvV D (.ref o) ∧ retA k ∧ Q (some (.ref o)) D
      | _ => False
    | .return_ => nR k = none ∧ st = [] ∧ Q none D
    | _ => False

