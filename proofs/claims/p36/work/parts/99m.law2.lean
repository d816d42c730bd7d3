/-! the law's body: a round's beginning -/
theorem and_255 (x : Int32) : ∃ Y, Y ≤ 255 ∧ x &&& nI 255 = nI Y := by
  refine ⟨x.toUInt32.toNat % 256, by omega, ?_⟩
  apply Int32.toBitVec_inj.mp
  apply BitVec.eq_of_toNat_eq
  show (x.toBitVec &&& 255#32).toNat = (BitVec.ofNat 32 (x.toUInt32.toNat % 256)).toNat
  rw [BitVec.toNat_and, BitVec.toNat_ofNat, BitVec.toNat_ofNat]
  show x.toUInt32.toNat &&& (2 ^ 8 - 1) = x.toUInt32.toNat % 256 % 2 ^ 32
  rw [Nat.and_two_pow_sub_one_eq_mod]
  have := x.toUInt32.toNat_lt
  omega
theorem incTwo (n : Nat) : nI n + Int32.ofInt 2 = nI (n + 2) := (congrArg (nI n + ·) (by decide : Int32.ofInt 2 = nI 2)).trans (nI_add n 2)
/-- a text that was made on the way -/
def Txt (D : Mm) (s nb : Nat) (t : List Nat) : Prop := TxD D s nb t ∧ dyn D s 9 ∧ dyn D nb 22
theorem Txt.of {D : Mm} {s nb : Nat} {t : List Nat} (x : TxD D s nb t) (h : dyn D s 9) : Txt D s nb t := by
  refine ⟨x, h, ?_⟩
  have := dyn_ge h
  rcases x.2.2 with ⟨q1, q2, -⟩ | ⟨q1, q2, -⟩
  · exact q2
  · omega
theorem Txt.fr {D D2 : Mm} {s nb : Nat} {t : List Nat} (x : Txt D s nb t) (hn : nxt D ≤ nxt D2) (e1 : D2 s = D s) (e2 : D2 nb = D nb) : Txt D2 s nb t := ⟨x.1.fr hn (Or.inr e1) (Or.inr e2), dyn_fr x.2.1 hn e1, dyn_fr x.2.2 hn e2⟩
theorem Txt.ge {D : Mm} {s nb : Nat} {t : List Nat} (x : Txt D s nb t) : (5000 ≤ s ∧ s < 5000 + nxt D) ∧ 5000 ≤ nb ∧ nb < 5000 + nxt D := ⟨dyn_ge x.2.1, dyn_ge x.2.2⟩
theorem Txt.nk {D : Mm} {s nb o : Nat} {t : List Nat} (x : Txt D s nb t) (h : dyn D o 8) : s ≠ o ∧ nb ≠ o := ⟨fun e => by have a := x.2.1.2; have b := h.2; rw [e] at a; omega, fun e => by have a := x.2.2.2; have b := h.2; rw [e] at a; omega⟩
theorem nx_of {D D2 : Mm} (h : D2 4500 = D 4500) : nxt D2 = nxt D ∧ usd D2 = usd D := by unfold nxt usd; rw [h]; exact ⟨rfl, rfl⟩
theorem FrKb.nx {ob : Nat} {D D2 : Mm} (h : FrKb ob D D2) (hb : dyn D ob 8) : nxt D2 = nxt D ∧ usd D2 = usd D := nx_of (h 4500 (by decide) (by have := dyn_ge hb; omega))
theorem CJ.cn {D : Mm} {n B nx : Nat} {V : Nat → Int32} {hs : HsT} (J : CJ D n V B hs nx) : D 155 2 = nI hs.length ∧ hs.length ≤ 8 := ⟨J.2.2.1.2.2.2.1, J.2.2.1.1⟩
set_option maxHeartbeats 1000000 in
theorem la_1 {d : Nat} {D : Mm} {Q : Option Value → Mm → Prop} {at_ i L : Nat} {l3 : Int32} {u5 u6 u7 u8 u9 : Value} (n5 : nvV D u5) (n6 : nvV D u6) (n7 : nvV D u7) (n8 : nvV D u8) (n9 : nvV D u9) (hL : cap D 4000 = L) (hLm : L ≤ 260) (hat : at_ ≤ 100) (hi : i < 16) (hu0 : nxt D ≤ usd D) (hu1 : usd D ≤ 600000) (hk : ∀ D2 Y ob, Y ≤ 255 → dyn D2 ob 8 → ob = DB + nxt D → (∀ q, q < DB + nxt D → q ≠ 4500 → D2 q = D q) → nxt D2 = nxt D + 1 → usd D2 = usd D + 2 → Wp (d + 11) 218 Q 308 [.ref 4000, .ref 0, .int (nI (at_ + 2)), .int l3, .int (nI i), .int (nI Y), .ref ob, u7, u8, u9] [] D2) : Wp (d + 11) 218 Q 271 [.ref 4000, .ref 0, .int (nI at_), .int l3, .int (nI i), u5, u6, u7, u8, u9] [] D := by
  have hBE := DBv
  have hf : fitU D 1 := ⟨by omega, hu0⟩
  refine w_ild4 i218_271 ?_
  refine w_bip i218_273 kb_16 ?_
  refine w_cgeNF i218_275 (by omega) (by omega) hi ?_
  refine w_ald0 i218_278 ?_
  refine w_ild2 i218_279 ?_
  refine w_SD2 i218_280 c74 rfl (by repeat (first | exact nvL_nil | refine nvL_cons (by first | exact True.intro | exact nvSt (by decide) | exact nvD hdo | exact n5 | exact n6 | exact n7 | exact n8 | exact n9 | exact nv_le n5 hle | exact nv_le n6 hle | exact nv_le n7 hle | exact nv_le n8 hle | exact nv_le n9 hle | exact nvK (by omega) (by omega)) ?_)) ⟨(by repeat (first | exact nvL_nil | refine nvL_cons (by first | exact True.intro | exact nvSt (by decide) | exact nvD hdo | exact n5 | exact n6 | exact n7 | exact n8 | exact n9 | exact nv_le n5 hle | exact nv_le n6 hle | exact nv_le n7 hle | exact nv_le n8 hle | exact nv_le n9 hle | exact nvK (by omega) (by omega)) ?_)), rfl, Nat.le_of_ble_eq_true rfl⟩ ?_
  refine K_cell hL (by omega) (fun x => ?_) (by omega)
  refine w_sip i218_283 ks_255 ?_
  obtain ⟨Y, hY, eY⟩ := and_255 x
  refine w_iand i218_286 eY ?_
  refine w_ist5 i218_287 ?_
  refine w_new i218_289 (Or.inr (Or.inl rfl)) (nvL_ok (by repeat (first | exact nvL_nil | refine nvL_cons (by first | exact True.intro | exact nvSt (by decide) | exact nvD hdo | exact n5 | exact n6 | exact n7 | exact n8 | exact n9 | exact nv_le n5 hle | exact nv_le n6 hle | exact nv_le n7 hle | exact nv_le n8 hle | exact nv_le n9 hle | exact nvK (by omega) (by omega)) ?_))) (nvL_ok (by repeat (first | exact nvL_nil | refine nvL_cons (by first | exact True.intro | exact nvSt (by decide) | exact nvD hdo | exact n5 | exact n6 | exact n7 | exact n8 | exact n9 | exact nv_le n5 hle | exact nv_le n6 hle | exact nv_le n7 hle | exact nv_le n8 hle | exact nv_le n9 hle | exact nvK (by omega) (by omega)) ?_))) hf ?_
  rw [show nF 8 = 1 from rfl]
  obtain ⟨ob, eo⟩ : ∃ o, o = DB + nxt D := ⟨_, rfl⟩
  obtain ⟨D1, e1⟩ : ∃ D1, D1 = alD D (rwO 8) 1 := ⟨_, rfl⟩
  rw [← eo, ← e1]
  have f1 : ∀ q, q ≠ ob → q ≠ 4500 → D1 q = D q := fun q a b => by rw [e1]; exact al_old (by rw [← eo]; exact a) b
  have hb1 : dyn D1 ob 8 := by rw [e1, eo]; exact dyn_new hf (by rw [rwO_k]; exact nI_clamp (by omega))
  have hL1 : cap D1 4000 = L := by unfold cap; rw [f1 4000 (by omega) (by omega)]; exact hL
  have hdo := hb1.1
  have q1 : nxt D1 = nxt D + 1 := by rw [e1]; exact al_nxt hf
  have q2 : usd D1 = usd D + 2 := by rw [e1]; exact al_usd hf
  have hle : nxt D ≤ nxt D1 := by omega
  refine w_dup i218_292 rfl ?_
  refine w_ald0 i218_293 ?_
  refine w_ild2 i218_294 ?_
  refine w_const i218_295 kc_1 ?_
  refine w_iadd i218_296 (nI_add _ _) ?_
  refine w_SD2 i218_297 c74 rfl (by repeat (first | exact nvL_nil | refine nvL_cons (by first | exact True.intro | exact nvSt (by decide) | exact nvD hdo | exact n5 | exact n6 | exact n7 | exact n8 | exact n9 | exact nv_le n5 hle | exact nv_le n6 hle | exact nv_le n7 hle | exact nv_le n8 hle | exact nv_le n9 hle | exact nvK (by omega) (by omega)) ?_)) ⟨(by repeat (first | exact nvL_nil | refine nvL_cons (by first | exact True.intro | exact nvSt (by decide) | exact nvD hdo | exact n5 | exact n6 | exact n7 | exact n8 | exact n9 | exact nv_le n5 hle | exact nv_le n6 hle | exact nv_le n7 hle | exact nv_le n8 hle | exact nv_le n9 hle | exact nvK (by omega) (by omega)) ?_)), rfl, Nat.le_of_ble_eq_true rfl⟩ ?_
  refine K_cell hL1 (by omega) (fun x2 => ?_) (by omega)
  refine w_PD2 i218_300 c118 (Or.inr rfl) (Or.inr ⟨hb1.1, by rw [hb1.2]; decide +kernel, by rw [hb1.2]; decide⟩) (by repeat (first | exact nvL_nil | refine nvL_cons (by first | exact True.intro | exact nvSt (by decide) | exact nvD hdo | exact n5 | exact n6 | exact n7 | exact n8 | exact n9 | exact nv_le n5 hle | exact nv_le n6 hle | exact nv_le n7 hle | exact nv_le n8 hle | exact nv_le n9 hle | exact nvK (by omega) (by omega)) ?_)) ⟨(by repeat (first | exact nvL_nil | refine nvL_cons (by first | exact True.intro | exact nvSt (by decide) | exact nvD hdo | exact n5 | exact n6 | exact n7 | exact n8 | exact n9 | exact nv_le n5 hle | exact nv_le n6 hle | exact nv_le n7 hle | exact nv_le n8 hle | exact nv_le n9 hle | exact nvK (by omega) (by omega)) ?_)), rfl, Nat.le_of_ble_eq_true rfl⟩ (Ex_go (K_binit hb1) ?_)
  refine w_ast6 i218_303 ?_
  refine w_inc2 i218_305 (incTwo _) ?_
  have go := dyn_ge hb1
  refine hk _ _ ob hY (dyn_mup hb1 (by omega) (Or.inr (by decide))) eo (fun q a b => (mupF (by omega)).trans (f1 q (by omega) b)) ?_ ?_
  · rw [nxt_mup (by omega)]; exact q1
  · rw [usd_mup (by omega)]; exact q2
set_option maxHeartbeats 1000000 in
theorem la_2 {d : Nat} {D : Mm} {Q : Option Value → Mm → Prop} {n B nx at_ i Y ob : Nat} {V : Nat → Int32} {hs : HsT} {l3 : Int32} {ln : List Nat} {u7 u8 u9 : Value} (n7 : nvV D u7) (n8 : nvV D u8) (n9 : nvV D u9) (J : CJ D n V B hs nx) (hB : B ≤ 8000) (S : SbR D 170 ln) (hb : dyn D ob 8) (hY : Y ≤ 255) (hu0 : nxt D ≤ usd D) (hu1 : usd D ≤ 600000) (hk1 : ∀ x D2 s nb ln2, x ≤ -1011 → CJ D2 n V B hs nx → Txt D2 s nb (toldT n V) → SbR D2 170 ln2 → dyn D2 ob 8 → (∀ q, 169 ≤ q → q < DB + nxt D → q ≠ 4500 → q ≠ 170 → q ≠ 182 → q ≠ ob → D2 q = D q) → nxt D ≤ nxt D2 → nxt D2 ≤ usd D2 → usd D2 ≤ usd D + 5300 → Wp (d + 11) 218 Q 332 [.ref 4000, .ref 0, .int (nI at_), .int l3, .int (nI i), .int (nI Y), .ref ob, .int (nI hs.length), .ref s, .int x] [] D2) (hk2 : ∀ a m W D2 s nb ln2, 0 ≤ a → CJ D2 m W (B + 30) ((n, V) :: hs.take 7) ((nx + 1) % 9) → Txt D2 s nb (toldT n V) → SbR D2 170 ln2 → dyn D2 ob 8 → (∀ q, 169 ≤ q → q < DB + nxt D → q ≠ 4500 → q ≠ 170 → q ≠ 182 → q ≠ ob → D2 q = D q) → nxt D ≤ nxt D2 → nxt D2 ≤ usd D2 → usd D2 ≤ usd D + 5300 → Wp (d + 11) 218 Q 332 [.ref 4000, .ref 0, .int (nI at_), .int l3, .int (nI i), .int (nI Y), .ref ob, .int (nI hs.length), .ref s, .int a] [] D2) : Wp (d + 11) 218 Q 308 [.ref 4000, .ref 0, .int (nI at_), .int l3, .int (nI i), .int (nI Y), .ref ob, u7, u8, u9] [] D := by
  have hBE := DBv
  refine w_ald1 i218_308 ?_
  refine w_bip i218_309 kb_13 ?_
  refine w_VD2 i218_311 c80 (Or.inl rfl) (Or.inl ⟨by decide +kernel, by decide⟩) (by repeat (first | exact nvL_nil | refine nvL_cons (by first | exact True.intro | exact nvSt (by decide) | exact nvD hb.1 | exact nvD hsd | exact n7 | exact n8 | exact n9 | exact nvK (by omega) (by omega)) ?_)) ⟨(by repeat (first | exact nvL_nil | refine nvL_cons (by first | exact True.intro | exact nvSt (by decide) | exact nvD hb.1 | exact nvD hsd | exact n7 | exact n8 | exact n9 | exact nvK (by omega) (by omega)) ?_)), rfl, Nat.le_of_ble_eq_true rfl⟩ (Ex_go (K_acc13 J.R J.h12 J.op (J.by_ (by omega)) J.cn.1) ?_)
  refine w_ist7 i218_314 ?_
  refine w_ald1 i218_316 ?_
  refine w_SD1 i218_317 c111 rfl (by repeat (first | exact nvL_nil | refine nvL_cons (by first | exact True.intro | exact nvSt (by decide) | exact nvD hb.1 | exact nvD hsd | exact n7 | exact n8 | exact n9 | exact nvK (by omega) (by omega)) ?_)) ⟨(by repeat (first | exact nvL_nil | refine nvL_cons (by first | exact True.intro | exact nvSt (by decide) | exact nvD hb.1 | exact nvD hsd | exact n7 | exact n8 | exact n9 | exact nvK (by omega) (by omega)) ?_)), rfl, Nat.le_of_ble_eq_true rfl⟩ ?_
  refine K_told J.R J.iv J.xg.2 (by omega) S hu0 (by omega) (fun D1 s nb ln1 x hsd hg f S hu0 hu2 => ?_)
  have T := Txt.of x hsd
  have hsd := hsd.1
  have J := J.frT f
  have hgb := dyn_ge hb
  have hb := dyn_fr hb f.2 (f.1 ob (by omega) (by omega) (by omega) (by omega))
  have n9 := nv_le n9 f.2
  have n7 : nvV D1 u7 := nv_le n7 f.2
  have n8 : nvV D1 u8 := nv_le n8 f.2
  refine w_ast8 i218_320 ?_
  refine w_ald1 i218_322 ?_
  refine w_ild5 i218_323 ?_
  refine w_ald6 i218_325 ?_
  refine w_SD3 i218_327 c109 rfl (by repeat (first | exact nvL_nil | refine nvL_cons (by first | exact True.intro | exact nvSt (by decide) | exact nvD hb.1 | exact nvD hsd | exact n7 | exact n8 | exact n9 | exact nvK (by omega) (by omega)) ?_)) ⟨(by repeat (first | exact nvL_nil | refine nvL_cons (by first | exact True.intro | exact nvSt (by decide) | exact nvD hb.1 | exact nvD hsd | exact n7 | exact n8 | exact n9 | exact nvK (by omega) (by omega)) ?_)), rfl, Nat.le_of_ble_eq_true rfl⟩ ?_
  refine K_acts J (by omega) hb hY (fun x D2 hx J F hb2 => ?_) (fun a m W D2 ha J F hb2 => ?_)
  · refine w_ist9 i218_330 ?_
    have en := F.nx hb
    have g := T.ge
    have k := T.nk hb
    exact hk1 x D2 s nb ln1 hx J (T.fr (by rw [en.1]; exact Nat.le_refl _) (F s (by omega) k.1) (F nb (by omega) k.2)) (S.fr (F 170 (by decide) (by omega)) (F 182 (by decide) (by omega))) hb2 (fun q a1 a2 a3 a4 a5 a6 => (F q a1 a6).trans (f.1 q (by omega) a3 a4 a5)) (by rw [en.1]; exact f.2) (by rw [en.1, en.2]; exact hu0) (by rw [en.2]; exact hu2)
  · skip
    have en := F.nx hb
    have g := T.ge
    have k := T.nk hb
    refine w_ist9 i218_330 ?_
    exact hk2 a m W D2 s nb ln1 ha J (T.fr (by rw [en.1]; exact Nat.le_refl _) (F s (by omega) k.1) (F nb (by omega) k.2)) (S.fr (F 170 (by decide) (by omega)) (F 182 (by decide) (by omega))) hb2 (fun q a1 a2 a3 a4 a5 a6 => (F q a1 a6).trans (f.1 q (by omega) a3 a4 a5)) (by rw [en.1]; exact f.2) (by rw [en.1, en.2]; exact hu0) (by rw [en.2]; exact hu2)
