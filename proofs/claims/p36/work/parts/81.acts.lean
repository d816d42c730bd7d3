/-! the orders that the law draws -/
/-- all but the bits and the statute's own is as it was -/
def FrKb (ob : Nat) (D D2 : Mm) : Prop := ∀ q, 169 ≤ q → q ≠ ob → D2 q = D q
theorem FrKb.rf {ob : Nat} {D : Mm} : FrKb ob D D := fun _ _ _ => rfl
theorem FrKb.bt {ob : Nat} {D D2 D3 : Mm} (h : FrKb ob D D2) (g : BtX D2 D3 ob) : FrKb ob D D3 := fun q a b => (g.1 q b).trans (h q a b)
theorem FrKb.o {ob : Nat} {D D2 D3 : Mm} (h : FrKb ob D D2) (g : FrJ D2 D3) : FrKb ob D D3 := fun q a b => (g q (by omega)).trans (h q a b)
theorem CJ.bt {D D2 : Mm} {ob n B nx : Nat} {V : Nat → Int32} {hs : HsT} (J : CJ D n V B hs nx) (hb : dyn D ob 8) (g : BtX D D2 ob) : CJ D2 n V B hs nx := J.fr (fun q _ _ c _ => g.1 q (by have := dyn_ge hb; omega))
theorem FrJ.dy {D D2 : Mm} {ob k : Nat} (g : FrJ D D2) (h : dyn D ob k) : dyn D2 ob k := dyn_fr h (by rw [g.nx.1]; exact Nat.le_refl _) (g ob (by have := dyn_ge h; omega))
theorem okx {o : Out} {x : Int32} {rs : List (Int32 × Int32)} (h : okF o) (e : o = .inl (x, rs)) : x ≤ -1011 := by
  subst e
  rcases h with ⟨-, rfl | rfl⟩ | ⟨rfl, -⟩ <;> decide
def tgA (v : Nat) : Nat := [160, 160, 160, 160, 160, 223, 223, 223, 223, 223, 264, 264, 264, 264, 307, 307, 307, 349, 349, 349, 349, 390, 390, 390, 395, 395, 395, 417, 417, 417, 429, 435, 435, 435].getD v 0
theorem tgA_ok : ∀ v, v < 34 → tsel 22 413 0 30 #[138, 138, 138, 138, 138, 201, 201, 201, 201, 201, 242, 242, 242, 242, 285, 285, 285, 327, 327, 327, 327, 368, 368, 368, 373, 373, 373, 395, 395, 395, 407] (nI v) = some (tgA v) := by decide +kernel
theorem tgA_in : ∀ v, v < 34 → tgA v = 160 ∨ tgA v = 223 ∨ tgA v = 264 ∨ tgA v = 307 ∨ tgA v = 349 ∨ tgA v = 390 ∨ tgA v = 395 ∨ tgA v = 417 ∨ tgA v = 429 ∨ tgA v = 435 := by decide +kernel
set_option maxHeartbeats 2000000 in
theorem K_acts {d : Nat} {D : Mm} {Q : Option Value → Mm → Prop} {n B nx ob Y : Nat} {V : Nat → Int32} {hs : HsT} (J : CJ D n V B hs nx) (hB : B ≤ 9000) (hb : dyn D ob 8) (hY : Y ≤ 255)
    (hq1 : ∀ x D2, x ≤ -1011 → CJ D2 n V B hs nx → FrKb ob D D2 → dyn D2 ob 8 → Q (some (.int x)) D2)
    (hq2 : ∀ a m W D2, 0 ≤ a → CJ D2 m W (B + 30) ((n, V) :: hs.take 7) ((nx + 1) % 9) → FrKb ob D D2 → dyn D2 ob 8 → Q (some (.int a)) D2) : Ct (d + 10) 109 [.ref 0, .int (nI Y), .ref ob] D Q := by
  have hdo := hb.1
  have F : FrKb ob D D := FrKb.rf
  refine ent m109 rfl rfl (ls := [.ref 0, .int (nI Y), .ref ob, .retAddr 0, .retAddr 0]) rfl ?_
  refine w_ald2 i109_0 ?_
  refine w_bip i109_1 kb_6 ?_
  refine w_SD2 i109_3 c108 rfl (by repeat (first | exact nvL_nil | refine nvL_cons (by first | exact True.intro | exact nvSt (by decide) | exact nvD hdo | exact nvK (by omega) (by omega)) ?_)) ⟨(by repeat (first | exact nvL_nil | refine nvL_cons (by first | exact True.intro | exact nvSt (by decide) | exact nvD hdo | exact nvK (by omega) (by omega)) ?_)), rfl, Nat.le_of_ble_eq_true rfl⟩ ?_
  refine K_some hb (by decide) (fun D r hr g => ?_)
  have J := J.bt hb g
  have F := F.bt g
  have hb := g.2
  have hdo := hb.1
  refine w_ist3 i109_6 ?_
  refine w_ald2 i109_7 ?_
  refine w_ald0 i109_8 ?_
  refine w_const i109_9 kc_0 ?_
  refine w_VD2 i109_10 c80 (Or.inl rfl) (Or.inl ⟨by decide +kernel, by decide⟩) (by repeat (first | exact nvL_nil | refine nvL_cons (by first | exact True.intro | exact nvSt (by decide) | exact nvD hdo | exact nvK (by omega) (by omega)) ?_)) ⟨(by repeat (first | exact nvL_nil | refine nvL_cons (by first | exact True.intro | exact nvSt (by decide) | exact nvD hdo | exact nvK (by omega) (by omega)) ?_)), rfl, Nat.le_of_ble_eq_true rfl⟩ (Ex_go (K_acc0 J.R J.h12 J.op (J.by_ hB)) ?_)
  refine w_SD2 i109_13 c108 rfl (by repeat (first | exact nvL_nil | refine nvL_cons (by first | exact True.intro | exact nvSt (by decide) | exact nvD hdo | exact nvK (by omega) (by omega)) ?_)) ⟨(by repeat (first | exact nvL_nil | refine nvL_cons (by first | exact True.intro | exact nvSt (by decide) | exact nvD hdo | exact nvK (by omega) (by omega)) ?_)), rfl, Nat.le_of_ble_eq_true rfl⟩ ?_
  refine K_some hb (by have := J.h12; omega) (fun D r hr g => ?_)
  have J := J.bt hb g
  have F := F.bt g
  have hb := g.2
  have hdo := hb.1
  refine w_ist4 i109_16 ?_
  refine w_ild1 i109_18 ?_
  refine w_bip i109_19 kb_34 ?_
  refine w_irem i109_21 (by decide) (nI_rem (by omega) (by omega)) ?_
  have hv := Nat.mod_lt Y (show 0 < 34 by decide)
  rcases tgA_in _ hv with ht | ht | ht | ht | ht | ht | ht | ht | ht | ht
  · refine w_ts (t := 160) i109_22 (by rw [tgA_ok _ hv, ht]) ?_
    refine w_ald0 i109_160 ?_
    refine w_ild3 i109_161 ?_
    refine w_ald2 i109_162 ?_
    refine w_bip i109_163 kb_20 ?_
    refine w_VD2 i109_165 c119 (Or.inl rfl) (Or.inr ⟨hb.1, by rw [hb.2]; decide +kernel, by rw [hb.2]; decide⟩) (by repeat (first | exact nvL_nil | refine nvL_cons (by first | exact True.intro | exact nvSt (by decide) | exact nvD hdo | exact nvK (by omega) (by omega)) ?_)) ⟨(by repeat (first | exact nvL_nil | refine nvL_cons (by first | exact True.intro | exact nvSt (by decide) | exact nvD hdo | exact nvK (by omega) (by omega)) ?_)), rfl, Nat.le_of_ble_eq_true rfl⟩ ?_
    refine K_next hb (by decide) (by decide) (fun D r hr g => ?_)
    have J := J.bt hb g
    have F := F.bt g
    have hb := g.2
    have hdo := hb.1
    refine w_ineN i109_168 g109_168 (by omega) (fun h168 => ?_) (fun h168 => ?_)
    · skip
      refine w_const i109_176 kc_1 ?_
      refine w_ald2 i109_177 ?_
      refine w_ald2 i109_178 ?_
      refine w_const i109_179 kc_3 ?_
      refine w_VD2 i109_180 c119 (Or.inl rfl) (Or.inr ⟨hb.1, by rw [hb.2]; decide +kernel, by rw [hb.2]; decide⟩) (by repeat (first | exact nvL_nil | refine nvL_cons (by first | exact True.intro | exact nvSt (by decide) | exact nvD hdo | exact nvK (by omega) (by omega)) ?_)) ⟨(by repeat (first | exact nvL_nil | refine nvL_cons (by first | exact True.intro | exact nvSt (by decide) | exact nvD hdo | exact nvK (by omega) (by omega)) ?_)), rfl, Nat.le_of_ble_eq_true rfl⟩ ?_
      refine K_next hb (by decide) (by decide) (fun D r hr g => ?_)
      have J := J.bt hb g
      have F := F.bt g
      have hb := g.2
      have hdo := hb.1
      refine w_ineN i109_183 g109_183 (by omega) (fun h183 => ?_) (fun h183 => ?_)
      · skip
        refine w_bip i109_191 kb_9 ?_
        refine w_VD2 i109_193 c119 (Or.inl rfl) (Or.inr ⟨hb.1, by rw [hb.2]; decide +kernel, by rw [hb.2]; decide⟩) (by repeat (first | exact nvL_nil | refine nvL_cons (by first | exact True.intro | exact nvSt (by decide) | exact nvD hdo | exact nvK (by omega) (by omega)) ?_)) ⟨(by repeat (first | exact nvL_nil | refine nvL_cons (by first | exact True.intro | exact nvSt (by decide) | exact nvD hdo | exact nvK (by omega) (by omega)) ?_)), rfl, Nat.le_of_ble_eq_true rfl⟩ ?_
        refine K_next hb (by decide) (by decide) (fun D r hr g => ?_)
        have J := J.bt hb g
        have F := F.bt g
        have hb := g.2
        have hdo := hb.1
        refine w_iadd i109_196 (nI_add _ _) ?_
        refine w_ald2 i109_197 ?_
        refine w_bip i109_198 kb_20 ?_
        refine w_VD2 i109_200 c119 (Or.inl rfl) (Or.inr ⟨hb.1, by rw [hb.2]; decide +kernel, by rw [hb.2]; decide⟩) (by repeat (first | exact nvL_nil | refine nvL_cons (by first | exact True.intro | exact nvSt (by decide) | exact nvD hdo | exact nvK (by omega) (by omega)) ?_)) ⟨(by repeat (first | exact nvL_nil | refine nvL_cons (by first | exact True.intro | exact nvSt (by decide) | exact nvD hdo | exact nvK (by omega) (by omega)) ?_)), rfl, Nat.le_of_ble_eq_true rfl⟩ ?_
        refine K_next hb (by decide) (by decide) (fun D r hr g => ?_)
        have J := J.bt hb g
        have F := F.bt g
        have hb := g.2
        have hdo := hb.1
        refine w_ineN i109_203 g109_203 (by omega) (fun h203 => ?_) (fun h203 => ?_)
        · skip
          refine w_const i109_211 kc_1 ?_
          refine w_ald2 i109_212 ?_
          refine w_bip i109_213 kb_9 ?_
          refine w_VD2 i109_215 c119 (Or.inl rfl) (Or.inr ⟨hb.1, by rw [hb.2]; decide +kernel, by rw [hb.2]; decide⟩) (by repeat (first | exact nvL_nil | refine nvL_cons (by first | exact True.intro | exact nvSt (by decide) | exact nvD hdo | exact nvK (by omega) (by omega)) ?_)) ⟨(by repeat (first | exact nvL_nil | refine nvL_cons (by first | exact True.intro | exact nvSt (by decide) | exact nvD hdo | exact nvK (by omega) (by omega)) ?_)), rfl, Nat.le_of_ble_eq_true rfl⟩ ?_
          refine K_next hb (by decide) (by decide) (fun D r hr g => ?_)
          have J := J.bt hb g
          have F := F.bt g
          have hb := g.2
          have hdo := hb.1
          refine w_iadd i109_218 (nI_add _ _) ?_
          refine w_VD4 i109_219 c54 (Or.inl rfl) (Or.inl ⟨by decide +kernel, by decide⟩) (by repeat (first | exact nvL_nil | refine nvL_cons (by first | exact True.intro | exact nvSt (by decide) | exact nvD hdo | exact nvK (by omega) (by omega)) ?_)) ⟨(by repeat (first | exact nvL_nil | refine nvL_cons (by first | exact True.intro | exact nvSt (by decide) | exact nvD hdo | exact nvK (by omega) (by omega)) ?_)), rfl, Nat.le_of_ble_eq_true rfl⟩ ?_
          refine J_S J hB (fun x rs e D3 J3 f3 _ => w_ri i109_222 r109 (hq1 x D3 (okx okF_S e) J3 (F.o f3) (f3.dy hb))) (fun y V2 e hy D3 J3 f3 => w_ri i109_222 r109 (hq2 y _ V2 D3 hy J3 (F.o f3) (f3.dy hb)))
        · skip
          refine w_bip i109_206 kb_10 ?_
          refine w_goto i109_208 g109_208 ?_
          refine w_VD4 i109_219 c54 (Or.inl rfl) (Or.inl ⟨by decide +kernel, by decide⟩) (by repeat (first | exact nvL_nil | refine nvL_cons (by first | exact True.intro | exact nvSt (by decide) | exact nvD hdo | exact nvK (by omega) (by omega)) ?_)) ⟨(by repeat (first | exact nvL_nil | refine nvL_cons (by first | exact True.intro | exact nvSt (by decide) | exact nvD hdo | exact nvK (by omega) (by omega)) ?_)), rfl, Nat.le_of_ble_eq_true rfl⟩ ?_
          refine J_S J hB (fun x rs e D3 J3 f3 _ => w_ri i109_222 r109 (hq1 x D3 (okx okF_S e) J3 (F.o f3) (f3.dy hb))) (fun y V2 e hy D3 J3 f3 => w_ri i109_222 r109 (hq2 y _ V2 D3 hy J3 (F.o f3) (f3.dy hb)))
      · skip
        refine w_bip i109_186 kb_30 ?_
        refine w_goto i109_188 g109_188 ?_
        refine w_VD2 i109_193 c119 (Or.inl rfl) (Or.inr ⟨hb.1, by rw [hb.2]; decide +kernel, by rw [hb.2]; decide⟩) (by repeat (first | exact nvL_nil | refine nvL_cons (by first | exact True.intro | exact nvSt (by decide) | exact nvD hdo | exact nvK (by omega) (by omega)) ?_)) ⟨(by repeat (first | exact nvL_nil | refine nvL_cons (by first | exact True.intro | exact nvSt (by decide) | exact nvD hdo | exact nvK (by omega) (by omega)) ?_)), rfl, Nat.le_of_ble_eq_true rfl⟩ ?_
        refine K_next hb (by decide) (by decide) (fun D r hr g => ?_)
        have J := J.bt hb g
        have F := F.bt g
        have hb := g.2
        have hdo := hb.1
        refine w_iadd i109_196 (nI_add _ _) ?_
        refine w_ald2 i109_197 ?_
        refine w_bip i109_198 kb_20 ?_
        refine w_VD2 i109_200 c119 (Or.inl rfl) (Or.inr ⟨hb.1, by rw [hb.2]; decide +kernel, by rw [hb.2]; decide⟩) (by repeat (first | exact nvL_nil | refine nvL_cons (by first | exact True.intro | exact nvSt (by decide) | exact nvD hdo | exact nvK (by omega) (by omega)) ?_)) ⟨(by repeat (first | exact nvL_nil | refine nvL_cons (by first | exact True.intro | exact nvSt (by decide) | exact nvD hdo | exact nvK (by omega) (by omega)) ?_)), rfl, Nat.le_of_ble_eq_true rfl⟩ ?_
        refine K_next hb (by decide) (by decide) (fun D r hr g => ?_)
        have J := J.bt hb g
        have F := F.bt g
        have hb := g.2
        have hdo := hb.1
        refine w_ineN i109_203 g109_203 (by omega) (fun h203 => ?_) (fun h203 => ?_)
        · skip
          refine w_const i109_211 kc_1 ?_
          refine w_ald2 i109_212 ?_
          refine w_bip i109_213 kb_9 ?_
          refine w_VD2 i109_215 c119 (Or.inl rfl) (Or.inr ⟨hb.1, by rw [hb.2]; decide +kernel, by rw [hb.2]; decide⟩) (by repeat (first | exact nvL_nil | refine nvL_cons (by first | exact True.intro | exact nvSt (by decide) | exact nvD hdo | exact nvK (by omega) (by omega)) ?_)) ⟨(by repeat (first | exact nvL_nil | refine nvL_cons (by first | exact True.intro | exact nvSt (by decide) | exact nvD hdo | exact nvK (by omega) (by omega)) ?_)), rfl, Nat.le_of_ble_eq_true rfl⟩ ?_
          refine K_next hb (by decide) (by decide) (fun D r hr g => ?_)
          have J := J.bt hb g
          have F := F.bt g
          have hb := g.2
          have hdo := hb.1
          refine w_iadd i109_218 (nI_add _ _) ?_
          refine w_VD4 i109_219 c54 (Or.inl rfl) (Or.inl ⟨by decide +kernel, by decide⟩) (by repeat (first | exact nvL_nil | refine nvL_cons (by first | exact True.intro | exact nvSt (by decide) | exact nvD hdo | exact nvK (by omega) (by omega)) ?_)) ⟨(by repeat (first | exact nvL_nil | refine nvL_cons (by first | exact True.intro | exact nvSt (by decide) | exact nvD hdo | exact nvK (by omega) (by omega)) ?_)), rfl, Nat.le_of_ble_eq_true rfl⟩ ?_
          refine J_S J hB (fun x rs e D3 J3 f3 _ => w_ri i109_222 r109 (hq1 x D3 (okx okF_S e) J3 (F.o f3) (f3.dy hb))) (fun y V2 e hy D3 J3 f3 => w_ri i109_222 r109 (hq2 y _ V2 D3 hy J3 (F.o f3) (f3.dy hb)))
        · skip
          refine w_bip i109_206 kb_10 ?_
          refine w_goto i109_208 g109_208 ?_
          refine w_VD4 i109_219 c54 (Or.inl rfl) (Or.inl ⟨by decide +kernel, by decide⟩) (by repeat (first | exact nvL_nil | refine nvL_cons (by first | exact True.intro | exact nvSt (by decide) | exact nvD hdo | exact nvK (by omega) (by omega)) ?_)) ⟨(by repeat (first | exact nvL_nil | refine nvL_cons (by first | exact True.intro | exact nvSt (by decide) | exact nvD hdo | exact nvK (by omega) (by omega)) ?_)), rfl, Nat.le_of_ble_eq_true rfl⟩ ?_
          refine J_S J hB (fun x rs e D3 J3 f3 _ => w_ri i109_222 r109 (hq1 x D3 (okx okF_S e) J3 (F.o f3) (f3.dy hb))) (fun y V2 e hy D3 J3 f3 => w_ri i109_222 r109 (hq2 y _ V2 D3 hy J3 (F.o f3) (f3.dy hb)))
    · skip
      refine w_bip i109_171 kb_31 ?_
      refine w_goto i109_173 g109_173 ?_
      refine w_ald2 i109_197 ?_
      refine w_bip i109_198 kb_20 ?_
      refine w_VD2 i109_200 c119 (Or.inl rfl) (Or.inr ⟨hb.1, by rw [hb.2]; decide +kernel, by rw [hb.2]; decide⟩) (by repeat (first | exact nvL_nil | refine nvL_cons (by first | exact True.intro | exact nvSt (by decide) | exact nvD hdo | exact nvK (by omega) (by omega)) ?_)) ⟨(by repeat (first | exact nvL_nil | refine nvL_cons (by first | exact True.intro | exact nvSt (by decide) | exact nvD hdo | exact nvK (by omega) (by omega)) ?_)), rfl, Nat.le_of_ble_eq_true rfl⟩ ?_
      refine K_next hb (by decide) (by decide) (fun D r hr g => ?_)
      have J := J.bt hb g
      have F := F.bt g
      have hb := g.2
      have hdo := hb.1
      refine w_ineN i109_203 g109_203 (by omega) (fun h203 => ?_) (fun h203 => ?_)
      · skip
        refine w_const i109_211 kc_1 ?_
        refine w_ald2 i109_212 ?_
        refine w_bip i109_213 kb_9 ?_
        refine w_VD2 i109_215 c119 (Or.inl rfl) (Or.inr ⟨hb.1, by rw [hb.2]; decide +kernel, by rw [hb.2]; decide⟩) (by repeat (first | exact nvL_nil | refine nvL_cons (by first | exact True.intro | exact nvSt (by decide) | exact nvD hdo | exact nvK (by omega) (by omega)) ?_)) ⟨(by repeat (first | exact nvL_nil | refine nvL_cons (by first | exact True.intro | exact nvSt (by decide) | exact nvD hdo | exact nvK (by omega) (by omega)) ?_)), rfl, Nat.le_of_ble_eq_true rfl⟩ ?_
        refine K_next hb (by decide) (by decide) (fun D r hr g => ?_)
        have J := J.bt hb g
        have F := F.bt g
        have hb := g.2
        have hdo := hb.1
        refine w_iadd i109_218 (nI_add _ _) ?_
        refine w_VD4 i109_219 c54 (Or.inl rfl) (Or.inl ⟨by decide +kernel, by decide⟩) (by repeat (first | exact nvL_nil | refine nvL_cons (by first | exact True.intro | exact nvSt (by decide) | exact nvD hdo | exact nvK (by omega) (by omega)) ?_)) ⟨(by repeat (first | exact nvL_nil | refine nvL_cons (by first | exact True.intro | exact nvSt (by decide) | exact nvD hdo | exact nvK (by omega) (by omega)) ?_)), rfl, Nat.le_of_ble_eq_true rfl⟩ ?_
        refine J_S J hB (fun x rs e D3 J3 f3 _ => w_ri i109_222 r109 (hq1 x D3 (okx okF_S e) J3 (F.o f3) (f3.dy hb))) (fun y V2 e hy D3 J3 f3 => w_ri i109_222 r109 (hq2 y _ V2 D3 hy J3 (F.o f3) (f3.dy hb)))
      · skip
        refine w_bip i109_206 kb_10 ?_
        refine w_goto i109_208 g109_208 ?_
        refine w_VD4 i109_219 c54 (Or.inl rfl) (Or.inl ⟨by decide +kernel, by decide⟩) (by repeat (first | exact nvL_nil | refine nvL_cons (by first | exact True.intro | exact nvSt (by decide) | exact nvD hdo | exact nvK (by omega) (by omega)) ?_)) ⟨(by repeat (first | exact nvL_nil | refine nvL_cons (by first | exact True.intro | exact nvSt (by decide) | exact nvD hdo | exact nvK (by omega) (by omega)) ?_)), rfl, Nat.le_of_ble_eq_true rfl⟩ ?_
        refine J_S J hB (fun x rs e D3 J3 f3 _ => w_ri i109_222 r109 (hq1 x D3 (okx okF_S e) J3 (F.o f3) (f3.dy hb))) (fun y V2 e hy D3 J3 f3 => w_ri i109_222 r109 (hq2 y _ V2 D3 hy J3 (F.o f3) (f3.dy hb)))
  · refine w_ts (t := 223) i109_22 (by rw [tgA_ok _ hv, ht]) ?_
    refine w_ald0 i109_223 ?_
    refine w_ild4 i109_224 ?_
    refine w_ald2 i109_226 ?_
    refine w_bip i109_227 kb_20 ?_
    refine w_VD2 i109_229 c119 (Or.inl rfl) (Or.inr ⟨hb.1, by rw [hb.2]; decide +kernel, by rw [hb.2]; decide⟩) (by repeat (first | exact nvL_nil | refine nvL_cons (by first | exact True.intro | exact nvSt (by decide) | exact nvD hdo | exact nvK (by omega) (by omega)) ?_)) ⟨(by repeat (first | exact nvL_nil | refine nvL_cons (by first | exact True.intro | exact nvSt (by decide) | exact nvD hdo | exact nvK (by omega) (by omega)) ?_)), rfl, Nat.le_of_ble_eq_true rfl⟩ ?_
    refine K_next hb (by decide) (by decide) (fun D r hr g => ?_)
    have J := J.bt hb g
    have F := F.bt g
    have hb := g.2
    have hdo := hb.1
    refine w_ineN i109_232 g109_232 (by omega) (fun h232 => ?_) (fun h232 => ?_)
    · skip
      refine w_const i109_240 kc_1 ?_
      refine w_ald2 i109_241 ?_
      refine w_ald2 i109_242 ?_
      refine w_const i109_243 kc_4 ?_
      refine w_VD2 i109_244 c119 (Or.inl rfl) (Or.inr ⟨hb.1, by rw [hb.2]; decide +kernel, by rw [hb.2]; decide⟩) (by repeat (first | exact nvL_nil | refine nvL_cons (by first | exact True.intro | exact nvSt (by decide) | exact nvD hdo | exact nvK (by omega) (by omega)) ?_)) ⟨(by repeat (first | exact nvL_nil | refine nvL_cons (by first | exact True.intro | exact nvSt (by decide) | exact nvD hdo | exact nvK (by omega) (by omega)) ?_)), rfl, Nat.le_of_ble_eq_true rfl⟩ ?_
      refine K_next hb (by decide) (by decide) (fun D r hr g => ?_)
      have J := J.bt hb g
      have F := F.bt g
      have hb := g.2
      have hdo := hb.1
      refine w_ineN i109_247 g109_247 (by omega) (fun h247 => ?_) (fun h247 => ?_)
      · skip
        refine w_const i109_255 kc_4 ?_
        refine w_VD2 i109_256 c119 (Or.inl rfl) (Or.inr ⟨hb.1, by rw [hb.2]; decide +kernel, by rw [hb.2]; decide⟩) (by repeat (first | exact nvL_nil | refine nvL_cons (by first | exact True.intro | exact nvSt (by decide) | exact nvD hdo | exact nvK (by omega) (by omega)) ?_)) ⟨(by repeat (first | exact nvL_nil | refine nvL_cons (by first | exact True.intro | exact nvSt (by decide) | exact nvD hdo | exact nvK (by omega) (by omega)) ?_)), rfl, Nat.le_of_ble_eq_true rfl⟩ ?_
        refine K_next hb (by decide) (by decide) (fun D r hr g => ?_)
        have J := J.bt hb g
        have F := F.bt g
        have hb := g.2
        have hdo := hb.1
        refine w_iadd i109_259 (nI_add _ _) ?_
        refine w_VD3 i109_260 c55 (Or.inl rfl) (Or.inl ⟨by decide +kernel, by decide⟩) (by repeat (first | exact nvL_nil | refine nvL_cons (by first | exact True.intro | exact nvSt (by decide) | exact nvD hdo | exact nvK (by omega) (by omega)) ?_)) ⟨(by repeat (first | exact nvL_nil | refine nvL_cons (by first | exact True.intro | exact nvSt (by decide) | exact nvD hdo | exact nvK (by omega) (by omega)) ?_)), rfl, Nat.le_of_ble_eq_true rfl⟩ ?_
        refine J_B J hB (fun x rs e D3 J3 f3 _ => w_ri i109_263 r109 (hq1 x D3 (okx okF_B e) J3 (F.o f3) (f3.dy hb))) (fun y V2 e hy D3 J3 f3 => w_ri i109_263 r109 (hq2 y _ V2 D3 hy J3 (F.o f3) (f3.dy hb)))
      · skip
        refine w_bip i109_250 kb_20 ?_
        refine w_goto i109_252 g109_252 ?_
        refine w_VD2 i109_256 c119 (Or.inl rfl) (Or.inr ⟨hb.1, by rw [hb.2]; decide +kernel, by rw [hb.2]; decide⟩) (by repeat (first | exact nvL_nil | refine nvL_cons (by first | exact True.intro | exact nvSt (by decide) | exact nvD hdo | exact nvK (by omega) (by omega)) ?_)) ⟨(by repeat (first | exact nvL_nil | refine nvL_cons (by first | exact True.intro | exact nvSt (by decide) | exact nvD hdo | exact nvK (by omega) (by omega)) ?_)), rfl, Nat.le_of_ble_eq_true rfl⟩ ?_
        refine K_next hb (by decide) (by decide) (fun D r hr g => ?_)
        have J := J.bt hb g
        have F := F.bt g
        have hb := g.2
        have hdo := hb.1
        refine w_iadd i109_259 (nI_add _ _) ?_
        refine w_VD3 i109_260 c55 (Or.inl rfl) (Or.inl ⟨by decide +kernel, by decide⟩) (by repeat (first | exact nvL_nil | refine nvL_cons (by first | exact True.intro | exact nvSt (by decide) | exact nvD hdo | exact nvK (by omega) (by omega)) ?_)) ⟨(by repeat (first | exact nvL_nil | refine nvL_cons (by first | exact True.intro | exact nvSt (by decide) | exact nvD hdo | exact nvK (by omega) (by omega)) ?_)), rfl, Nat.le_of_ble_eq_true rfl⟩ ?_
        refine J_B J hB (fun x rs e D3 J3 f3 _ => w_ri i109_263 r109 (hq1 x D3 (okx okF_B e) J3 (F.o f3) (f3.dy hb))) (fun y V2 e hy D3 J3 f3 => w_ri i109_263 r109 (hq2 y _ V2 D3 hy J3 (F.o f3) (f3.dy hb)))
    · skip
      refine w_bip i109_235 kb_31 ?_
      refine w_goto i109_237 g109_237 ?_
      refine w_VD3 i109_260 c55 (Or.inl rfl) (Or.inl ⟨by decide +kernel, by decide⟩) (by repeat (first | exact nvL_nil | refine nvL_cons (by first | exact True.intro | exact nvSt (by decide) | exact nvD hdo | exact nvK (by omega) (by omega)) ?_)) ⟨(by repeat (first | exact nvL_nil | refine nvL_cons (by first | exact True.intro | exact nvSt (by decide) | exact nvD hdo | exact nvK (by omega) (by omega)) ?_)), rfl, Nat.le_of_ble_eq_true rfl⟩ ?_
      refine J_B J hB (fun x rs e D3 J3 f3 _ => w_ri i109_263 r109 (hq1 x D3 (okx okF_B e) J3 (F.o f3) (f3.dy hb))) (fun y V2 e hy D3 J3 f3 => w_ri i109_263 r109 (hq2 y _ V2 D3 hy J3 (F.o f3) (f3.dy hb)))
  · refine w_ts (t := 264) i109_22 (by rw [tgA_ok _ hv, ht]) ?_
    refine w_ald0 i109_264 ?_
    refine w_ild4 i109_265 ?_
    refine w_ild3 i109_267 ?_
    refine w_ald2 i109_268 ?_
    refine w_bip i109_269 kb_20 ?_
    refine w_VD2 i109_271 c119 (Or.inl rfl) (Or.inr ⟨hb.1, by rw [hb.2]; decide +kernel, by rw [hb.2]; decide⟩) (by repeat (first | exact nvL_nil | refine nvL_cons (by first | exact True.intro | exact nvSt (by decide) | exact nvD hdo | exact nvK (by omega) (by omega)) ?_)) ⟨(by repeat (first | exact nvL_nil | refine nvL_cons (by first | exact True.intro | exact nvSt (by decide) | exact nvD hdo | exact nvK (by omega) (by omega)) ?_)), rfl, Nat.le_of_ble_eq_true rfl⟩ ?_
    refine K_next hb (by decide) (by decide) (fun D r hr g => ?_)
    have J := J.bt hb g
    have F := F.bt g
    have hb := g.2
    have hdo := hb.1
    refine w_ineN i109_274 g109_274 (by omega) (fun h274 => ?_) (fun h274 => ?_)
    · skip
      refine w_const i109_282 kc_1 ?_
      refine w_ald2 i109_283 ?_
      refine w_ald2 i109_284 ?_
      refine w_const i109_285 kc_3 ?_
      refine w_VD2 i109_286 c119 (Or.inl rfl) (Or.inr ⟨hb.1, by rw [hb.2]; decide +kernel, by rw [hb.2]; decide⟩) (by repeat (first | exact nvL_nil | refine nvL_cons (by first | exact True.intro | exact nvSt (by decide) | exact nvD hdo | exact nvK (by omega) (by omega)) ?_)) ⟨(by repeat (first | exact nvL_nil | refine nvL_cons (by first | exact True.intro | exact nvSt (by decide) | exact nvD hdo | exact nvK (by omega) (by omega)) ?_)), rfl, Nat.le_of_ble_eq_true rfl⟩ ?_
      refine K_next hb (by decide) (by decide) (fun D r hr g => ?_)
      have J := J.bt hb g
      have F := F.bt g
      have hb := g.2
      have hdo := hb.1
      refine w_ineN i109_289 g109_289 (by omega) (fun h289 => ?_) (fun h289 => ?_)
      · skip
        refine w_bip i109_297 kb_20 ?_
        refine w_VD2 i109_299 c119 (Or.inl rfl) (Or.inr ⟨hb.1, by rw [hb.2]; decide +kernel, by rw [hb.2]; decide⟩) (by repeat (first | exact nvL_nil | refine nvL_cons (by first | exact True.intro | exact nvSt (by decide) | exact nvD hdo | exact nvK (by omega) (by omega)) ?_)) ⟨(by repeat (first | exact nvL_nil | refine nvL_cons (by first | exact True.intro | exact nvSt (by decide) | exact nvD hdo | exact nvK (by omega) (by omega)) ?_)), rfl, Nat.le_of_ble_eq_true rfl⟩ ?_
        refine K_next hb (by decide) (by decide) (fun D r hr g => ?_)
        have J := J.bt hb g
        have F := F.bt g
        have hb := g.2
        have hdo := hb.1
        refine w_iadd i109_302 (nI_add _ _) ?_
        refine w_VD4 i109_303 c56 (Or.inl rfl) (Or.inl ⟨by decide +kernel, by decide⟩) (by repeat (first | exact nvL_nil | refine nvL_cons (by first | exact True.intro | exact nvSt (by decide) | exact nvD hdo | exact nvK (by omega) (by omega)) ?_)) ⟨(by repeat (first | exact nvL_nil | refine nvL_cons (by first | exact True.intro | exact nvSt (by decide) | exact nvD hdo | exact nvK (by omega) (by omega)) ?_)), rfl, Nat.le_of_ble_eq_true rfl⟩ ?_
        refine J_O J hB (fun x rs e D3 J3 f3 _ => w_ri i109_306 r109 (hq1 x D3 (okx okF_O e) J3 (F.o f3) (f3.dy hb))) (fun y V2 e hy D3 J3 f3 => w_ri i109_306 r109 (hq2 y _ V2 D3 hy J3 (F.o f3) (f3.dy hb)))
      · skip
        refine w_bip i109_292 kb_90 ?_
        refine w_goto i109_294 g109_294 ?_
        refine w_VD2 i109_299 c119 (Or.inl rfl) (Or.inr ⟨hb.1, by rw [hb.2]; decide +kernel, by rw [hb.2]; decide⟩) (by repeat (first | exact nvL_nil | refine nvL_cons (by first | exact True.intro | exact nvSt (by decide) | exact nvD hdo | exact nvK (by omega) (by omega)) ?_)) ⟨(by repeat (first | exact nvL_nil | refine nvL_cons (by first | exact True.intro | exact nvSt (by decide) | exact nvD hdo | exact nvK (by omega) (by omega)) ?_)), rfl, Nat.le_of_ble_eq_true rfl⟩ ?_
        refine K_next hb (by decide) (by decide) (fun D r hr g => ?_)
        have J := J.bt hb g
        have F := F.bt g
        have hb := g.2
        have hdo := hb.1
        refine w_iadd i109_302 (nI_add _ _) ?_
        refine w_VD4 i109_303 c56 (Or.inl rfl) (Or.inl ⟨by decide +kernel, by decide⟩) (by repeat (first | exact nvL_nil | refine nvL_cons (by first | exact True.intro | exact nvSt (by decide) | exact nvD hdo | exact nvK (by omega) (by omega)) ?_)) ⟨(by repeat (first | exact nvL_nil | refine nvL_cons (by first | exact True.intro | exact nvSt (by decide) | exact nvD hdo | exact nvK (by omega) (by omega)) ?_)), rfl, Nat.le_of_ble_eq_true rfl⟩ ?_
        refine J_O J hB (fun x rs e D3 J3 f3 _ => w_ri i109_306 r109 (hq1 x D3 (okx okF_O e) J3 (F.o f3) (f3.dy hb))) (fun y V2 e hy D3 J3 f3 => w_ri i109_306 r109 (hq2 y _ V2 D3 hy J3 (F.o f3) (f3.dy hb)))
    · skip
      refine w_bip i109_277 kb_91 ?_
      refine w_goto i109_279 g109_279 ?_
      refine w_VD4 i109_303 c56 (Or.inl rfl) (Or.inl ⟨by decide +kernel, by decide⟩) (by repeat (first | exact nvL_nil | refine nvL_cons (by first | exact True.intro | exact nvSt (by decide) | exact nvD hdo | exact nvK (by omega) (by omega)) ?_)) ⟨(by repeat (first | exact nvL_nil | refine nvL_cons (by first | exact True.intro | exact nvSt (by decide) | exact nvD hdo | exact nvK (by omega) (by omega)) ?_)), rfl, Nat.le_of_ble_eq_true rfl⟩ ?_
      refine J_O J hB (fun x rs e D3 J3 f3 _ => w_ri i109_306 r109 (hq1 x D3 (okx okF_O e) J3 (F.o f3) (f3.dy hb))) (fun y V2 e hy D3 J3 f3 => w_ri i109_306 r109 (hq2 y _ V2 D3 hy J3 (F.o f3) (f3.dy hb)))
  · refine w_ts (t := 307) i109_22 (by rw [tgA_ok _ hv, ht]) ?_
    refine w_ald0 i109_307 ?_
    refine w_ild3 i109_308 ?_
    refine w_ild4 i109_309 ?_
    refine w_ald2 i109_311 ?_
    refine w_bip i109_312 kb_20 ?_
    refine w_VD2 i109_314 c119 (Or.inl rfl) (Or.inr ⟨hb.1, by rw [hb.2]; decide +kernel, by rw [hb.2]; decide⟩) (by repeat (first | exact nvL_nil | refine nvL_cons (by first | exact True.intro | exact nvSt (by decide) | exact nvD hdo | exact nvK (by omega) (by omega)) ?_)) ⟨(by repeat (first | exact nvL_nil | refine nvL_cons (by first | exact True.intro | exact nvSt (by decide) | exact nvD hdo | exact nvK (by omega) (by omega)) ?_)), rfl, Nat.le_of_ble_eq_true rfl⟩ ?_
    refine K_next hb (by decide) (by decide) (fun D r hr g => ?_)
    have J := J.bt hb g
    have F := F.bt g
    have hb := g.2
    have hdo := hb.1
    refine w_ineN i109_317 g109_317 (by omega) (fun h317 => ?_) (fun h317 => ?_)
    · skip
      refine w_const i109_325 kc_1 ?_
      refine w_ald2 i109_326 ?_
      refine w_ald2 i109_327 ?_
      refine w_const i109_328 kc_3 ?_
      refine w_VD2 i109_329 c119 (Or.inl rfl) (Or.inr ⟨hb.1, by rw [hb.2]; decide +kernel, by rw [hb.2]; decide⟩) (by repeat (first | exact nvL_nil | refine nvL_cons (by first | exact True.intro | exact nvSt (by decide) | exact nvD hdo | exact nvK (by omega) (by omega)) ?_)) ⟨(by repeat (first | exact nvL_nil | refine nvL_cons (by first | exact True.intro | exact nvSt (by decide) | exact nvD hdo | exact nvK (by omega) (by omega)) ?_)), rfl, Nat.le_of_ble_eq_true rfl⟩ ?_
      refine K_next hb (by decide) (by decide) (fun D r hr g => ?_)
      have J := J.bt hb g
      have F := F.bt g
      have hb := g.2
      have hdo := hb.1
      refine w_ineN i109_332 g109_332 (by omega) (fun h332 => ?_) (fun h332 => ?_)
      · skip
        refine w_const i109_340 kc_5 ?_
        refine w_VD2 i109_341 c119 (Or.inl rfl) (Or.inr ⟨hb.1, by rw [hb.2]; decide +kernel, by rw [hb.2]; decide⟩) (by repeat (first | exact nvL_nil | refine nvL_cons (by first | exact True.intro | exact nvSt (by decide) | exact nvD hdo | exact nvK (by omega) (by omega)) ?_)) ⟨(by repeat (first | exact nvL_nil | refine nvL_cons (by first | exact True.intro | exact nvSt (by decide) | exact nvD hdo | exact nvK (by omega) (by omega)) ?_)), rfl, Nat.le_of_ble_eq_true rfl⟩ ?_
        refine K_next hb (by decide) (by decide) (fun D r hr g => ?_)
        have J := J.bt hb g
        have F := F.bt g
        have hb := g.2
        have hdo := hb.1
        refine w_iadd i109_344 (nI_add _ _) ?_
        refine w_VD4 i109_345 c57 (Or.inl rfl) (Or.inl ⟨by decide +kernel, by decide⟩) (by repeat (first | exact nvL_nil | refine nvL_cons (by first | exact True.intro | exact nvSt (by decide) | exact nvD hdo | exact nvK (by omega) (by omega)) ?_)) ⟨(by repeat (first | exact nvL_nil | refine nvL_cons (by first | exact True.intro | exact nvSt (by decide) | exact nvD hdo | exact nvK (by omega) (by omega)) ?_)), rfl, Nat.le_of_ble_eq_true rfl⟩ ?_
        refine J_W J hB (fun x rs e D3 J3 f3 _ => w_ri i109_348 r109 (hq1 x D3 (okx okF_W e) J3 (F.o f3) (f3.dy hb))) (fun y V2 e hy D3 J3 f3 => w_ri i109_348 r109 (hq2 y _ V2 D3 hy J3 (F.o f3) (f3.dy hb)))
      · skip
        refine w_bip i109_335 kb_24 ?_
        refine w_goto i109_337 g109_337 ?_
        refine w_VD2 i109_341 c119 (Or.inl rfl) (Or.inr ⟨hb.1, by rw [hb.2]; decide +kernel, by rw [hb.2]; decide⟩) (by repeat (first | exact nvL_nil | refine nvL_cons (by first | exact True.intro | exact nvSt (by decide) | exact nvD hdo | exact nvK (by omega) (by omega)) ?_)) ⟨(by repeat (first | exact nvL_nil | refine nvL_cons (by first | exact True.intro | exact nvSt (by decide) | exact nvD hdo | exact nvK (by omega) (by omega)) ?_)), rfl, Nat.le_of_ble_eq_true rfl⟩ ?_
        refine K_next hb (by decide) (by decide) (fun D r hr g => ?_)
        have J := J.bt hb g
        have F := F.bt g
        have hb := g.2
        have hdo := hb.1
        refine w_iadd i109_344 (nI_add _ _) ?_
        refine w_VD4 i109_345 c57 (Or.inl rfl) (Or.inl ⟨by decide +kernel, by decide⟩) (by repeat (first | exact nvL_nil | refine nvL_cons (by first | exact True.intro | exact nvSt (by decide) | exact nvD hdo | exact nvK (by omega) (by omega)) ?_)) ⟨(by repeat (first | exact nvL_nil | refine nvL_cons (by first | exact True.intro | exact nvSt (by decide) | exact nvD hdo | exact nvK (by omega) (by omega)) ?_)), rfl, Nat.le_of_ble_eq_true rfl⟩ ?_
        refine J_W J hB (fun x rs e D3 J3 f3 _ => w_ri i109_348 r109 (hq1 x D3 (okx okF_W e) J3 (F.o f3) (f3.dy hb))) (fun y V2 e hy D3 J3 f3 => w_ri i109_348 r109 (hq2 y _ V2 D3 hy J3 (F.o f3) (f3.dy hb)))
    · skip
      refine w_bip i109_320 kb_25 ?_
      refine w_goto i109_322 g109_322 ?_
      refine w_VD4 i109_345 c57 (Or.inl rfl) (Or.inl ⟨by decide +kernel, by decide⟩) (by repeat (first | exact nvL_nil | refine nvL_cons (by first | exact True.intro | exact nvSt (by decide) | exact nvD hdo | exact nvK (by omega) (by omega)) ?_)) ⟨(by repeat (first | exact nvL_nil | refine nvL_cons (by first | exact True.intro | exact nvSt (by decide) | exact nvD hdo | exact nvK (by omega) (by omega)) ?_)), rfl, Nat.le_of_ble_eq_true rfl⟩ ?_
      refine J_W J hB (fun x rs e D3 J3 f3 _ => w_ri i109_348 r109 (hq1 x D3 (okx okF_W e) J3 (F.o f3) (f3.dy hb))) (fun y V2 e hy D3 J3 f3 => w_ri i109_348 r109 (hq2 y _ V2 D3 hy J3 (F.o f3) (f3.dy hb)))
  · refine w_ts (t := 349) i109_22 (by rw [tgA_ok _ hv, ht]) ?_
    refine w_ald0 i109_349 ?_
    refine w_ild4 i109_350 ?_
    refine w_ald2 i109_352 ?_
    refine w_bip i109_353 kb_20 ?_
    refine w_VD2 i109_355 c119 (Or.inl rfl) (Or.inr ⟨hb.1, by rw [hb.2]; decide +kernel, by rw [hb.2]; decide⟩) (by repeat (first | exact nvL_nil | refine nvL_cons (by first | exact True.intro | exact nvSt (by decide) | exact nvD hdo | exact nvK (by omega) (by omega)) ?_)) ⟨(by repeat (first | exact nvL_nil | refine nvL_cons (by first | exact True.intro | exact nvSt (by decide) | exact nvD hdo | exact nvK (by omega) (by omega)) ?_)), rfl, Nat.le_of_ble_eq_true rfl⟩ ?_
    refine K_next hb (by decide) (by decide) (fun D r hr g => ?_)
    have J := J.bt hb g
    have F := F.bt g
    have hb := g.2
    have hdo := hb.1
    refine w_ineN i109_358 g109_358 (by omega) (fun h358 => ?_) (fun h358 => ?_)
    · skip
      refine w_const i109_366 kc_1 ?_
      refine w_ald2 i109_367 ?_
      refine w_ald2 i109_368 ?_
      refine w_const i109_369 kc_3 ?_
      refine w_VD2 i109_370 c119 (Or.inl rfl) (Or.inr ⟨hb.1, by rw [hb.2]; decide +kernel, by rw [hb.2]; decide⟩) (by repeat (first | exact nvL_nil | refine nvL_cons (by first | exact True.intro | exact nvSt (by decide) | exact nvD hdo | exact nvK (by omega) (by omega)) ?_)) ⟨(by repeat (first | exact nvL_nil | refine nvL_cons (by first | exact True.intro | exact nvSt (by decide) | exact nvD hdo | exact nvK (by omega) (by omega)) ?_)), rfl, Nat.le_of_ble_eq_true rfl⟩ ?_
      refine K_next hb (by decide) (by decide) (fun D r hr g => ?_)
      have J := J.bt hb g
      have F := F.bt g
      have hb := g.2
      have hdo := hb.1
      refine w_ineN i109_373 g109_373 (by omega) (fun h373 => ?_) (fun h373 => ?_)
      · skip
        refine w_const i109_381 kc_4 ?_
        refine w_VD2 i109_382 c119 (Or.inl rfl) (Or.inr ⟨hb.1, by rw [hb.2]; decide +kernel, by rw [hb.2]; decide⟩) (by repeat (first | exact nvL_nil | refine nvL_cons (by first | exact True.intro | exact nvSt (by decide) | exact nvD hdo | exact nvK (by omega) (by omega)) ?_)) ⟨(by repeat (first | exact nvL_nil | refine nvL_cons (by first | exact True.intro | exact nvSt (by decide) | exact nvD hdo | exact nvK (by omega) (by omega)) ?_)), rfl, Nat.le_of_ble_eq_true rfl⟩ ?_
        refine K_next hb (by decide) (by decide) (fun D r hr g => ?_)
        have J := J.bt hb g
        have F := F.bt g
        have hb := g.2
        have hdo := hb.1
        refine w_iadd i109_385 (nI_add _ _) ?_
        refine w_VD3 i109_386 c59 (Or.inl rfl) (Or.inl ⟨by decide +kernel, by decide⟩) (by repeat (first | exact nvL_nil | refine nvL_cons (by first | exact True.intro | exact nvSt (by decide) | exact nvD hdo | exact nvK (by omega) (by omega)) ?_)) ⟨(by repeat (first | exact nvL_nil | refine nvL_cons (by first | exact True.intro | exact nvSt (by decide) | exact nvD hdo | exact nvK (by omega) (by omega)) ?_)), rfl, Nat.le_of_ble_eq_true rfl⟩ ?_
        refine J_P J hB (fun x rs e D3 J3 f3 _ => w_ri i109_389 r109 (hq1 x D3 (okx okF_P e) J3 (F.o f3) (f3.dy hb))) (fun y V2 e hy D3 J3 f3 => w_ri i109_389 r109 (hq2 y _ V2 D3 hy J3 (F.o f3) (f3.dy hb)))
      · skip
        refine w_bip i109_376 kb_12 ?_
        refine w_goto i109_378 g109_378 ?_
        refine w_VD2 i109_382 c119 (Or.inl rfl) (Or.inr ⟨hb.1, by rw [hb.2]; decide +kernel, by rw [hb.2]; decide⟩) (by repeat (first | exact nvL_nil | refine nvL_cons (by first | exact True.intro | exact nvSt (by decide) | exact nvD hdo | exact nvK (by omega) (by omega)) ?_)) ⟨(by repeat (first | exact nvL_nil | refine nvL_cons (by first | exact True.intro | exact nvSt (by decide) | exact nvD hdo | exact nvK (by omega) (by omega)) ?_)), rfl, Nat.le_of_ble_eq_true rfl⟩ ?_
        refine K_next hb (by decide) (by decide) (fun D r hr g => ?_)
        have J := J.bt hb g
        have F := F.bt g
        have hb := g.2
        have hdo := hb.1
        refine w_iadd i109_385 (nI_add _ _) ?_
        refine w_VD3 i109_386 c59 (Or.inl rfl) (Or.inl ⟨by decide +kernel, by decide⟩) (by repeat (first | exact nvL_nil | refine nvL_cons (by first | exact True.intro | exact nvSt (by decide) | exact nvD hdo | exact nvK (by omega) (by omega)) ?_)) ⟨(by repeat (first | exact nvL_nil | refine nvL_cons (by first | exact True.intro | exact nvSt (by decide) | exact nvD hdo | exact nvK (by omega) (by omega)) ?_)), rfl, Nat.le_of_ble_eq_true rfl⟩ ?_
        refine J_P J hB (fun x rs e D3 J3 f3 _ => w_ri i109_389 r109 (hq1 x D3 (okx okF_P e) J3 (F.o f3) (f3.dy hb))) (fun y V2 e hy D3 J3 f3 => w_ri i109_389 r109 (hq2 y _ V2 D3 hy J3 (F.o f3) (f3.dy hb)))
    · skip
      refine w_bip i109_361 kb_31 ?_
      refine w_goto i109_363 g109_363 ?_
      refine w_VD3 i109_386 c59 (Or.inl rfl) (Or.inl ⟨by decide +kernel, by decide⟩) (by repeat (first | exact nvL_nil | refine nvL_cons (by first | exact True.intro | exact nvSt (by decide) | exact nvD hdo | exact nvK (by omega) (by omega)) ?_)) ⟨(by repeat (first | exact nvL_nil | refine nvL_cons (by first | exact True.intro | exact nvSt (by decide) | exact nvD hdo | exact nvK (by omega) (by omega)) ?_)), rfl, Nat.le_of_ble_eq_true rfl⟩ ?_
      refine J_P J hB (fun x rs e D3 J3 f3 _ => w_ri i109_389 r109 (hq1 x D3 (okx okF_P e) J3 (F.o f3) (f3.dy hb))) (fun y V2 e hy D3 J3 f3 => w_ri i109_389 r109 (hq2 y _ V2 D3 hy J3 (F.o f3) (f3.dy hb)))
  · refine w_ts (t := 390) i109_22 (by rw [tgA_ok _ hv, ht]) ?_
    refine w_ald0 i109_390 ?_
    refine w_VD1 i109_391 c60 (Or.inl rfl) (Or.inl ⟨by decide +kernel, by decide⟩) (by repeat (first | exact nvL_nil | refine nvL_cons (by first | exact True.intro | exact nvSt (by decide) | exact nvD hdo | exact nvK (by omega) (by omega)) ?_)) ⟨(by repeat (first | exact nvL_nil | refine nvL_cons (by first | exact True.intro | exact nvSt (by decide) | exact nvD hdo | exact nvK (by omega) (by omega)) ?_)), rfl, Nat.le_of_ble_eq_true rfl⟩ ?_
    refine J_D J hB (fun x rs e D3 J3 f3 _ => w_ri i109_394 r109 (hq1 x D3 (okx okF_D e) J3 (F.o f3) (f3.dy hb))) (fun y V2 e hy D3 J3 f3 => w_ri i109_394 r109 (hq2 y _ V2 D3 hy J3 (F.o f3) (f3.dy hb)))
  · refine w_ts (t := 395) i109_22 (by rw [tgA_ok _ hv, ht]) ?_
    refine w_ald0 i109_395 ?_
    refine w_ild3 i109_396 ?_
    refine w_const i109_397 kc_1 ?_
    refine w_ald2 i109_398 ?_
    refine w_bip i109_399 kb_6 ?_
    refine w_VD2 i109_401 c119 (Or.inl rfl) (Or.inr ⟨hb.1, by rw [hb.2]; decide +kernel, by rw [hb.2]; decide⟩) (by repeat (first | exact nvL_nil | refine nvL_cons (by first | exact True.intro | exact nvSt (by decide) | exact nvD hdo | exact nvK (by omega) (by omega)) ?_)) ⟨(by repeat (first | exact nvL_nil | refine nvL_cons (by first | exact True.intro | exact nvSt (by decide) | exact nvD hdo | exact nvK (by omega) (by omega)) ?_)), rfl, Nat.le_of_ble_eq_true rfl⟩ ?_
    refine K_next hb (by decide) (by decide) (fun D r hr g => ?_)
    have J := J.bt hb g
    have F := F.bt g
    have hb := g.2
    have hdo := hb.1
    refine w_iadd i109_404 (nI_add _ _) ?_
    refine w_const i109_405 kc_1 ?_
    refine w_ald2 i109_406 ?_
    refine w_bip i109_407 kb_9 ?_
    refine w_VD2 i109_409 c119 (Or.inl rfl) (Or.inr ⟨hb.1, by rw [hb.2]; decide +kernel, by rw [hb.2]; decide⟩) (by repeat (first | exact nvL_nil | refine nvL_cons (by first | exact True.intro | exact nvSt (by decide) | exact nvD hdo | exact nvK (by omega) (by omega)) ?_)) ⟨(by repeat (first | exact nvL_nil | refine nvL_cons (by first | exact True.intro | exact nvSt (by decide) | exact nvD hdo | exact nvK (by omega) (by omega)) ?_)), rfl, Nat.le_of_ble_eq_true rfl⟩ ?_
    refine K_next hb (by decide) (by decide) (fun D r hr g => ?_)
    have J := J.bt hb g
    have F := F.bt g
    have hb := g.2
    have hdo := hb.1
    refine w_iadd i109_412 (nI_add _ _) ?_
    refine w_VD4 i109_413 c63 (Or.inl rfl) (Or.inl ⟨by decide +kernel, by decide⟩) (by repeat (first | exact nvL_nil | refine nvL_cons (by first | exact True.intro | exact nvSt (by decide) | exact nvD hdo | exact nvK (by omega) (by omega)) ?_)) ⟨(by repeat (first | exact nvL_nil | refine nvL_cons (by first | exact True.intro | exact nvSt (by decide) | exact nvD hdo | exact nvK (by omega) (by omega)) ?_)), rfl, Nat.le_of_ble_eq_true rfl⟩ ?_
    refine J_M J hB (fun x rs e D3 J3 f3 _ => w_ri i109_416 r109 (hq1 x D3 (okx okF_M e) J3 (F.o f3) (f3.dy hb))) (fun y V2 e hy D3 J3 f3 => w_ri i109_416 r109 (hq2 y _ V2 D3 hy J3 (F.o f3) (f3.dy hb)))
  · refine w_ts (t := 417) i109_22 (by rw [tgA_ok _ hv, ht]) ?_
    refine w_ald0 i109_417 ?_
    refine w_ild3 i109_418 ?_
    refine w_ald2 i109_419 ?_
    refine w_bip i109_420 kb_6 ?_
    refine w_SD2 i109_422 c108 rfl (by repeat (first | exact nvL_nil | refine nvL_cons (by first | exact True.intro | exact nvSt (by decide) | exact nvD hdo | exact nvK (by omega) (by omega)) ?_)) ⟨(by repeat (first | exact nvL_nil | refine nvL_cons (by first | exact True.intro | exact nvSt (by decide) | exact nvD hdo | exact nvK (by omega) (by omega)) ?_)), rfl, Nat.le_of_ble_eq_true rfl⟩ ?_
    refine K_some hb (by decide) (fun D r hr g => ?_)
    have J := J.bt hb g
    have F := F.bt g
    have hb := g.2
    have hdo := hb.1
    refine w_VD3 i109_425 c64 (Or.inl rfl) (Or.inl ⟨by decide +kernel, by decide⟩) (by repeat (first | exact nvL_nil | refine nvL_cons (by first | exact True.intro | exact nvSt (by decide) | exact nvD hdo | exact nvK (by omega) (by omega)) ?_)) ⟨(by repeat (first | exact nvL_nil | refine nvL_cons (by first | exact True.intro | exact nvSt (by decide) | exact nvD hdo | exact nvK (by omega) (by omega)) ?_)), rfl, Nat.le_of_ble_eq_true rfl⟩ ?_
    refine J_H J hB (fun x rs e D3 J3 f3 _ => w_ri i109_428 r109 (hq1 x D3 (okx okF_H e) J3 (F.o f3) (f3.dy hb))) (fun y V2 e hy D3 J3 f3 => w_ri i109_428 r109 (hq2 y _ V2 D3 hy J3 (F.o f3) (f3.dy hb)))
  · refine w_ts (t := 429) i109_22 (by rw [tgA_ok _ hv, ht]) ?_
    refine w_ald0 i109_429 ?_
    refine w_ild3 i109_430 ?_
    refine w_VD2 i109_431 c65 (Or.inl rfl) (Or.inl ⟨by decide +kernel, by decide⟩) (by repeat (first | exact nvL_nil | refine nvL_cons (by first | exact True.intro | exact nvSt (by decide) | exact nvD hdo | exact nvK (by omega) (by omega)) ?_)) ⟨(by repeat (first | exact nvL_nil | refine nvL_cons (by first | exact True.intro | exact nvSt (by decide) | exact nvD hdo | exact nvK (by omega) (by omega)) ?_)), rfl, Nat.le_of_ble_eq_true rfl⟩ ?_
    refine J_E J hB (fun x rs e D3 J3 f3 _ => w_ri i109_434 r109 (hq1 x D3 (okx okF_E e) J3 (F.o f3) (f3.dy hb))) (fun y V2 e hy D3 J3 f3 => w_ri i109_434 r109 (hq2 y _ V2 D3 hy J3 (F.o f3) (f3.dy hb)))
  · refine w_ts (t := 435) i109_22 (by rw [tgA_ok _ hv, ht]) ?_
    refine w_ald0 i109_435 ?_
    refine w_ald2 i109_436 ?_
    refine w_bip i109_437 kb_20 ?_
    refine w_VD2 i109_439 c119 (Or.inl rfl) (Or.inr ⟨hb.1, by rw [hb.2]; decide +kernel, by rw [hb.2]; decide⟩) (by repeat (first | exact nvL_nil | refine nvL_cons (by first | exact True.intro | exact nvSt (by decide) | exact nvD hdo | exact nvK (by omega) (by omega)) ?_)) ⟨(by repeat (first | exact nvL_nil | refine nvL_cons (by first | exact True.intro | exact nvSt (by decide) | exact nvD hdo | exact nvK (by omega) (by omega)) ?_)), rfl, Nat.le_of_ble_eq_true rfl⟩ ?_
    refine K_next hb (by decide) (by decide) (fun D r hr g => ?_)
    have J := J.bt hb g
    have F := F.bt g
    have hb := g.2
    have hdo := hb.1
    refine w_ineN i109_442 g109_442 (by omega) (fun h442 => ?_) (fun h442 => ?_)
    · skip
      refine w_const i109_450 kc_1 ?_
      refine w_ald2 i109_451 ?_
      refine w_const i109_452 kc_5 ?_
      refine w_VD2 i109_453 c119 (Or.inl rfl) (Or.inr ⟨hb.1, by rw [hb.2]; decide +kernel, by rw [hb.2]; decide⟩) (by repeat (first | exact nvL_nil | refine nvL_cons (by first | exact True.intro | exact nvSt (by decide) | exact nvD hdo | exact nvK (by omega) (by omega)) ?_)) ⟨(by repeat (first | exact nvL_nil | refine nvL_cons (by first | exact True.intro | exact nvSt (by decide) | exact nvD hdo | exact nvK (by omega) (by omega)) ?_)), rfl, Nat.le_of_ble_eq_true rfl⟩ ?_
      refine K_next hb (by decide) (by decide) (fun D r hr g => ?_)
      have J := J.bt hb g
      have F := F.bt g
      have hb := g.2
      have hdo := hb.1
      refine w_iadd i109_456 (nI_add _ _) ?_
      refine w_VD2 i109_457 c66 (Or.inl rfl) (Or.inl ⟨by decide +kernel, by decide⟩) (by repeat (first | exact nvL_nil | refine nvL_cons (by first | exact True.intro | exact nvSt (by decide) | exact nvD hdo | exact nvK (by omega) (by omega)) ?_)) ⟨(by repeat (first | exact nvL_nil | refine nvL_cons (by first | exact True.intro | exact nvSt (by decide) | exact nvD hdo | exact nvK (by omega) (by omega)) ?_)), rfl, Nat.le_of_ble_eq_true rfl⟩ ?_
      refine J_T J hB (fun x rs e D3 J3 f3 _ => w_ri i109_460 r109 (hq1 x D3 (okx okF_T e) J3 (F.o f3) (f3.dy hb))) (fun y V2 e hy D3 J3 f3 => w_ri i109_460 r109 (hq2 y _ V2 D3 hy J3 (F.o f3) (f3.dy hb)))
    · skip
      refine w_bip i109_445 kb_25 ?_
      refine w_goto i109_447 g109_447 ?_
      refine w_VD2 i109_457 c66 (Or.inl rfl) (Or.inl ⟨by decide +kernel, by decide⟩) (by repeat (first | exact nvL_nil | refine nvL_cons (by first | exact True.intro | exact nvSt (by decide) | exact nvD hdo | exact nvK (by omega) (by omega)) ?_)) ⟨(by repeat (first | exact nvL_nil | refine nvL_cons (by first | exact True.intro | exact nvSt (by decide) | exact nvD hdo | exact nvK (by omega) (by omega)) ?_)), rfl, Nat.le_of_ble_eq_true rfl⟩ ?_
      refine J_T J hB (fun x rs e D3 J3 f3 _ => w_ri i109_460 r109 (hq1 x D3 (okx okF_T e) J3 (F.o f3) (f3.dy hb))) (fun y V2 e hy D3 J3 f3 => w_ri i109_460 r109 (hq2 y _ V2 D3 hy J3 (F.o f3) (f3.dy hb)))
theorem J_told {d : Nat} {D : Mm} {Q : Option Value → Mm → Prop} {n B nx : Nat} {V : Nat → Int32} {hs : HsT} {ln0 : List Nat} (J : CJ D n V B hs nx) (hB : B ≤ 9000) (hS : SbR D 170 ln0) (hu0 : nxt D ≤ usd D) (hu1 : usd D ≤ 800000)
    (hq : ∀ D2 s nb ln, TxD D2 s nb (toldT n V) → dyn D2 s 9 → DB + nxt D ≤ s ∧ DB + nxt D ≤ nb → CJ D2 n V B hs nx → FrT D D2 → SbR D2 170 ln → nxt D2 ≤ usd D2 → usd D2 ≤ usd D + 5300 → Q (some (.ref s)) D2) : Ct (d + 11) 111 [.ref 0] D Q :=
  K_told J.R J.iv J.xg.2 hB hS hu0 hu1 (fun D2 s nb ln a b c f g h i => hq D2 s nb ln a b c (J.frT f) f g h i)
