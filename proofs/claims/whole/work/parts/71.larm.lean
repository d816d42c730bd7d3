/-! the law's arms that answer an int -/
theorem wl_54 : Cond.methodLink R_law 13 (nY 54) ∈ Tall := atT_in (i := 7040) (by decide +kernel)
theorem ws_54 : Cond.selects (nY 54).cls (nY 54) (nY 54) ∈ Tall := atT_in (i := 7042) (by decide +kernel)
theorem wl_127 : Cond.methodLink R_law 17 (nY 127) ∈ Tall := atT_in (i := 10107) (by decide +kernel)
theorem ws_127 : Cond.selects (nY 127).cls (nY 127) (nY 127) ∈ Tall := atT_in (i := 10109) (by decide +kernel)
theorem wl_55 : Cond.methodLink R_law 18 (nY 55) ∈ Tall := atT_in (i := 7113) (by decide +kernel)
theorem ws_55 : Cond.selects (nY 55).cls (nY 55) (nY 55) ∈ Tall := atT_in (i := 7115) (by decide +kernel)
theorem wl_130 : Cond.methodLink R_law 22 (nY 130) ∈ Tall := atT_in (i := 10158) (by decide +kernel)
theorem ws_130 : Cond.selects (nY 130).cls (nY 130) (nY 130) ∈ Tall := atT_in (i := 10160) (by decide +kernel)
theorem wl_56 : Cond.methodLink R_law 23 (nY 56) ∈ Tall := atT_in (i := 7142) (by decide +kernel)
theorem ws_56 : Cond.selects (nY 56).cls (nY 56) (nY 56) ∈ Tall := atT_in (i := 7144) (by decide +kernel)
theorem wl_132 : Cond.methodLink R_law 26 (nY 132) ∈ Tall := atT_in (i := 10178) (by decide +kernel)
theorem ws_132 : Cond.selects (nY 132).cls (nY 132) (nY 132) ∈ Tall := atT_in (i := 10180) (by decide +kernel)
theorem wl_57 : Cond.methodLink R_law 27 (nY 57) ∈ Tall := atT_in (i := 7154) (by decide +kernel)
theorem ws_57 : Cond.selects (nY 57).cls (nY 57) (nY 57) ∈ Tall := atT_in (i := 7156) (by decide +kernel)
theorem wl_134 : Cond.methodLink R_law 30 (nY 134) ∈ Tall := atT_in (i := 10190) (by decide +kernel)
theorem ws_134 : Cond.selects (nY 134).cls (nY 134) (nY 134) ∈ Tall := atT_in (i := 10192) (by decide +kernel)
theorem wl_58 : Cond.methodLink R_law 31 (nY 58) ∈ Tall := atT_in (i := 7170) (by decide +kernel)
theorem ws_58 : Cond.selects (nY 58).cls (nY 58) (nY 58) ∈ Tall := atT_in (i := 7172) (by decide +kernel)
theorem wl_135 : Cond.methodLink R_law 34 (nY 135) ∈ Tall := atT_in (i := 10202) (by decide +kernel)
theorem ws_135 : Cond.selects (nY 135).cls (nY 135) (nY 135) ∈ Tall := atT_in (i := 10204) (by decide +kernel)
theorem wl_59 : Cond.methodLink R_law 35 (nY 59) ∈ Tall := atT_in (i := 7177) (by decide +kernel)
theorem ws_59 : Cond.selects (nY 59).cls (nY 59) (nY 59) ∈ Tall := atT_in (i := 7179) (by decide +kernel)
theorem wl_138 : Cond.methodLink R_law 38 (nY 138) ∈ Tall := atT_in (i := 10206) (by decide +kernel)
theorem ws_138 : Cond.selects (nY 138).cls (nY 138) (nY 138) ∈ Tall := atT_in (i := 10208) (by decide +kernel)
theorem wl_60 : Cond.methodLink R_law 39 (nY 60) ∈ Tall := atT_in (i := 7186) (by decide +kernel)
theorem ws_60 : Cond.selects (nY 60).cls (nY 60) (nY 60) ∈ Tall := atT_in (i := 7188) (by decide +kernel)
theorem wl_143 : Cond.methodLink R_law 43 (nY 143) ∈ Tall := atT_in (i := 10218) (by decide +kernel)
theorem ws_143 : Cond.selects (nY 143).cls (nY 143) (nY 143) ∈ Tall := atT_in (i := 10220) (by decide +kernel)
theorem wl_61 : Cond.methodLink R_law 44 (nY 61) ∈ Tall := atT_in (i := 7216) (by decide +kernel)
theorem ws_61 : Cond.selects (nY 61).cls (nY 61) (nY 61) ∈ Tall := atT_in (i := 7218) (by decide +kernel)
theorem wl_144 : Cond.methodLink R_law 48 (nY 144) ∈ Tall := atT_in (i := 10238) (by decide +kernel)
theorem ws_144 : Cond.selects (nY 144).cls (nY 144) (nY 144) ∈ Tall := atT_in (i := 11000) (by decide +kernel)
theorem wl_62 : Cond.methodLink R_law 49 (nY 62) ∈ Tall := atT_in (i := 7220) (by decide +kernel)
theorem ws_62 : Cond.selects (nY 62).cls (nY 62) (nY 62) ∈ Tall := atT_in (i := 7222) (by decide +kernel)
theorem wl_145 : Cond.methodLink R_law 52 (nY 145) ∈ Tall := atT_in (i := 11002) (by decide +kernel)
theorem ws_145 : Cond.selects (nY 145).cls (nY 145) (nY 145) ∈ Tall := atT_in (i := 11004) (by decide +kernel)
theorem wl_63 : Cond.methodLink R_law 53 (nY 63) ∈ Tall := atT_in (i := 7228) (by decide +kernel)
theorem ws_63 : Cond.selects (nY 63).cls (nY 63) (nY 63) ∈ Tall := atT_in (i := 7230) (by decide +kernel)
theorem wl_147 : Cond.methodLink R_law 56 (nY 147) ∈ Tall := atT_in (i := 11007) (by decide +kernel)
theorem ws_147 : Cond.selects (nY 147).cls (nY 147) (nY 147) ∈ Tall := atT_in (i := 11009) (by decide +kernel)
theorem wl_64 : Cond.methodLink R_law 57 (nY 64) ∈ Tall := atT_in (i := 7236) (by decide +kernel)
theorem ws_64 : Cond.selects (nY 64).cls (nY 64) (nY 64) ∈ Tall := atT_in (i := 7238) (by decide +kernel)
theorem wl_149 : Cond.methodLink R_law 60 (nY 149) ∈ Tall := atT_in (i := 11015) (by decide +kernel)
theorem ws_149 : Cond.selects (nY 149).cls (nY 149) (nY 149) ∈ Tall := atT_in (i := 11017) (by decide +kernel)
theorem wl_65 : Cond.methodLink R_law 61 (nY 65) ∈ Tall := atT_in (i := 8004) (by decide +kernel)
theorem ws_65 : Cond.selects (nY 65).cls (nY 65) (nY 65) ∈ Tall := atT_in (i := 8006) (by decide +kernel)
theorem wl_154 : Cond.methodLink R_law 64 (nY 154) ∈ Tall := atT_in (i := 11023) (by decide +kernel)
theorem ws_154 : Cond.selects (nY 154).cls (nY 154) (nY 154) ∈ Tall := atT_in (i := 11025) (by decide +kernel)
theorem wl_66 : Cond.methodLink R_law 65 (nY 66) ∈ Tall := atT_in (i := 8036) (by decide +kernel)
theorem ws_66 : Cond.selects (nY 66).cls (nY 66) (nY 66) ∈ Tall := atT_in (i := 8038) (by decide +kernel)
theorem wl_156 : Cond.methodLink R_law 68 (nY 156) ∈ Tall := atT_in (i := 11047) (by decide +kernel)
theorem ws_156 : Cond.selects (nY 156).cls (nY 156) (nY 156) ∈ Tall := atT_in (i := 11049) (by decide +kernel)
theorem wl_67 : Cond.methodLink R_law 69 (nY 67) ∈ Tall := atT_in (i := 8048) (by decide +kernel)
theorem ws_67 : Cond.selects (nY 67).cls (nY 67) (nY 67) ∈ Tall := atT_in (i := 8050) (by decide +kernel)
theorem wl_158 : Cond.methodLink R_law 72 (nY 158) ∈ Tall := atT_in (i := 11055) (by decide +kernel)
theorem ws_158 : Cond.selects (nY 158).cls (nY 158) (nY 158) ∈ Tall := atT_in (i := 11057) (by decide +kernel)
theorem wl_68 : Cond.methodLink R_law 73 (nY 68) ∈ Tall := atT_in (i := 8061) (by decide +kernel)
theorem ws_68 : Cond.selects (nY 68).cls (nY 68) (nY 68) ∈ Tall := atT_in (i := 8063) (by decide +kernel)
theorem wl_159 : Cond.methodLink R_law 76 (nY 159) ∈ Tall := atT_in (i := 11063) (by decide +kernel)
theorem ws_159 : Cond.selects (nY 159).cls (nY 159) (nY 159) ∈ Tall := atT_in (i := 11065) (by decide +kernel)
theorem wl_69 : Cond.methodLink R_law 77 (nY 69) ∈ Tall := atT_in (i := 8065) (by decide +kernel)
theorem ws_69 : Cond.selects (nY 69).cls (nY 69) (nY 69) ∈ Tall := atT_in (i := 8067) (by decide +kernel)
theorem wl_160 : Cond.methodLink R_law 80 (nY 160) ∈ Tall := atT_in (i := 11067) (by decide +kernel)
theorem ws_160 : Cond.selects (nY 160).cls (nY 160) (nY 160) ∈ Tall := atT_in (i := 11069) (by decide +kernel)
theorem wl_70 : Cond.methodLink R_law 81 (nY 70) ∈ Tall := atT_in (i := 8074) (by decide +kernel)
theorem ws_70 : Cond.selects (nY 70).cls (nY 70) (nY 70) ∈ Tall := atT_in (i := 8076) (by decide +kernel)
theorem wl_161 : Cond.methodLink R_law 84 (nY 161) ∈ Tall := atT_in (i := 11071) (by decide +kernel)
theorem ws_161 : Cond.selects (nY 161).cls (nY 161) (nY 161) ∈ Tall := atT_in (i := 11073) (by decide +kernel)
theorem wl_71 : Cond.methodLink R_law 85 (nY 71) ∈ Tall := atT_in (i := 8078) (by decide +kernel)
theorem ws_71 : Cond.selects (nY 71).cls (nY 71) (nY 71) ∈ Tall := atT_in (i := 8080) (by decide +kernel)
theorem wl_162 : Cond.methodLink R_law 88 (nY 162) ∈ Tall := atT_in (i := 11075) (by decide +kernel)
theorem ws_162 : Cond.selects (nY 162).cls (nY 162) (nY 162) ∈ Tall := atT_in (i := 11077) (by decide +kernel)
theorem wl_72 : Cond.methodLink R_law 89 (nY 72) ∈ Tall := atT_in (i := 8090) (by decide +kernel)
theorem ws_72 : Cond.selects (nY 72).cls (nY 72) (nY 72) ∈ Tall := atT_in (i := 8092) (by decide +kernel)
theorem wl_163 : Cond.methodLink R_law 92 (nY 163) ∈ Tall := atT_in (i := 11080) (by decide +kernel)
theorem ws_163 : Cond.selects (nY 163).cls (nY 163) (nY 163) ∈ Tall := atT_in (i := 11082) (by decide +kernel)
theorem wl_73 : Cond.methodLink R_law 93 (nY 73) ∈ Tall := atT_in (i := 8102) (by decide +kernel)
theorem ws_73 : Cond.selects (nY 73).cls (nY 73) (nY 73) ∈ Tall := atT_in (i := 8104) (by decide +kernel)
theorem wl_164 : Cond.methodLink R_law 96 (nY 164) ∈ Tall := atT_in (i := 11084) (by decide +kernel)
theorem ws_164 : Cond.selects (nY 164).cls (nY 164) (nY 164) ∈ Tall := atT_in (i := 11086) (by decide +kernel)
theorem wl_74 : Cond.methodLink R_law 97 (nY 74) ∈ Tall := atT_in (i := 8114) (by decide +kernel)
theorem ws_74 : Cond.selects (nY 74).cls (nY 74) (nY 74) ∈ Tall := atT_in (i := 8116) (by decide +kernel)
theorem wl_167 : Cond.methodLink R_law 100 (nY 167) ∈ Tall := atT_in (i := 11088) (by decide +kernel)
theorem ws_167 : Cond.selects (nY 167).cls (nY 167) (nY 167) ∈ Tall := atT_in (i := 11090) (by decide +kernel)
theorem wl_75 : Cond.methodLink R_law 101 (nY 75) ∈ Tall := atT_in (i := 8218) (by decide +kernel)
theorem ws_75 : Cond.selects (nY 75).cls (nY 75) (nY 75) ∈ Tall := atT_in (i := 8220) (by decide +kernel)
theorem wl_177 : Cond.methodLink R_law 104 (nY 177) ∈ Tall := atT_in (i := 11092) (by decide +kernel)
theorem ws_177 : Cond.selects (nY 177).cls (nY 177) (nY 177) ∈ Tall := atT_in (i := 11094) (by decide +kernel)
theorem wl_76 : Cond.methodLink R_law 105 (nY 76) ∈ Tall := atT_in (i := 9149) (by decide +kernel)
theorem ws_76 : Cond.selects (nY 76).cls (nY 76) (nY 76) ∈ Tall := atT_in (i := 9151) (by decide +kernel)
theorem wl_178 : Cond.methodLink R_law 108 (nY 178) ∈ Tall := atT_in (i := 11131) (by decide +kernel)
theorem ws_178 : Cond.selects (nY 178).cls (nY 178) (nY 178) ∈ Tall := atT_in (i := 11133) (by decide +kernel)
theorem wl_77 : Cond.methodLink R_law 109 (nY 77) ∈ Tall := atT_in (i := 9178) (by decide +kernel)
theorem ws_77 : Cond.selects (nY 77).cls (nY 77) (nY 77) ∈ Tall := atT_in (i := 9180) (by decide +kernel)
theorem wl_179 : Cond.methodLink R_law 112 (nY 179) ∈ Tall := atT_in (i := 11143) (by decide +kernel)
theorem ws_179 : Cond.selects (nY 179).cls (nY 179) (nY 179) ∈ Tall := atT_in (i := 11145) (by decide +kernel)
theorem wl_78 : Cond.methodLink R_law 113 (nY 78) ∈ Tall := atT_in (i := 9186) (by decide +kernel)
theorem ws_78 : Cond.selects (nY 78).cls (nY 78) (nY 78) ∈ Tall := atT_in (i := 9188) (by decide +kernel)
theorem wl_180 : Cond.methodLink R_law 116 (nY 180) ∈ Tall := atT_in (i := 11147) (by decide +kernel)
theorem ws_180 : Cond.selects (nY 180).cls (nY 180) (nY 180) ∈ Tall := atT_in (i := 11149) (by decide +kernel)
theorem wl_79 : Cond.methodLink R_law 117 (nY 79) ∈ Tall := atT_in (i := 9191) (by decide +kernel)
theorem ws_79 : Cond.selects (nY 79).cls (nY 79) (nY 79) ∈ Tall := atT_in (i := 9193) (by decide +kernel)
theorem wl_181 : Cond.methodLink R_law 121 (nY 181) ∈ Tall := atT_in (i := 11151) (by decide +kernel)
theorem ws_181 : Cond.selects (nY 181).cls (nY 181) (nY 181) ∈ Tall := atT_in (i := 11153) (by decide +kernel)
theorem wl_80 : Cond.methodLink R_law 122 (nY 80) ∈ Tall := atT_in (i := 9195) (by decide +kernel)
theorem ws_80 : Cond.selects (nY 80).cls (nY 80) (nY 80) ∈ Tall := atT_in (i := 9197) (by decide +kernel)
theorem wl_184 : Cond.methodLink R_law 125 (nY 184) ∈ Tall := atT_in (i := 11155) (by decide +kernel)
theorem ws_184 : Cond.selects (nY 184).cls (nY 184) (nY 184) ∈ Tall := atT_in (i := 11157) (by decide +kernel)
theorem wl_81 : Cond.methodLink R_law 126 (nY 81) ∈ Tall := atT_in (i := 9212) (by decide +kernel)
theorem ws_81 : Cond.selects (nY 81).cls (nY 81) (nY 81) ∈ Tall := atT_in (i := 9214) (by decide +kernel)
theorem wl_185 : Cond.methodLink R_law 129 (nY 185) ∈ Tall := atT_in (i := 11167) (by decide +kernel)
theorem ws_185 : Cond.selects (nY 185).cls (nY 185) (nY 185) ∈ Tall := atT_in (i := 11169) (by decide +kernel)
theorem wl_82 : Cond.methodLink R_law 140 (nY 82) ∈ Tall := atT_in (i := 10000) (by decide +kernel)
theorem ws_82 : Cond.selects (nY 82).cls (nY 82) (nY 82) ∈ Tall := atT_in (i := 10002) (by decide +kernel)
theorem wl_186 : Cond.methodLink R_law 143 (nY 186) ∈ Tall := atT_in (i := 11179) (by decide +kernel)
theorem ws_186 : Cond.selects (nY 186).cls (nY 186) (nY 186) ∈ Tall := atT_in (i := 11181) (by decide +kernel)
theorem wl_83 : Cond.methodLink R_law 144 (nY 83) ∈ Tall := atT_in (i := 10009) (by decide +kernel)
theorem ws_83 : Cond.selects (nY 83).cls (nY 83) (nY 83) ∈ Tall := atT_in (i := 10011) (by decide +kernel)
theorem wl_187 : Cond.methodLink R_law 147 (nY 187) ∈ Tall := atT_in (i := 11183) (by decide +kernel)
theorem ws_187 : Cond.selects (nY 187).cls (nY 187) (nY 187) ∈ Tall := atT_in (i := 11185) (by decide +kernel)
theorem wl_84 : Cond.methodLink R_law 148 (nY 84) ∈ Tall := atT_in (i := 10014) (by decide +kernel)
theorem ws_84 : Cond.selects (nY 84).cls (nY 84) (nY 84) ∈ Tall := atT_in (i := 10016) (by decide +kernel)
theorem wl_188 : Cond.methodLink R_law 151 (nY 188) ∈ Tall := atT_in (i := 11187) (by decide +kernel)
theorem ws_188 : Cond.selects (nY 188).cls (nY 188) (nY 188) ∈ Tall := atT_in (i := 11189) (by decide +kernel)
section
variable {p : Program} {l : Launch} {e : Env} {s : State} {m : MethodId} {below : List Frame} {meth : Method} {c : Code} {b L : Nat} {xs : Nat → Int32} {G : Gp} {ad0 ad : Nat → Nat} {D : Mm} {H : Heap} {locs : List Loc} {Q : State → Prop} {ls : Array Slot} {i V : Nat}
theorem push_bool {pc cells slots : Nat} {x : Int32} {rest : List Value} (hX : LX p s m c b L xs G ad0) (d5 : decode code pc = .ok (.ifCond .eq 7, 3)) (d6 : decode code (pc + 3) = .ok (.iconst 1, 1)) (d7 : decode code (pc + 4) = .ok (.goto 4, 3)) (d8 : decode code (pc + 7) = .ok (.iconst 0, 1))
    (next : W p l e room_1 s m #[Value.ref b] below meth c H locs cells slots Q (F0 m (pc + 8) ls (.int (if x = 0 then nI 0 else nI 1) :: rest))) : W p l e room_1 s m #[Value.ref b] below meth c H locs cells slots Q (F0 m pc ls (.int x :: rest)) := by
  refine lv_if_eq hX.1 hX.2.1 d5 (tgt := pc + 7) (by omega) (fun h => ?_) (fun h => ?_)
  · rw [if_pos h] at next
    exact lv_iconst hX.1 hX.2.1 d8 (v := nI 0) rfl next
  · rw [if_neg h] at next
    refine lv_iconst hX.1 hX.2.1 d6 (v := nI 1) rfl ?_
    exact lv_goto hX.1 hX.2.1 d7 (tgt := pc + 8) (by omega) next
set_option maxHeartbeats 1000000 in
theorem arm_0 (hX : LX p s m c b L xs G ad0) (hH : LH s G ad0 ad D H locs) (hJ : J D V) (hV : V ≤ 18000) (hi : i + 4 ≤ L) (hl : lv_has ls 8 (lwv b i ad0))
    (tail : ∀ (ad3 : Nat → Nat) (D3 : Mm) (H3 : Heap) (locs3 : List Loc) (ls3 : Array Slot), LH s G ad0 ad3 D3 H3 locs3 → J D3 (V + 30) → lv_has ls3 8 (lwv b i ad0) → W p l e room_1 s m #[Value.ref b] below meth c H3 locs3 (151 + pot D3) (3562 + 2 * pot D3) Q (F0 m 1063 ls3 [])) :
    W p l e room_1 s m #[Value.ref b] below meth c H locs (151 + pot D) (3562 + 2 * pot D) Q (F0 m 180 ls []) := by
  obtain ⟨a, D2, D3, p1, p2, hC, hM, hJ3⟩ := stp_split (stp_S (d := 2) (a := xs (i + 1)) (b := xs (i + 2)) (x := xs (i + 3)) hV) hJ
  have hx := hX.1
  have hb := hX.2.1
  have h6 := J_pot hJ3
  refine lv_aload_n hx hb zl_180 rfl (lv_at hl 1 rfl) ?_
  refine push_arg (j := 1) hX hH.2.2.2 hl (by omega) rfl zl_181 zl_182 zl_183 zl_184 zl_185 ?_
  refine push_arg (j := 2) hX hH.2.2.2 hl (by omega) rfl zl_186 zl_187 zl_188 zl_189 zl_190 ?_
  refine push_arg (j := 3) hX hH.2.2.2 hl (by omega) rfl zl_191 zl_192 zl_193 zl_194 zl_195 ?_
  refine law_callK (k := 54) (o := 0) (As := [.int (xs (i + 1)), .int (xs (i + 2)), .int (xs (i + 3))]) (rest := []) hX hH hC (by decide) rfl (fun _ => rfl) (Or.inl rfl) wl_54 ws_54 rfl rfl hl.1 zl_196 (Nat.le_of_ble_eq_true rfl) p1 (by omega) (fun ad2 H2 locs2 hH2 => ?_)
  refine lv_aload_n hx hb zl_199 rfl (lv_at hl 2 rfl) ?_
  refine push_arg (j := 1) hX hH2.2.2.2 hl (by omega) rfl zl_200 zl_201 zl_202 zl_203 zl_204 ?_
  refine push_arg (j := 2) hX hH2.2.2.2 hl (by omega) rfl zl_205 zl_206 zl_207 zl_208 zl_209 ?_
  refine push_arg (j := 3) hX hH2.2.2.2 hl (by omega) rfl zl_210 zl_211 zl_212 zl_213 zl_214 ?_
  refine law_callK (k := 127) (o := 171) (As := [.int (xs (i + 1)), .int (xs (i + 2)), .int (xs (i + 3))]) (rest := [.int a]) hX hH2 hM (by decide) rfl (fun _ => rfl) (Or.inr rfl) wl_127 ws_127 rfl rfl hl.1 zl_215 (Nat.le_of_ble_eq_true rfl) p2 h6 (fun ad3 H3 locs3 hH3 => ?_)
  refine lv_icmp_eq hx hb zl_218 (tgt := 1063) (by decide) (fun _ => ?_) (fun hz => absurd rfl hz)
  exact tail ad3 D3 H3 locs3 ls hH3 hJ3 hl
set_option maxHeartbeats 1000000 in
theorem arm_1 (hX : LX p s m c b L xs G ad0) (hH : LH s G ad0 ad D H locs) (hJ : J D V) (hV : V ≤ 18000) (hi : i + 4 ≤ L) (hl : lv_has ls 8 (lwv b i ad0))
    (tail : ∀ (ad3 : Nat → Nat) (D3 : Mm) (H3 : Heap) (locs3 : List Loc) (ls3 : Array Slot), LH s G ad0 ad3 D3 H3 locs3 → J D3 (V + 30) → lv_has ls3 8 (lwv b i ad0) → W p l e room_1 s m #[Value.ref b] below meth c H3 locs3 (151 + pot D3) (3562 + 2 * pot D3) Q (F0 m 1063 ls3 [])) :
    W p l e room_1 s m #[Value.ref b] below meth c H locs (151 + pot D) (3562 + 2 * pot D) Q (F0 m 223 ls []) := by
  obtain ⟨a, D2, D3, p1, p2, hC, hM, hJ3⟩ := stp_split (stp_B (d := 2) (a := xs (i + 1)) (b := xs (i + 2)) hV) hJ
  have hx := hX.1
  have hb := hX.2.1
  have h6 := J_pot hJ3
  refine lv_aload_n hx hb zl_223 rfl (lv_at hl 1 rfl) ?_
  refine push_arg (j := 1) hX hH.2.2.2 hl (by omega) rfl zl_224 zl_225 zl_226 zl_227 zl_228 ?_
  refine push_arg (j := 2) hX hH.2.2.2 hl (by omega) rfl zl_229 zl_230 zl_231 zl_232 zl_233 ?_
  refine law_callK (k := 55) (o := 0) (As := [.int (xs (i + 1)), .int (xs (i + 2))]) (rest := []) hX hH hC (by decide) rfl (fun _ => rfl) (Or.inl rfl) wl_55 ws_55 rfl rfl hl.1 zl_234 (Nat.le_of_ble_eq_true rfl) p1 (by omega) (fun ad2 H2 locs2 hH2 => ?_)
  refine lv_aload_n hx hb zl_237 rfl (lv_at hl 2 rfl) ?_
  refine push_arg (j := 1) hX hH2.2.2.2 hl (by omega) rfl zl_238 zl_239 zl_240 zl_241 zl_242 ?_
  refine push_arg (j := 2) hX hH2.2.2.2 hl (by omega) rfl zl_243 zl_244 zl_245 zl_246 zl_247 ?_
  refine law_callK (k := 130) (o := 171) (As := [.int (xs (i + 1)), .int (xs (i + 2))]) (rest := [.int a]) hX hH2 hM (by decide) rfl (fun _ => rfl) (Or.inr rfl) wl_130 ws_130 rfl rfl hl.1 zl_248 (Nat.le_of_ble_eq_true rfl) p2 h6 (fun ad3 H3 locs3 hH3 => ?_)
  refine lv_icmp_eq hx hb zl_251 (tgt := 1063) (by decide) (fun _ => ?_) (fun hz => absurd rfl hz)
  exact tail ad3 D3 H3 locs3 ls hH3 hJ3 hl
set_option maxHeartbeats 1000000 in
theorem arm_2 (hX : LX p s m c b L xs G ad0) (hH : LH s G ad0 ad D H locs) (hJ : J D V) (hV : V ≤ 18000) (hi : i + 4 ≤ L) (hl : lv_has ls 8 (lwv b i ad0))
    (tail : ∀ (ad3 : Nat → Nat) (D3 : Mm) (H3 : Heap) (locs3 : List Loc) (ls3 : Array Slot), LH s G ad0 ad3 D3 H3 locs3 → J D3 (V + 30) → lv_has ls3 8 (lwv b i ad0) → W p l e room_1 s m #[Value.ref b] below meth c H3 locs3 (151 + pot D3) (3562 + 2 * pot D3) Q (F0 m 1063 ls3 [])) :
    W p l e room_1 s m #[Value.ref b] below meth c H locs (151 + pot D) (3562 + 2 * pot D) Q (F0 m 256 ls []) := by
  obtain ⟨a, D2, D3, p1, p2, hC, hM, hJ3⟩ := stp_split (stp_O (d := 2) (a := xs (i + 1)) (b := xs (i + 2)) (x := xs (i + 3)) hV) hJ
  have hx := hX.1
  have hb := hX.2.1
  have h6 := J_pot hJ3
  refine lv_aload_n hx hb zl_256 rfl (lv_at hl 1 rfl) ?_
  refine push_arg (j := 1) hX hH.2.2.2 hl (by omega) rfl zl_257 zl_258 zl_259 zl_260 zl_261 ?_
  refine push_arg (j := 2) hX hH.2.2.2 hl (by omega) rfl zl_262 zl_263 zl_264 zl_265 zl_266 ?_
  refine push_arg (j := 3) hX hH.2.2.2 hl (by omega) rfl zl_267 zl_268 zl_269 zl_270 zl_271 ?_
  refine law_callK (k := 56) (o := 0) (As := [.int (xs (i + 1)), .int (xs (i + 2)), .int (xs (i + 3))]) (rest := []) hX hH hC (by decide) rfl (fun _ => rfl) (Or.inl rfl) wl_56 ws_56 rfl rfl hl.1 zl_272 (Nat.le_of_ble_eq_true rfl) p1 (by omega) (fun ad2 H2 locs2 hH2 => ?_)
  refine lv_aload_n hx hb zl_275 rfl (lv_at hl 2 rfl) ?_
  refine push_arg (j := 1) hX hH2.2.2.2 hl (by omega) rfl zl_276 zl_277 zl_278 zl_279 zl_280 ?_
  refine push_arg (j := 2) hX hH2.2.2.2 hl (by omega) rfl zl_281 zl_282 zl_283 zl_284 zl_285 ?_
  refine push_arg (j := 3) hX hH2.2.2.2 hl (by omega) rfl zl_286 zl_287 zl_288 zl_289 zl_290 ?_
  refine law_callK (k := 132) (o := 171) (As := [.int (xs (i + 1)), .int (xs (i + 2)), .int (xs (i + 3))]) (rest := [.int a]) hX hH2 hM (by decide) rfl (fun _ => rfl) (Or.inr rfl) wl_132 ws_132 rfl rfl hl.1 zl_291 (Nat.le_of_ble_eq_true rfl) p2 h6 (fun ad3 H3 locs3 hH3 => ?_)
  refine lv_icmp_eq hx hb zl_294 (tgt := 1063) (by decide) (fun _ => ?_) (fun hz => absurd rfl hz)
  exact tail ad3 D3 H3 locs3 ls hH3 hJ3 hl
set_option maxHeartbeats 1000000 in
theorem arm_3 (hX : LX p s m c b L xs G ad0) (hH : LH s G ad0 ad D H locs) (hJ : J D V) (hV : V ≤ 18000) (hi : i + 4 ≤ L) (hl : lv_has ls 8 (lwv b i ad0))
    (tail : ∀ (ad3 : Nat → Nat) (D3 : Mm) (H3 : Heap) (locs3 : List Loc) (ls3 : Array Slot), LH s G ad0 ad3 D3 H3 locs3 → J D3 (V + 30) → lv_has ls3 8 (lwv b i ad0) → W p l e room_1 s m #[Value.ref b] below meth c H3 locs3 (151 + pot D3) (3562 + 2 * pot D3) Q (F0 m 1063 ls3 [])) :
    W p l e room_1 s m #[Value.ref b] below meth c H locs (151 + pot D) (3562 + 2 * pot D) Q (F0 m 299 ls []) := by
  obtain ⟨a, D2, D3, p1, p2, hC, hM, hJ3⟩ := stp_split (stp_W (d := 2) (a := xs (i + 1)) (b := xs (i + 2)) (x := xs (i + 3)) hV) hJ
  have hx := hX.1
  have hb := hX.2.1
  have h6 := J_pot hJ3
  refine lv_aload_n hx hb zl_299 rfl (lv_at hl 1 rfl) ?_
  refine push_arg (j := 1) hX hH.2.2.2 hl (by omega) rfl zl_300 zl_301 zl_302 zl_303 zl_304 ?_
  refine push_arg (j := 2) hX hH.2.2.2 hl (by omega) rfl zl_305 zl_306 zl_307 zl_308 zl_309 ?_
  refine push_arg (j := 3) hX hH.2.2.2 hl (by omega) rfl zl_310 zl_311 zl_312 zl_313 zl_314 ?_
  refine law_callK (k := 57) (o := 0) (As := [.int (xs (i + 1)), .int (xs (i + 2)), .int (xs (i + 3))]) (rest := []) hX hH hC (by decide) rfl (fun _ => rfl) (Or.inl rfl) wl_57 ws_57 rfl rfl hl.1 zl_315 (Nat.le_of_ble_eq_true rfl) p1 (by omega) (fun ad2 H2 locs2 hH2 => ?_)
  refine lv_aload_n hx hb zl_318 rfl (lv_at hl 2 rfl) ?_
  refine push_arg (j := 1) hX hH2.2.2.2 hl (by omega) rfl zl_319 zl_320 zl_321 zl_322 zl_323 ?_
  refine push_arg (j := 2) hX hH2.2.2.2 hl (by omega) rfl zl_324 zl_325 zl_326 zl_327 zl_328 ?_
  refine push_arg (j := 3) hX hH2.2.2.2 hl (by omega) rfl zl_329 zl_330 zl_331 zl_332 zl_333 ?_
  refine law_callK (k := 134) (o := 171) (As := [.int (xs (i + 1)), .int (xs (i + 2)), .int (xs (i + 3))]) (rest := [.int a]) hX hH2 hM (by decide) rfl (fun _ => rfl) (Or.inr rfl) wl_134 ws_134 rfl rfl hl.1 zl_334 (Nat.le_of_ble_eq_true rfl) p2 h6 (fun ad3 H3 locs3 hH3 => ?_)
  refine lv_icmp_eq hx hb zl_337 (tgt := 1063) (by decide) (fun _ => ?_) (fun hz => absurd rfl hz)
  exact tail ad3 D3 H3 locs3 ls hH3 hJ3 hl
set_option maxHeartbeats 1000000 in
theorem arm_4 (hX : LX p s m c b L xs G ad0) (hH : LH s G ad0 ad D H locs) (hJ : J D V) (hV : V ≤ 18000) (hi : i + 4 ≤ L) (hl : lv_has ls 8 (lwv b i ad0))
    (tail : ∀ (ad3 : Nat → Nat) (D3 : Mm) (H3 : Heap) (locs3 : List Loc) (ls3 : Array Slot), LH s G ad0 ad3 D3 H3 locs3 → J D3 (V + 30) → lv_has ls3 8 (lwv b i ad0) → W p l e room_1 s m #[Value.ref b] below meth c H3 locs3 (151 + pot D3) (3562 + 2 * pot D3) Q (F0 m 1063 ls3 [])) :
    W p l e room_1 s m #[Value.ref b] below meth c H locs (151 + pot D) (3562 + 2 * pot D) Q (F0 m 342 ls []) := by
  obtain ⟨a, D2, D3, p1, p2, hC, hM, hJ3⟩ := stp_split (stp_stubOf (d := 2) (a := xs (i + 1)) (w := xs (i + 2)) hV) hJ
  have hx := hX.1
  have hb := hX.2.1
  have h6 := J_pot hJ3
  refine lv_aload_n hx hb zl_342 rfl (lv_at hl 1 rfl) ?_
  refine push_arg (j := 1) hX hH.2.2.2 hl (by omega) rfl zl_343 zl_344 zl_345 zl_346 zl_347 ?_
  refine push_arg (j := 2) hX hH.2.2.2 hl (by omega) rfl zl_348 zl_349 zl_350 zl_351 zl_352 ?_
  refine law_callK (k := 58) (o := 0) (As := [.int (xs (i + 1)), .int (xs (i + 2))]) (rest := []) hX hH hC (by decide) rfl (fun _ => rfl) (Or.inl rfl) wl_58 ws_58 rfl rfl hl.1 zl_353 (Nat.le_of_ble_eq_true rfl) p1 (by omega) (fun ad2 H2 locs2 hH2 => ?_)
  refine lv_aload_n hx hb zl_356 rfl (lv_at hl 2 rfl) ?_
  refine push_arg (j := 1) hX hH2.2.2.2 hl (by omega) rfl zl_357 zl_358 zl_359 zl_360 zl_361 ?_
  refine push_arg (j := 2) hX hH2.2.2.2 hl (by omega) rfl zl_362 zl_363 zl_364 zl_365 zl_366 ?_
  refine law_callK (k := 135) (o := 171) (As := [.int (xs (i + 1)), .int (xs (i + 2))]) (rest := [.int a]) hX hH2 hM (by decide) rfl (fun _ => rfl) (Or.inr rfl) wl_135 ws_135 rfl rfl hl.1 zl_367 (Nat.le_of_ble_eq_true rfl) p2 h6 (fun ad3 H3 locs3 hH3 => ?_)
  refine lv_icmp_eq hx hb zl_370 (tgt := 1063) (by decide) (fun _ => ?_) (fun hz => absurd rfl hz)
  exact tail ad3 D3 H3 locs3 ls hH3 hJ3 hl
set_option maxHeartbeats 1000000 in
theorem arm_5 (hX : LX p s m c b L xs G ad0) (hH : LH s G ad0 ad D H locs) (hJ : J D V) (hV : V ≤ 18000) (hi : i + 4 ≤ L) (hl : lv_has ls 8 (lwv b i ad0))
    (tail : ∀ (ad3 : Nat → Nat) (D3 : Mm) (H3 : Heap) (locs3 : List Loc) (ls3 : Array Slot), LH s G ad0 ad3 D3 H3 locs3 → J D3 (V + 30) → lv_has ls3 8 (lwv b i ad0) → W p l e room_1 s m #[Value.ref b] below meth c H3 locs3 (151 + pot D3) (3562 + 2 * pot D3) Q (F0 m 1063 ls3 [])) :
    W p l e room_1 s m #[Value.ref b] below meth c H locs (151 + pot D) (3562 + 2 * pot D) Q (F0 m 375 ls []) := by
  obtain ⟨a, D2, D3, p1, p2, hC, hM, hJ3⟩ := stp_split (stp_P (d := 2) (a := xs (i + 1)) (b := xs (i + 2)) hV) hJ
  have hx := hX.1
  have hb := hX.2.1
  have h6 := J_pot hJ3
  refine lv_aload_n hx hb zl_375 rfl (lv_at hl 1 rfl) ?_
  refine push_arg (j := 1) hX hH.2.2.2 hl (by omega) rfl zl_376 zl_377 zl_378 zl_379 zl_380 ?_
  refine push_arg (j := 2) hX hH.2.2.2 hl (by omega) rfl zl_381 zl_382 zl_383 zl_384 zl_385 ?_
  refine law_callK (k := 59) (o := 0) (As := [.int (xs (i + 1)), .int (xs (i + 2))]) (rest := []) hX hH hC (by decide) rfl (fun _ => rfl) (Or.inl rfl) wl_59 ws_59 rfl rfl hl.1 zl_386 (Nat.le_of_ble_eq_true rfl) p1 (by omega) (fun ad2 H2 locs2 hH2 => ?_)
  refine lv_aload_n hx hb zl_389 rfl (lv_at hl 2 rfl) ?_
  refine push_arg (j := 1) hX hH2.2.2.2 hl (by omega) rfl zl_390 zl_391 zl_392 zl_393 zl_394 ?_
  refine push_arg (j := 2) hX hH2.2.2.2 hl (by omega) rfl zl_395 zl_396 zl_397 zl_398 zl_399 ?_
  refine law_callK (k := 138) (o := 171) (As := [.int (xs (i + 1)), .int (xs (i + 2))]) (rest := [.int a]) hX hH2 hM (by decide) rfl (fun _ => rfl) (Or.inr rfl) wl_138 ws_138 rfl rfl hl.1 zl_400 (Nat.le_of_ble_eq_true rfl) p2 h6 (fun ad3 H3 locs3 hH3 => ?_)
  refine lv_icmp_eq hx hb zl_403 (tgt := 1063) (by decide) (fun _ => ?_) (fun hz => absurd rfl hz)
  exact tail ad3 D3 H3 locs3 ls hH3 hJ3 hl
set_option maxHeartbeats 1000000 in
theorem arm_6 (hX : LX p s m c b L xs G ad0) (hH : LH s G ad0 ad D H locs) (hJ : J D V) (hV : V ≤ 18000) (hi : i + 4 ≤ L) (hl : lv_has ls 8 (lwv b i ad0))
    (tail : ∀ (ad3 : Nat → Nat) (D3 : Mm) (H3 : Heap) (locs3 : List Loc) (ls3 : Array Slot), LH s G ad0 ad3 D3 H3 locs3 → J D3 (V + 30) → lv_has ls3 8 (lwv b i ad0) → W p l e room_1 s m #[Value.ref b] below meth c H3 locs3 (151 + pot D3) (3562 + 2 * pot D3) Q (F0 m 1063 ls3 [])) :
    W p l e room_1 s m #[Value.ref b] below meth c H locs (151 + pot D) (3562 + 2 * pot D) Q (F0 m 408 ls []) := by
  obtain ⟨a, D2, D3, p1, p2, hC, hM, hJ3⟩ := stp_split (stp_D (d := 2) hV) hJ
  have hx := hX.1
  have hb := hX.2.1
  have h6 := J_pot hJ3
  refine lv_aload_n hx hb zl_408 rfl (lv_at hl 1 rfl) ?_
  refine law_callK (k := 60) (o := 0) (As := []) (rest := []) hX hH hC (by decide) rfl (fun _ => rfl) (Or.inl rfl) wl_60 ws_60 rfl rfl hl.1 zl_409 (Nat.le_of_ble_eq_true rfl) p1 (by omega) (fun ad2 H2 locs2 hH2 => ?_)
  refine lv_aload_n hx hb zl_412 rfl (lv_at hl 2 rfl) ?_
  refine law_callK (k := 143) (o := 171) (As := []) (rest := [.int a]) hX hH2 hM (by decide) rfl (fun _ => rfl) (Or.inr rfl) wl_143 ws_143 rfl rfl hl.1 zl_413 (Nat.le_of_ble_eq_true rfl) p2 h6 (fun ad3 H3 locs3 hH3 => ?_)
  refine lv_icmp_eq hx hb zl_416 (tgt := 1063) (by decide) (fun _ => ?_) (fun hz => absurd rfl hz)
  exact tail ad3 D3 H3 locs3 ls hH3 hJ3 hl
set_option maxHeartbeats 1000000 in
theorem arm_7 (hX : LX p s m c b L xs G ad0) (hH : LH s G ad0 ad D H locs) (hJ : J D V) (hV : V ≤ 18000) (hi : i + 4 ≤ L) (hl : lv_has ls 8 (lwv b i ad0))
    (tail : ∀ (ad3 : Nat → Nat) (D3 : Mm) (H3 : Heap) (locs3 : List Loc) (ls3 : Array Slot), LH s G ad0 ad3 D3 H3 locs3 → J D3 (V + 30) → lv_has ls3 8 (lwv b i ad0) → W p l e room_1 s m #[Value.ref b] below meth c H3 locs3 (151 + pot D3) (3562 + 2 * pot D3) Q (F0 m 1063 ls3 [])) :
    W p l e room_1 s m #[Value.ref b] below meth c H locs (151 + pot D) (3562 + 2 * pot D) Q (F0 m 421 ls []) := by
  obtain ⟨a, D2, D3, p1, p2, hC, hM, hJ3⟩ := stp_split (stp_part (d := 2) (a := xs (i + 1)) hV) hJ
  have hx := hX.1
  have hb := hX.2.1
  have h6 := J_pot hJ3
  refine lv_aload_n hx hb zl_421 rfl (lv_at hl 1 rfl) ?_
  refine push_arg (j := 1) hX hH.2.2.2 hl (by omega) rfl zl_422 zl_423 zl_424 zl_425 zl_426 ?_
  refine law_callK (k := 61) (o := 0) (As := [.int (xs (i + 1))]) (rest := []) hX hH hC (by decide) rfl (fun _ => rfl) (Or.inl rfl) wl_61 ws_61 rfl rfl hl.1 zl_427 (Nat.le_of_ble_eq_true rfl) p1 (by omega) (fun ad2 H2 locs2 hH2 => ?_)
  refine lv_aload_n hx hb zl_430 rfl (lv_at hl 2 rfl) ?_
  refine push_arg (j := 1) hX hH2.2.2.2 hl (by omega) rfl zl_431 zl_432 zl_433 zl_434 zl_435 ?_
  refine law_callK (k := 144) (o := 171) (As := [.int (xs (i + 1))]) (rest := [.int a]) hX hH2 hM (by decide) rfl (fun _ => rfl) (Or.inr rfl) wl_144 ws_144 rfl rfl hl.1 zl_436 (Nat.le_of_ble_eq_true rfl) p2 h6 (fun ad3 H3 locs3 hH3 => ?_)
  refine lv_icmp_eq hx hb zl_439 (tgt := 1063) (by decide) (fun _ => ?_) (fun hz => absurd rfl hz)
  exact tail ad3 D3 H3 locs3 ls hH3 hJ3 hl
set_option maxHeartbeats 1000000 in
theorem arm_8 (hX : LX p s m c b L xs G ad0) (hH : LH s G ad0 ad D H locs) (hJ : J D V) (hV : V ≤ 18000) (hi : i + 4 ≤ L) (hl : lv_has ls 8 (lwv b i ad0))
    (tail : ∀ (ad3 : Nat → Nat) (D3 : Mm) (H3 : Heap) (locs3 : List Loc) (ls3 : Array Slot), LH s G ad0 ad3 D3 H3 locs3 → J D3 (V + 30) → lv_has ls3 8 (lwv b i ad0) → W p l e room_1 s m #[Value.ref b] below meth c H3 locs3 (151 + pot D3) (3562 + 2 * pot D3) Q (F0 m 1063 ls3 [])) :
    W p l e room_1 s m #[Value.ref b] below meth c H locs (151 + pot D) (3562 + 2 * pot D) Q (F0 m 444 ls []) := by
  obtain ⟨a, D2, D3, p1, p2, hC, hM, hJ3⟩ := stp_split (stp_partA (d := 2) (a := xs (i + 1)) hV) hJ
  have hx := hX.1
  have hb := hX.2.1
  have h6 := J_pot hJ3
  refine lv_aload_n hx hb zl_444 rfl (lv_at hl 1 rfl) ?_
  refine push_arg (j := 1) hX hH.2.2.2 hl (by omega) rfl zl_445 zl_446 zl_447 zl_448 zl_449 ?_
  refine law_callK (k := 62) (o := 0) (As := [.int (xs (i + 1))]) (rest := []) hX hH hC (by decide) rfl (fun _ => rfl) (Or.inl rfl) wl_62 ws_62 rfl rfl hl.1 zl_450 (Nat.le_of_ble_eq_true rfl) p1 (by omega) (fun ad2 H2 locs2 hH2 => ?_)
  refine lv_aload_n hx hb zl_453 rfl (lv_at hl 2 rfl) ?_
  refine push_arg (j := 1) hX hH2.2.2.2 hl (by omega) rfl zl_454 zl_455 zl_456 zl_457 zl_458 ?_
  refine law_callK (k := 145) (o := 171) (As := [.int (xs (i + 1))]) (rest := [.int a]) hX hH2 hM (by decide) rfl (fun _ => rfl) (Or.inr rfl) wl_145 ws_145 rfl rfl hl.1 zl_459 (Nat.le_of_ble_eq_true rfl) p2 h6 (fun ad3 H3 locs3 hH3 => ?_)
  refine lv_icmp_eq hx hb zl_462 (tgt := 1063) (by decide) (fun _ => ?_) (fun hz => absurd rfl hz)
  exact tail ad3 D3 H3 locs3 ls hH3 hJ3 hl
set_option maxHeartbeats 1000000 in
theorem arm_9 (hX : LX p s m c b L xs G ad0) (hH : LH s G ad0 ad D H locs) (hJ : J D V) (hV : V ≤ 18000) (hi : i + 4 ≤ L) (hl : lv_has ls 8 (lwv b i ad0))
    (tail : ∀ (ad3 : Nat → Nat) (D3 : Mm) (H3 : Heap) (locs3 : List Loc) (ls3 : Array Slot), LH s G ad0 ad3 D3 H3 locs3 → J D3 (V + 30) → lv_has ls3 8 (lwv b i ad0) → W p l e room_1 s m #[Value.ref b] below meth c H3 locs3 (151 + pot D3) (3562 + 2 * pot D3) Q (F0 m 1063 ls3 [])) :
    W p l e room_1 s m #[Value.ref b] below meth c H locs (151 + pot D) (3562 + 2 * pot D) Q (F0 m 467 ls []) := by
  obtain ⟨a, D2, D3, p1, p2, hC, hM, hJ3⟩ := stp_split (stp_M (d := 2) (a := xs (i + 1)) (b := xs (i + 2)) (x := xs (i + 3)) hV) hJ
  have hx := hX.1
  have hb := hX.2.1
  have h6 := J_pot hJ3
  refine lv_aload_n hx hb zl_467 rfl (lv_at hl 1 rfl) ?_
  refine push_arg (j := 1) hX hH.2.2.2 hl (by omega) rfl zl_468 zl_469 zl_470 zl_471 zl_472 ?_
  refine push_arg (j := 2) hX hH.2.2.2 hl (by omega) rfl zl_473 zl_474 zl_475 zl_476 zl_477 ?_
  refine push_arg (j := 3) hX hH.2.2.2 hl (by omega) rfl zl_478 zl_479 zl_480 zl_481 zl_482 ?_
  refine law_callK (k := 63) (o := 0) (As := [.int (xs (i + 1)), .int (xs (i + 2)), .int (xs (i + 3))]) (rest := []) hX hH hC (by decide) rfl (fun _ => rfl) (Or.inl rfl) wl_63 ws_63 rfl rfl hl.1 zl_483 (Nat.le_of_ble_eq_true rfl) p1 (by omega) (fun ad2 H2 locs2 hH2 => ?_)
  refine lv_aload_n hx hb zl_486 rfl (lv_at hl 2 rfl) ?_
  refine push_arg (j := 1) hX hH2.2.2.2 hl (by omega) rfl zl_487 zl_488 zl_489 zl_490 zl_491 ?_
  refine push_arg (j := 2) hX hH2.2.2.2 hl (by omega) rfl zl_492 zl_493 zl_494 zl_495 zl_496 ?_
  refine push_arg (j := 3) hX hH2.2.2.2 hl (by omega) rfl zl_497 zl_498 zl_499 zl_500 zl_501 ?_
  refine law_callK (k := 147) (o := 171) (As := [.int (xs (i + 1)), .int (xs (i + 2)), .int (xs (i + 3))]) (rest := [.int a]) hX hH2 hM (by decide) rfl (fun _ => rfl) (Or.inr rfl) wl_147 ws_147 rfl rfl hl.1 zl_502 (Nat.le_of_ble_eq_true rfl) p2 h6 (fun ad3 H3 locs3 hH3 => ?_)
  refine lv_icmp_eq hx hb zl_505 (tgt := 1063) (by decide) (fun _ => ?_) (fun hz => absurd rfl hz)
  exact tail ad3 D3 H3 locs3 ls hH3 hJ3 hl
set_option maxHeartbeats 1000000 in
theorem arm_10 (hX : LX p s m c b L xs G ad0) (hH : LH s G ad0 ad D H locs) (hJ : J D V) (hV : V ≤ 18000) (hi : i + 4 ≤ L) (hl : lv_has ls 8 (lwv b i ad0))
    (tail : ∀ (ad3 : Nat → Nat) (D3 : Mm) (H3 : Heap) (locs3 : List Loc) (ls3 : Array Slot), LH s G ad0 ad3 D3 H3 locs3 → J D3 (V + 30) → lv_has ls3 8 (lwv b i ad0) → W p l e room_1 s m #[Value.ref b] below meth c H3 locs3 (151 + pot D3) (3562 + 2 * pot D3) Q (F0 m 1063 ls3 [])) :
    W p l e room_1 s m #[Value.ref b] below meth c H locs (151 + pot D) (3562 + 2 * pot D) Q (F0 m 510 ls []) := by
  obtain ⟨a, D2, D3, p1, p2, hC, hM, hJ3⟩ := stp_split (stp_H (d := 2) (a := xs (i + 1)) (b := xs (i + 2)) hV) hJ
  have hx := hX.1
  have hb := hX.2.1
  have h6 := J_pot hJ3
  refine lv_aload_n hx hb zl_510 rfl (lv_at hl 1 rfl) ?_
  refine push_arg (j := 1) hX hH.2.2.2 hl (by omega) rfl zl_511 zl_512 zl_513 zl_514 zl_515 ?_
  refine push_arg (j := 2) hX hH.2.2.2 hl (by omega) rfl zl_516 zl_517 zl_518 zl_519 zl_520 ?_
  refine law_callK (k := 64) (o := 0) (As := [.int (xs (i + 1)), .int (xs (i + 2))]) (rest := []) hX hH hC (by decide) rfl (fun _ => rfl) (Or.inl rfl) wl_64 ws_64 rfl rfl hl.1 zl_521 (Nat.le_of_ble_eq_true rfl) p1 (by omega) (fun ad2 H2 locs2 hH2 => ?_)
  refine lv_aload_n hx hb zl_524 rfl (lv_at hl 2 rfl) ?_
  refine push_arg (j := 1) hX hH2.2.2.2 hl (by omega) rfl zl_525 zl_526 zl_527 zl_528 zl_529 ?_
  refine push_arg (j := 2) hX hH2.2.2.2 hl (by omega) rfl zl_530 zl_531 zl_532 zl_533 zl_534 ?_
  refine law_callK (k := 149) (o := 171) (As := [.int (xs (i + 1)), .int (xs (i + 2))]) (rest := [.int a]) hX hH2 hM (by decide) rfl (fun _ => rfl) (Or.inr rfl) wl_149 ws_149 rfl rfl hl.1 zl_535 (Nat.le_of_ble_eq_true rfl) p2 h6 (fun ad3 H3 locs3 hH3 => ?_)
  refine lv_icmp_eq hx hb zl_538 (tgt := 1063) (by decide) (fun _ => ?_) (fun hz => absurd rfl hz)
  exact tail ad3 D3 H3 locs3 ls hH3 hJ3 hl
set_option maxHeartbeats 1000000 in
theorem arm_11 (hX : LX p s m c b L xs G ad0) (hH : LH s G ad0 ad D H locs) (hJ : J D V) (hV : V ≤ 18000) (hi : i + 4 ≤ L) (hl : lv_has ls 8 (lwv b i ad0))
    (tail : ∀ (ad3 : Nat → Nat) (D3 : Mm) (H3 : Heap) (locs3 : List Loc) (ls3 : Array Slot), LH s G ad0 ad3 D3 H3 locs3 → J D3 (V + 30) → lv_has ls3 8 (lwv b i ad0) → W p l e room_1 s m #[Value.ref b] below meth c H3 locs3 (151 + pot D3) (3562 + 2 * pot D3) Q (F0 m 1063 ls3 [])) :
    W p l e room_1 s m #[Value.ref b] below meth c H locs (151 + pot D) (3562 + 2 * pot D) Q (F0 m 543 ls []) := by
  obtain ⟨a, D2, D3, p1, p2, hC, hM, hJ3⟩ := stp_split (stp_E (d := 2) (a := xs (i + 1)) hV) hJ
  have hx := hX.1
  have hb := hX.2.1
  have h6 := J_pot hJ3
  refine lv_aload_n hx hb zl_543 rfl (lv_at hl 1 rfl) ?_
  refine push_arg (j := 1) hX hH.2.2.2 hl (by omega) rfl zl_544 zl_545 zl_546 zl_547 zl_548 ?_
  refine law_callK (k := 65) (o := 0) (As := [.int (xs (i + 1))]) (rest := []) hX hH hC (by decide) rfl (fun _ => rfl) (Or.inl rfl) wl_65 ws_65 rfl rfl hl.1 zl_549 (Nat.le_of_ble_eq_true rfl) p1 (by omega) (fun ad2 H2 locs2 hH2 => ?_)
  refine lv_aload_n hx hb zl_552 rfl (lv_at hl 2 rfl) ?_
  refine push_arg (j := 1) hX hH2.2.2.2 hl (by omega) rfl zl_553 zl_554 zl_555 zl_556 zl_557 ?_
  refine law_callK (k := 154) (o := 171) (As := [.int (xs (i + 1))]) (rest := [.int a]) hX hH2 hM (by decide) rfl (fun _ => rfl) (Or.inr rfl) wl_154 ws_154 rfl rfl hl.1 zl_558 (Nat.le_of_ble_eq_true rfl) p2 h6 (fun ad3 H3 locs3 hH3 => ?_)
  refine lv_icmp_eq hx hb zl_561 (tgt := 1063) (by decide) (fun _ => ?_) (fun hz => absurd rfl hz)
  exact tail ad3 D3 H3 locs3 ls hH3 hJ3 hl
set_option maxHeartbeats 1000000 in
theorem arm_12 (hX : LX p s m c b L xs G ad0) (hH : LH s G ad0 ad D H locs) (hJ : J D V) (hV : V ≤ 18000) (hi : i + 4 ≤ L) (hl : lv_has ls 8 (lwv b i ad0))
    (tail : ∀ (ad3 : Nat → Nat) (D3 : Mm) (H3 : Heap) (locs3 : List Loc) (ls3 : Array Slot), LH s G ad0 ad3 D3 H3 locs3 → J D3 (V + 30) → lv_has ls3 8 (lwv b i ad0) → W p l e room_1 s m #[Value.ref b] below meth c H3 locs3 (151 + pot D3) (3562 + 2 * pot D3) Q (F0 m 1063 ls3 [])) :
    W p l e room_1 s m #[Value.ref b] below meth c H locs (151 + pot D) (3562 + 2 * pot D) Q (F0 m 566 ls []) := by
  obtain ⟨a, D2, D3, p1, p2, hC, hM, hJ3⟩ := stp_split (stp_T (d := 2) (a := xs (i + 1)) hV) hJ
  have hx := hX.1
  have hb := hX.2.1
  have h6 := J_pot hJ3
  refine lv_aload_n hx hb zl_566 rfl (lv_at hl 1 rfl) ?_
  refine push_arg (j := 1) hX hH.2.2.2 hl (by omega) rfl zl_567 zl_568 zl_569 zl_570 zl_571 ?_
  refine law_callK (k := 66) (o := 0) (As := [.int (xs (i + 1))]) (rest := []) hX hH hC (by decide) rfl (fun _ => rfl) (Or.inl rfl) wl_66 ws_66 rfl rfl hl.1 zl_572 (Nat.le_of_ble_eq_true rfl) p1 (by omega) (fun ad2 H2 locs2 hH2 => ?_)
  refine lv_aload_n hx hb zl_575 rfl (lv_at hl 2 rfl) ?_
  refine push_arg (j := 1) hX hH2.2.2.2 hl (by omega) rfl zl_576 zl_577 zl_578 zl_579 zl_580 ?_
  refine law_callK (k := 156) (o := 171) (As := [.int (xs (i + 1))]) (rest := [.int a]) hX hH2 hM (by decide) rfl (fun _ => rfl) (Or.inr rfl) wl_156 ws_156 rfl rfl hl.1 zl_581 (Nat.le_of_ble_eq_true rfl) p2 h6 (fun ad3 H3 locs3 hH3 => ?_)
  refine lv_icmp_eq hx hb zl_584 (tgt := 1063) (by decide) (fun _ => ?_) (fun hz => absurd rfl hz)
  exact tail ad3 D3 H3 locs3 ls hH3 hJ3 hl
set_option maxHeartbeats 1000000 in
theorem arm_13 (hX : LX p s m c b L xs G ad0) (hH : LH s G ad0 ad D H locs) (hJ : J D V) (hV : V ≤ 18000) (hi : i + 4 ≤ L) (hl : lv_has ls 8 (lwv b i ad0))
    (tail : ∀ (ad3 : Nat → Nat) (D3 : Mm) (H3 : Heap) (locs3 : List Loc) (ls3 : Array Slot), LH s G ad0 ad3 D3 H3 locs3 → J D3 (V + 30) → lv_has ls3 8 (lwv b i ad0) → W p l e room_1 s m #[Value.ref b] below meth c H3 locs3 (151 + pot D3) (3562 + 2 * pot D3) Q (F0 m 1063 ls3 [])) :
    W p l e room_1 s m #[Value.ref b] below meth c H locs (151 + pot D) (3562 + 2 * pot D) Q (F0 m 589 ls []) := by
  obtain ⟨a, D2, D3, p1, p2, hC, hM, hJ3⟩ := stp_split (stp_houseOf (d := 2) (a := xs (i + 1)) (w := xs (i + 2)) hV) hJ
  have hx := hX.1
  have hb := hX.2.1
  have h6 := J_pot hJ3
  refine lv_aload_n hx hb zl_589 rfl (lv_at hl 1 rfl) ?_
  refine push_arg (j := 1) hX hH.2.2.2 hl (by omega) rfl zl_590 zl_591 zl_592 zl_593 zl_594 ?_
  refine push_arg (j := 2) hX hH.2.2.2 hl (by omega) rfl zl_595 zl_596 zl_597 zl_598 zl_599 ?_
  refine law_callK (k := 67) (o := 0) (As := [.int (xs (i + 1)), .int (xs (i + 2))]) (rest := []) hX hH hC (by decide) rfl (fun _ => rfl) (Or.inl rfl) wl_67 ws_67 rfl rfl hl.1 zl_600 (Nat.le_of_ble_eq_true rfl) p1 (by omega) (fun ad2 H2 locs2 hH2 => ?_)
  refine lv_aload_n hx hb zl_603 rfl (lv_at hl 2 rfl) ?_
  refine push_arg (j := 1) hX hH2.2.2.2 hl (by omega) rfl zl_604 zl_605 zl_606 zl_607 zl_608 ?_
  refine push_arg (j := 2) hX hH2.2.2.2 hl (by omega) rfl zl_609 zl_610 zl_611 zl_612 zl_613 ?_
  refine law_callK (k := 158) (o := 171) (As := [.int (xs (i + 1)), .int (xs (i + 2))]) (rest := [.int a]) hX hH2 hM (by decide) rfl (fun _ => rfl) (Or.inr rfl) wl_158 ws_158 rfl rfl hl.1 zl_614 (Nat.le_of_ble_eq_true rfl) p2 h6 (fun ad3 H3 locs3 hH3 => ?_)
  refine lv_icmp_eq hx hb zl_617 (tgt := 1063) (by decide) (fun _ => ?_) (fun hz => absurd rfl hz)
  exact tail ad3 D3 H3 locs3 ls hH3 hJ3 hl
set_option maxHeartbeats 1000000 in
theorem arm_14 (hX : LX p s m c b L xs G ad0) (hH : LH s G ad0 ad D H locs) (hJ : J D V) (hV : V ≤ 18000) (hi : i + 4 ≤ L) (hl : lv_has ls 8 (lwv b i ad0))
    (tail : ∀ (ad3 : Nat → Nat) (D3 : Mm) (H3 : Heap) (locs3 : List Loc) (ls3 : Array Slot), LH s G ad0 ad3 D3 H3 locs3 → J D3 (V + 30) → lv_has ls3 8 (lwv b i ad0) → W p l e room_1 s m #[Value.ref b] below meth c H3 locs3 (151 + pot D3) (3562 + 2 * pot D3) Q (F0 m 1063 ls3 [])) :
    W p l e room_1 s m #[Value.ref b] below meth c H locs (151 + pot D) (3562 + 2 * pot D) Q (F0 m 622 ls []) := by
  obtain ⟨a, D2, D3, p1, p2, hC, hM, hJ3⟩ := stp_split (stp_inherits (d := 2) (a := xs (i + 1)) hV) hJ
  have hx := hX.1
  have hb := hX.2.1
  have h6 := J_pot hJ3
  refine lv_aload_n hx hb zl_622 rfl (lv_at hl 1 rfl) ?_
  refine push_arg (j := 1) hX hH.2.2.2 hl (by omega) rfl zl_623 zl_624 zl_625 zl_626 zl_627 ?_
  refine law_callK (k := 68) (o := 0) (As := [.int (xs (i + 1))]) (rest := []) hX hH hC (by decide) rfl (fun _ => rfl) (Or.inl rfl) wl_68 ws_68 rfl rfl hl.1 zl_628 (Nat.le_of_ble_eq_true rfl) p1 (by omega) (fun ad2 H2 locs2 hH2 => ?_)
  refine lv_aload_n hx hb zl_631 rfl (lv_at hl 2 rfl) ?_
  refine push_arg (j := 1) hX hH2.2.2.2 hl (by omega) rfl zl_632 zl_633 zl_634 zl_635 zl_636 ?_
  refine law_callK (k := 159) (o := 171) (As := [.int (xs (i + 1))]) (rest := [.int a]) hX hH2 hM (by decide) rfl (fun _ => rfl) (Or.inr rfl) wl_159 ws_159 rfl rfl hl.1 zl_637 (Nat.le_of_ble_eq_true rfl) p2 h6 (fun ad3 H3 locs3 hH3 => ?_)
  refine lv_icmp_eq hx hb zl_640 (tgt := 1063) (by decide) (fun _ => ?_) (fun hz => absurd rfl hz)
  exact tail ad3 D3 H3 locs3 ls hH3 hJ3 hl
set_option maxHeartbeats 1000000 in
theorem arm_15 (hX : LX p s m c b L xs G ad0) (hH : LH s G ad0 ad D H locs) (hJ : J D V) (hV : V ≤ 18000) (hi : i + 4 ≤ L) (hl : lv_has ls 8 (lwv b i ad0))
    (tail : ∀ (ad3 : Nat → Nat) (D3 : Mm) (H3 : Heap) (locs3 : List Loc) (ls3 : Array Slot), LH s G ad0 ad3 D3 H3 locs3 → J D3 (V + 30) → lv_has ls3 8 (lwv b i ad0) → W p l e room_1 s m #[Value.ref b] below meth c H3 locs3 (151 + pot D3) (3562 + 2 * pot D3) Q (F0 m 1063 ls3 [])) :
    W p l e room_1 s m #[Value.ref b] below meth c H locs (151 + pot D) (3562 + 2 * pot D) Q (F0 m 645 ls []) := by
  obtain ⟨a, D2, D3, p1, p2, hC, hM, hJ3⟩ := stp_split (stp_melt (d := 2) (a := xs (i + 1)) hV) hJ
  have hx := hX.1
  have hb := hX.2.1
  have h6 := J_pot hJ3
  refine lv_aload_n hx hb zl_645 rfl (lv_at hl 1 rfl) ?_
  refine push_arg (j := 1) hX hH.2.2.2 hl (by omega) rfl zl_646 zl_647 zl_648 zl_649 zl_650 ?_
  refine law_callK (k := 69) (o := 0) (As := [.int (xs (i + 1))]) (rest := []) hX hH hC (by decide) rfl (fun _ => rfl) (Or.inl rfl) wl_69 ws_69 rfl rfl hl.1 zl_651 (Nat.le_of_ble_eq_true rfl) p1 (by omega) (fun ad2 H2 locs2 hH2 => ?_)
  refine lv_aload_n hx hb zl_654 rfl (lv_at hl 2 rfl) ?_
  refine push_arg (j := 1) hX hH2.2.2.2 hl (by omega) rfl zl_655 zl_656 zl_657 zl_658 zl_659 ?_
  refine law_callK (k := 160) (o := 171) (As := [.int (xs (i + 1))]) (rest := [.int a]) hX hH2 hM (by decide) rfl (fun _ => rfl) (Or.inr rfl) wl_160 ws_160 rfl rfl hl.1 zl_660 (Nat.le_of_ble_eq_true rfl) p2 h6 (fun ad3 H3 locs3 hH3 => ?_)
  refine lv_icmp_eq hx hb zl_663 (tgt := 1063) (by decide) (fun _ => ?_) (fun hz => absurd rfl hz)
  exact tail ad3 D3 H3 locs3 ls hH3 hJ3 hl
set_option maxHeartbeats 1000000 in
theorem arm_16 (hX : LX p s m c b L xs G ad0) (hH : LH s G ad0 ad D H locs) (hJ : J D V) (hV : V ≤ 18000) (hi : i + 4 ≤ L) (hl : lv_has ls 8 (lwv b i ad0))
    (tail : ∀ (ad3 : Nat → Nat) (D3 : Mm) (H3 : Heap) (locs3 : List Loc) (ls3 : Array Slot), LH s G ad0 ad3 D3 H3 locs3 → J D3 (V + 30) → lv_has ls3 8 (lwv b i ad0) → W p l e room_1 s m #[Value.ref b] below meth c H3 locs3 (151 + pot D3) (3562 + 2 * pot D3) Q (F0 m 1063 ls3 [])) :
    W p l e room_1 s m #[Value.ref b] below meth c H locs (151 + pot D) (3562 + 2 * pot D) Q (F0 m 668 ls []) := by
  obtain ⟨a, D2, D3, p1, p2, hC, hM, hJ3⟩ := stp_split (stp_weight (d := 2) (a := xs (i + 1)) hV) hJ
  have hx := hX.1
  have hb := hX.2.1
  have h6 := J_pot hJ3
  refine lv_aload_n hx hb zl_668 rfl (lv_at hl 1 rfl) ?_
  refine push_arg (j := 1) hX hH.2.2.2 hl (by omega) rfl zl_669 zl_670 zl_671 zl_672 zl_673 ?_
  refine law_callK (k := 70) (o := 0) (As := [.int (xs (i + 1))]) (rest := []) hX hH hC (by decide) rfl (fun _ => rfl) (Or.inl rfl) wl_70 ws_70 rfl rfl hl.1 zl_674 (Nat.le_of_ble_eq_true rfl) p1 (by omega) (fun ad2 H2 locs2 hH2 => ?_)
  refine lv_aload_n hx hb zl_677 rfl (lv_at hl 2 rfl) ?_
  refine push_arg (j := 1) hX hH2.2.2.2 hl (by omega) rfl zl_678 zl_679 zl_680 zl_681 zl_682 ?_
  refine law_callK (k := 161) (o := 171) (As := [.int (xs (i + 1))]) (rest := [.int a]) hX hH2 hM (by decide) rfl (fun _ => rfl) (Or.inr rfl) wl_161 ws_161 rfl rfl hl.1 zl_683 (Nat.le_of_ble_eq_true rfl) p2 h6 (fun ad3 H3 locs3 hH3 => ?_)
  refine lv_icmp_eq hx hb zl_686 (tgt := 1063) (by decide) (fun _ => ?_) (fun hz => absurd rfl hz)
  exact tail ad3 D3 H3 locs3 ls hH3 hJ3 hl
set_option maxHeartbeats 1000000 in
theorem arm_17 (hX : LX p s m c b L xs G ad0) (hH : LH s G ad0 ad D H locs) (hJ : J D V) (hV : V ≤ 18000) (hi : i + 4 ≤ L) (hl : lv_has ls 8 (lwv b i ad0))
    (tail : ∀ (ad3 : Nat → Nat) (D3 : Mm) (H3 : Heap) (locs3 : List Loc) (ls3 : Array Slot), LH s G ad0 ad3 D3 H3 locs3 → J D3 (V + 30) → lv_has ls3 8 (lwv b i ad0) → W p l e room_1 s m #[Value.ref b] below meth c H3 locs3 (151 + pot D3) (3562 + 2 * pot D3) Q (F0 m 1063 ls3 [])) :
    W p l e room_1 s m #[Value.ref b] below meth c H locs (151 + pot D) (3562 + 2 * pot D) Q (F0 m 691 ls []) := by
  obtain ⟨a, D2, D3, p1, p2, hC, hM, hJ3⟩ := stp_split (stp_weightA (d := 2) (a := xs (i + 1)) hV) hJ
  have hx := hX.1
  have hb := hX.2.1
  have h6 := J_pot hJ3
  refine lv_aload_n hx hb zl_691 rfl (lv_at hl 1 rfl) ?_
  refine push_arg (j := 1) hX hH.2.2.2 hl (by omega) rfl zl_692 zl_693 zl_694 zl_695 zl_696 ?_
  refine law_callK (k := 71) (o := 0) (As := [.int (xs (i + 1))]) (rest := []) hX hH hC (by decide) rfl (fun _ => rfl) (Or.inl rfl) wl_71 ws_71 rfl rfl hl.1 zl_697 (Nat.le_of_ble_eq_true rfl) p1 (by omega) (fun ad2 H2 locs2 hH2 => ?_)
  refine lv_aload_n hx hb zl_700 rfl (lv_at hl 2 rfl) ?_
  refine push_arg (j := 1) hX hH2.2.2.2 hl (by omega) rfl zl_701 zl_702 zl_703 zl_704 zl_705 ?_
  refine law_callK (k := 162) (o := 171) (As := [.int (xs (i + 1))]) (rest := [.int a]) hX hH2 hM (by decide) rfl (fun _ => rfl) (Or.inr rfl) wl_162 ws_162 rfl rfl hl.1 zl_706 (Nat.le_of_ble_eq_true rfl) p2 h6 (fun ad3 H3 locs3 hH3 => ?_)
  refine lv_icmp_eq hx hb zl_709 (tgt := 1063) (by decide) (fun _ => ?_) (fun hz => absurd rfl hz)
  exact tail ad3 D3 H3 locs3 ls hH3 hJ3 hl
set_option maxHeartbeats 1000000 in
theorem arm_18 (hX : LX p s m c b L xs G ad0) (hH : LH s G ad0 ad D H locs) (hJ : J D V) (hV : V ≤ 18000) (hi : i + 4 ≤ L) (hl : lv_has ls 8 (lwv b i ad0))
    (tail : ∀ (ad3 : Nat → Nat) (D3 : Mm) (H3 : Heap) (locs3 : List Loc) (ls3 : Array Slot), LH s G ad0 ad3 D3 H3 locs3 → J D3 (V + 30) → lv_has ls3 8 (lwv b i ad0) → W p l e room_1 s m #[Value.ref b] below meth c H3 locs3 (151 + pot D3) (3562 + 2 * pot D3) Q (F0 m 1063 ls3 [])) :
    W p l e room_1 s m #[Value.ref b] below meth c H locs (151 + pot D) (3562 + 2 * pot D) Q (F0 m 714 ls []) := by
  obtain ⟨a, D2, D3, p1, p2, hC, hM, hJ3⟩ := stp_split (stp_ranked (d := 2) (p := xs (i + 1)) hV) hJ
  have hx := hX.1
  have hb := hX.2.1
  have h6 := J_pot hJ3
  refine lv_aload_n hx hb zl_714 rfl (lv_at hl 1 rfl) ?_
  refine push_arg (j := 1) hX hH.2.2.2 hl (by omega) rfl zl_715 zl_716 zl_717 zl_718 zl_719 ?_
  refine law_callK (k := 72) (o := 0) (As := [.int (xs (i + 1))]) (rest := []) hX hH hC (by decide) rfl (fun _ => rfl) (Or.inl rfl) wl_72 ws_72 rfl rfl hl.1 zl_720 (Nat.le_of_ble_eq_true rfl) p1 (by omega) (fun ad2 H2 locs2 hH2 => ?_)
  refine lv_aload_n hx hb zl_723 rfl (lv_at hl 2 rfl) ?_
  refine push_arg (j := 1) hX hH2.2.2.2 hl (by omega) rfl zl_724 zl_725 zl_726 zl_727 zl_728 ?_
  refine law_callK (k := 163) (o := 171) (As := [.int (xs (i + 1))]) (rest := [.int a]) hX hH2 hM (by decide) rfl (fun _ => rfl) (Or.inr rfl) wl_163 ws_163 rfl rfl hl.1 zl_729 (Nat.le_of_ble_eq_true rfl) p2 h6 (fun ad3 H3 locs3 hH3 => ?_)
  refine lv_icmp_eq hx hb zl_732 (tgt := 1063) (by decide) (fun _ => ?_) (fun hz => absurd rfl hz)
  exact tail ad3 D3 H3 locs3 ls hH3 hJ3 hl
set_option maxHeartbeats 1000000 in
theorem arm_19 (hX : LX p s m c b L xs G ad0) (hH : LH s G ad0 ad D H locs) (hJ : J D V) (hV : V ≤ 18000) (hi : i + 4 ≤ L) (hl : lv_has ls 8 (lwv b i ad0))
    (tail : ∀ (ad3 : Nat → Nat) (D3 : Mm) (H3 : Heap) (locs3 : List Loc) (ls3 : Array Slot), LH s G ad0 ad3 D3 H3 locs3 → J D3 (V + 30) → lv_has ls3 8 (lwv b i ad0) → W p l e room_1 s m #[Value.ref b] below meth c H3 locs3 (151 + pot D3) (3562 + 2 * pot D3) Q (F0 m 1063 ls3 [])) :
    W p l e room_1 s m #[Value.ref b] below meth c H locs (151 + pot D) (3562 + 2 * pot D) Q (F0 m 737 ls []) := by
  obtain ⟨a, D2, D3, p1, p2, hC, hM, hJ3⟩ := stp_split (stp_brightest (d := 2) (p := xs (i + 1)) hV) hJ
  have hx := hX.1
  have hb := hX.2.1
  have h6 := J_pot hJ3
  refine lv_aload_n hx hb zl_737 rfl (lv_at hl 1 rfl) ?_
  refine push_arg (j := 1) hX hH.2.2.2 hl (by omega) rfl zl_738 zl_739 zl_740 zl_741 zl_742 ?_
  refine law_callK (k := 73) (o := 0) (As := [.int (xs (i + 1))]) (rest := []) hX hH hC (by decide) rfl (fun _ => rfl) (Or.inl rfl) wl_73 ws_73 rfl rfl hl.1 zl_743 (Nat.le_of_ble_eq_true rfl) p1 (by omega) (fun ad2 H2 locs2 hH2 => ?_)
  refine lv_aload_n hx hb zl_746 rfl (lv_at hl 2 rfl) ?_
  refine push_arg (j := 1) hX hH2.2.2.2 hl (by omega) rfl zl_747 zl_748 zl_749 zl_750 zl_751 ?_
  refine law_callK (k := 164) (o := 171) (As := [.int (xs (i + 1))]) (rest := [.int a]) hX hH2 hM (by decide) rfl (fun _ => rfl) (Or.inr rfl) wl_164 ws_164 rfl rfl hl.1 zl_752 (Nat.le_of_ble_eq_true rfl) p2 h6 (fun ad3 H3 locs3 hH3 => ?_)
  refine lv_icmp_eq hx hb zl_755 (tgt := 1063) (by decide) (fun _ => ?_) (fun hz => absurd rfl hz)
  exact tail ad3 D3 H3 locs3 ls hH3 hJ3 hl
set_option maxHeartbeats 1000000 in
theorem arm_20 (hX : LX p s m c b L xs G ad0) (hH : LH s G ad0 ad D H locs) (hJ : J D V) (hV : V ≤ 18000) (hi : i + 4 ≤ L) (hl : lv_has ls 8 (lwv b i ad0))
    (tail : ∀ (ad3 : Nat → Nat) (D3 : Mm) (H3 : Heap) (locs3 : List Loc) (ls3 : Array Slot), LH s G ad0 ad3 D3 H3 locs3 → J D3 (V + 30) → lv_has ls3 8 (lwv b i ad0) → W p l e room_1 s m #[Value.ref b] below meth c H3 locs3 (151 + pot D3) (3562 + 2 * pot D3) Q (F0 m 1063 ls3 [])) :
    W p l e room_1 s m #[Value.ref b] below meth c H locs (151 + pot D) (3562 + 2 * pot D) Q (F0 m 760 ls []) := by
  obtain ⟨a, D2, D3, p1, p2, hC, hM, hJ3⟩ := stp_split (stp_append (d := 2) (a := xs (i + 1)) hV) hJ
  have hx := hX.1
  have hb := hX.2.1
  have h6 := J_pot hJ3
  refine lv_aload_n hx hb zl_760 rfl (lv_at hl 1 rfl) ?_
  refine push_arg (j := 1) hX hH.2.2.2 hl (by omega) rfl zl_761 zl_762 zl_763 zl_764 zl_765 ?_
  refine law_callK (k := 74) (o := 0) (As := [.int (xs (i + 1))]) (rest := []) hX hH hC (by decide) rfl (fun _ => rfl) (Or.inl rfl) wl_74 ws_74 rfl rfl hl.1 zl_766 (Nat.le_of_ble_eq_true rfl) p1 (by omega) (fun ad2 H2 locs2 hH2 => ?_)
  refine lv_aload_n hx hb zl_769 rfl (lv_at hl 2 rfl) ?_
  refine push_arg (j := 1) hX hH2.2.2.2 hl (by omega) rfl zl_770 zl_771 zl_772 zl_773 zl_774 ?_
  refine law_callK (k := 167) (o := 171) (As := [.int (xs (i + 1))]) (rest := [.int a]) hX hH2 hM (by decide) rfl (fun _ => rfl) (Or.inr rfl) wl_167 ws_167 rfl rfl hl.1 zl_775 (Nat.le_of_ble_eq_true rfl) p2 h6 (fun ad3 H3 locs3 hH3 => ?_)
  refine lv_icmp_eq hx hb zl_778 (tgt := 1063) (by decide) (fun _ => ?_) (fun hz => absurd rfl hz)
  exact tail ad3 D3 H3 locs3 ls hH3 hJ3 hl
set_option maxHeartbeats 1000000 in
theorem arm_21 (hX : LX p s m c b L xs G ad0) (hH : LH s G ad0 ad D H locs) (hJ : J D V) (hV : V ≤ 18000) (hi : i + 4 ≤ L) (hl : lv_has ls 8 (lwv b i ad0))
    (tail : ∀ (ad3 : Nat → Nat) (D3 : Mm) (H3 : Heap) (locs3 : List Loc) (ls3 : Array Slot), LH s G ad0 ad3 D3 H3 locs3 → J D3 (V + 30) → lv_has ls3 8 (lwv b i ad0) → W p l e room_1 s m #[Value.ref b] below meth c H3 locs3 (151 + pot D3) (3562 + 2 * pot D3) Q (F0 m 1063 ls3 [])) :
    W p l e room_1 s m #[Value.ref b] below meth c H locs (151 + pot D) (3562 + 2 * pot D) Q (F0 m 783 ls []) := by
  obtain ⟨a, D2, D3, p1, p2, hC, hM, hJ3⟩ := stp_split (stp_run (d := 0) hV) hJ
  have hx := hX.1
  have hb := hX.2.1
  have h6 := J_pot hJ3
  refine lv_aload_n hx hb zl_783 rfl (lv_at hl 1 rfl) ?_
  refine law_callK (k := 75) (o := 0) (As := []) (rest := []) hX hH hC (by decide) rfl (fun _ => rfl) (Or.inl rfl) wl_75 ws_75 rfl rfl hl.1 zl_784 (Nat.le_of_ble_eq_true rfl) p1 (by omega) (fun ad2 H2 locs2 hH2 => ?_)
  refine lv_aload_n hx hb zl_787 rfl (lv_at hl 2 rfl) ?_
  refine law_callK (k := 177) (o := 171) (As := []) (rest := [.int a]) hX hH2 hM (by decide) rfl (fun _ => rfl) (Or.inr rfl) wl_177 ws_177 rfl rfl hl.1 zl_788 (Nat.le_of_ble_eq_true rfl) p2 h6 (fun ad3 H3 locs3 hH3 => ?_)
  refine lv_icmp_eq hx hb zl_791 (tgt := 1063) (by decide) (fun _ => ?_) (fun hz => absurd rfl hz)
  exact tail ad3 D3 H3 locs3 ls hH3 hJ3 hl
set_option maxHeartbeats 1000000 in
theorem arm_22 (hX : LX p s m c b L xs G ad0) (hH : LH s G ad0 ad D H locs) (hJ : J D V) (hV : V ≤ 18000) (hi : i + 4 ≤ L) (hl : lv_has ls 8 (lwv b i ad0))
    (tail : ∀ (ad3 : Nat → Nat) (D3 : Mm) (H3 : Heap) (locs3 : List Loc) (ls3 : Array Slot), LH s G ad0 ad3 D3 H3 locs3 → J D3 (V + 30) → lv_has ls3 8 (lwv b i ad0) → W p l e room_1 s m #[Value.ref b] below meth c H3 locs3 (151 + pot D3) (3562 + 2 * pot D3) Q (F0 m 1063 ls3 [])) :
    W p l e room_1 s m #[Value.ref b] below meth c H locs (151 + pot D) (3562 + 2 * pot D) Q (F0 m 796 ls []) := by
  obtain ⟨a, D2, D3, p1, p2, hC, hM, hJ3⟩ := stp_split (stp_tell (d := 2) (a := xs (i + 1)) hV) hJ
  have hx := hX.1
  have hb := hX.2.1
  have h6 := J_pot hJ3
  refine lv_aload_n hx hb zl_796 rfl (lv_at hl 1 rfl) ?_
  refine push_arg (j := 1) hX hH.2.2.2 hl (by omega) rfl zl_797 zl_798 zl_799 zl_800 zl_801 ?_
  refine law_callK (k := 76) (o := 0) (As := [.int (xs (i + 1))]) (rest := []) hX hH hC (by decide) rfl (fun _ => rfl) (Or.inl rfl) wl_76 ws_76 rfl rfl hl.1 zl_802 (Nat.le_of_ble_eq_true rfl) p1 (by omega) (fun ad2 H2 locs2 hH2 => ?_)
  refine lv_aload_n hx hb zl_805 rfl (lv_at hl 2 rfl) ?_
  refine push_arg (j := 1) hX hH2.2.2.2 hl (by omega) rfl zl_806 zl_807 zl_808 zl_809 zl_810 ?_
  refine law_callK (k := 178) (o := 171) (As := [.int (xs (i + 1))]) (rest := [.int a]) hX hH2 hM (by decide) rfl (fun _ => rfl) (Or.inr rfl) wl_178 ws_178 rfl rfl hl.1 zl_811 (Nat.le_of_ble_eq_true rfl) p2 h6 (fun ad3 H3 locs3 hH3 => ?_)
  refine lv_icmp_eq hx hb zl_814 (tgt := 1063) (by decide) (fun _ => ?_) (fun hz => absurd rfl hz)
  exact tail ad3 D3 H3 locs3 ls hH3 hJ3 hl
set_option maxHeartbeats 1000000 in
theorem arm_23 (hX : LX p s m c b L xs G ad0) (hH : LH s G ad0 ad D H locs) (hJ : J D V) (hV : V ≤ 18000) (hi : i + 4 ≤ L) (hl : lv_has ls 8 (lwv b i ad0))
    (tail : ∀ (ad3 : Nat → Nat) (D3 : Mm) (H3 : Heap) (locs3 : List Loc) (ls3 : Array Slot), LH s G ad0 ad3 D3 H3 locs3 → J D3 (V + 30) → lv_has ls3 8 (lwv b i ad0) → W p l e room_1 s m #[Value.ref b] below meth c H3 locs3 (151 + pot D3) (3562 + 2 * pot D3) Q (F0 m 1063 ls3 [])) :
    W p l e room_1 s m #[Value.ref b] below meth c H locs (151 + pot D) (3562 + 2 * pot D) Q (F0 m 819 ls []) := by
  obtain ⟨a, D2, D3, p1, p2, hC, hM, hJ3⟩ := stp_split (stp_tellH (d := 2) hV) hJ
  have hx := hX.1
  have hb := hX.2.1
  have h6 := J_pot hJ3
  refine lv_aload_n hx hb zl_819 rfl (lv_at hl 1 rfl) ?_
  refine law_callK (k := 77) (o := 0) (As := []) (rest := []) hX hH hC (by decide) rfl (fun _ => rfl) (Or.inl rfl) wl_77 ws_77 rfl rfl hl.1 zl_820 (Nat.le_of_ble_eq_true rfl) p1 (by omega) (fun ad2 H2 locs2 hH2 => ?_)
  refine lv_aload_n hx hb zl_823 rfl (lv_at hl 2 rfl) ?_
  refine law_callK (k := 179) (o := 171) (As := []) (rest := [.int a]) hX hH2 hM (by decide) rfl (fun _ => rfl) (Or.inr rfl) wl_179 ws_179 rfl rfl hl.1 zl_824 (Nat.le_of_ble_eq_true rfl) p2 h6 (fun ad3 H3 locs3 hH3 => ?_)
  refine lv_icmp_eq hx hb zl_827 (tgt := 1063) (by decide) (fun _ => ?_) (fun hz => absurd rfl hz)
  exact tail ad3 D3 H3 locs3 ls hH3 hJ3 hl
set_option maxHeartbeats 1000000 in
theorem arm_24 (hX : LX p s m c b L xs G ad0) (hH : LH s G ad0 ad D H locs) (hJ : J D V) (hV : V ≤ 18000) (hi : i + 4 ≤ L) (hl : lv_has ls 8 (lwv b i ad0))
    (tail : ∀ (ad3 : Nat → Nat) (D3 : Mm) (H3 : Heap) (locs3 : List Loc) (ls3 : Array Slot), LH s G ad0 ad3 D3 H3 locs3 → J D3 (V + 30) → lv_has ls3 8 (lwv b i ad0) → W p l e room_1 s m #[Value.ref b] below meth c H3 locs3 (151 + pot D3) (3562 + 2 * pot D3) Q (F0 m 1063 ls3 [])) :
    W p l e room_1 s m #[Value.ref b] below meth c H locs (151 + pot D) (3562 + 2 * pot D) Q (F0 m 832 ls []) := by
  obtain ⟨a, D2, D3, p1, p2, hC, hM, hJ3⟩ := stp_split (stp_char (d := 2) (a := xs (i + 1)) hV) hJ
  have hx := hX.1
  have hb := hX.2.1
  have h6 := J_pot hJ3
  refine lv_aload_n hx hb zl_832 rfl (lv_at hl 1 rfl) ?_
  refine push_arg (j := 1) hX hH.2.2.2 hl (by omega) rfl zl_833 zl_834 zl_835 zl_836 zl_837 ?_
  refine law_callK (k := 78) (o := 0) (As := [.int (xs (i + 1))]) (rest := []) hX hH hC (by decide) rfl (fun _ => rfl) (Or.inl rfl) wl_78 ws_78 rfl rfl hl.1 zl_838 (Nat.le_of_ble_eq_true rfl) p1 (by omega) (fun ad2 H2 locs2 hH2 => ?_)
  refine lv_aload_n hx hb zl_841 rfl (lv_at hl 2 rfl) ?_
  refine push_arg (j := 1) hX hH2.2.2.2 hl (by omega) rfl zl_842 zl_843 zl_844 zl_845 zl_846 ?_
  refine law_callK (k := 180) (o := 171) (As := [.int (xs (i + 1))]) (rest := [.int a]) hX hH2 hM (by decide) rfl (fun _ => rfl) (Or.inr rfl) wl_180 ws_180 rfl rfl hl.1 zl_847 (Nat.le_of_ble_eq_true rfl) p2 h6 (fun ad3 H3 locs3 hH3 => ?_)
  refine lv_icmp_eq hx hb zl_850 (tgt := 1063) (by decide) (fun _ => ?_) (fun hz => absurd rfl hz)
  exact tail ad3 D3 H3 locs3 ls hH3 hJ3 hl
set_option maxHeartbeats 1000000 in
theorem arm_25 (hX : LX p s m c b L xs G ad0) (hH : LH s G ad0 ad D H locs) (hJ : J D V) (hV : V ≤ 18000) (hi : i + 4 ≤ L) (hl : lv_has ls 8 (lwv b i ad0))
    (tail : ∀ (ad3 : Nat → Nat) (D3 : Mm) (H3 : Heap) (locs3 : List Loc) (ls3 : Array Slot), LH s G ad0 ad3 D3 H3 locs3 → J D3 (V + 30) → lv_has ls3 8 (lwv b i ad0) → W p l e room_1 s m #[Value.ref b] below meth c H3 locs3 (151 + pot D3) (3562 + 2 * pot D3) Q (F0 m 1063 ls3 [])) :
    W p l e room_1 s m #[Value.ref b] below meth c H locs (151 + pot D) (3562 + 2 * pot D) Q (F0 m 855 ls []) := by
  obtain ⟨a, D2, D3, p1, p2, hC, hM, hJ3⟩ := stp_split (stp_reason (d := 2) (a := xs (i + 1)) (z := (if xs (i + 2) = 0 then nI 0 else nI 1)) hV) hJ
  have hx := hX.1
  have hb := hX.2.1
  have h6 := J_pot hJ3
  refine lv_aload_n hx hb zl_855 rfl (lv_at hl 1 rfl) ?_
  refine push_arg (j := 1) hX hH.2.2.2 hl (by omega) rfl zl_856 zl_857 zl_858 zl_859 zl_860 ?_
  refine push_arg (j := 2) hX hH.2.2.2 hl (by omega) rfl zl_861 zl_862 zl_863 zl_864 zl_865 ?_
  refine push_bool hX zl_866 zl_869 zl_870 zl_873 ?_
  refine law_callK (k := 79) (o := 0) (As := [.int (xs (i + 1)), .int ((if xs (i + 2) = 0 then nI 0 else nI 1))]) (rest := []) hX hH hC (by decide) rfl (fun _ => rfl) (Or.inl rfl) wl_79 ws_79 rfl rfl hl.1 zl_874 (Nat.le_of_ble_eq_true rfl) p1 (by omega) (fun ad2 H2 locs2 hH2 => ?_)
  refine lv_aload_n hx hb zl_877 rfl (lv_at hl 2 rfl) ?_
  refine push_arg (j := 1) hX hH2.2.2.2 hl (by omega) rfl zl_878 zl_879 zl_880 zl_881 zl_882 ?_
  refine push_arg (j := 2) hX hH2.2.2.2 hl (by omega) rfl zl_883 zl_884 zl_885 zl_886 zl_887 ?_
  refine push_bool hX zl_888 zl_891 zl_892 zl_895 ?_
  refine law_callK (k := 181) (o := 171) (As := [.int (xs (i + 1)), .int ((if xs (i + 2) = 0 then nI 0 else nI 1))]) (rest := [.int a]) hX hH2 hM (by decide) rfl (fun _ => rfl) (Or.inr rfl) wl_181 ws_181 rfl rfl hl.1 zl_896 (Nat.le_of_ble_eq_true rfl) p2 h6 (fun ad3 H3 locs3 hH3 => ?_)
  refine lv_icmp_eq hx hb zl_899 (tgt := 1063) (by decide) (fun _ => ?_) (fun hz => absurd rfl hz)
  exact tail ad3 D3 H3 locs3 ls hH3 hJ3 hl
set_option maxHeartbeats 1000000 in
theorem arm_26 (hX : LX p s m c b L xs G ad0) (hH : LH s G ad0 ad D H locs) (hJ : J D V) (hV : V ≤ 18000) (hi : i + 4 ≤ L) (hl : lv_has ls 8 (lwv b i ad0))
    (tail : ∀ (ad3 : Nat → Nat) (D3 : Mm) (H3 : Heap) (locs3 : List Loc) (ls3 : Array Slot), LH s G ad0 ad3 D3 H3 locs3 → J D3 (V + 30) → lv_has ls3 8 (lwv b i ad0) → W p l e room_1 s m #[Value.ref b] below meth c H3 locs3 (151 + pot D3) (3562 + 2 * pot D3) Q (F0 m 1063 ls3 [])) :
    W p l e room_1 s m #[Value.ref b] below meth c H locs (151 + pot D) (3562 + 2 * pot D) Q (F0 m 904 ls []) := by
  obtain ⟨a, D2, D3, p1, p2, hC, hM, hJ3⟩ := stp_split (stp_acc (d := 2) (w := xs (i + 1)) hV) hJ
  have hx := hX.1
  have hb := hX.2.1
  have h6 := J_pot hJ3
  refine lv_aload_n hx hb zl_904 rfl (lv_at hl 1 rfl) ?_
  refine push_arg (j := 1) hX hH.2.2.2 hl (by omega) rfl zl_905 zl_906 zl_907 zl_908 zl_909 ?_
  refine law_callK (k := 80) (o := 0) (As := [.int (xs (i + 1))]) (rest := []) hX hH hC (by decide) rfl (fun _ => rfl) (Or.inl rfl) wl_80 ws_80 rfl rfl hl.1 zl_910 (Nat.le_of_ble_eq_true rfl) p1 (by omega) (fun ad2 H2 locs2 hH2 => ?_)
  refine lv_aload_n hx hb zl_913 rfl (lv_at hl 2 rfl) ?_
  refine push_arg (j := 1) hX hH2.2.2.2 hl (by omega) rfl zl_914 zl_915 zl_916 zl_917 zl_918 ?_
  refine law_callK (k := 184) (o := 171) (As := [.int (xs (i + 1))]) (rest := [.int a]) hX hH2 hM (by decide) rfl (fun _ => rfl) (Or.inr rfl) wl_184 ws_184 rfl rfl hl.1 zl_919 (Nat.le_of_ble_eq_true rfl) p2 h6 (fun ad3 H3 locs3 hH3 => ?_)
  refine lv_icmp_eq hx hb zl_922 (tgt := 1063) (by decide) (fun _ => ?_) (fun hz => absurd rfl hz)
  exact tail ad3 D3 H3 locs3 ls hH3 hJ3 hl
set_option maxHeartbeats 1000000 in
theorem arm_27 (hX : LX p s m c b L xs G ad0) (hH : LH s G ad0 ad D H locs) (hJ : J D V) (hV : V ≤ 18000) (hi : i + 4 ≤ L) (hl : lv_has ls 8 (lwv b i ad0))
    (tail : ∀ (ad3 : Nat → Nat) (D3 : Mm) (H3 : Heap) (locs3 : List Loc) (ls3 : Array Slot), LH s G ad0 ad3 D3 H3 locs3 → J D3 (V + 30) → lv_has ls3 8 (lwv b i ad0) → W p l e room_1 s m #[Value.ref b] below meth c H3 locs3 (151 + pot D3) (3562 + 2 * pot D3) Q (F0 m 1063 ls3 [])) :
    W p l e room_1 s m #[Value.ref b] below meth c H locs (151 + pot D) (3562 + 2 * pot D) Q (F0 m 927 ls []) := by
  obtain ⟨a, D2, D3, p1, p2, hC, hM, hJ3⟩ := stp_split (stp_isBal (d := 2) hV) hJ
  have hx := hX.1
  have hb := hX.2.1
  have h6 := J_pot hJ3
  refine lv_aload_n hx hb zl_927 rfl (lv_at hl 1 rfl) ?_
  refine law_callK (k := 81) (o := 0) (As := []) (rest := []) hX hH hC (by decide) rfl (fun _ => rfl) (Or.inl rfl) wl_81 ws_81 rfl rfl hl.1 zl_928 (Nat.le_of_ble_eq_true rfl) p1 (by omega) (fun ad2 H2 locs2 hH2 => ?_)
  refine lv_aload_n hx hb zl_931 rfl (lv_at hl 2 rfl) ?_
  refine law_callK (k := 185) (o := 171) (As := []) (rest := [.int a]) hX hH2 hM (by decide) rfl (fun _ => rfl) (Or.inr rfl) wl_185 ws_185 rfl rfl hl.1 zl_932 (Nat.le_of_ble_eq_true rfl) p2 h6 (fun ad3 H3 locs3 hH3 => ?_)
  refine lv_icmp_eq hx hb zl_935 (tgt := 1063) (by decide) (fun _ => ?_) (fun hz => absurd rfl hz)
  exact tail ad3 D3 H3 locs3 ls hH3 hJ3 hl
set_option maxHeartbeats 1000000 in
theorem arm_30 (hX : LX p s m c b L xs G ad0) (hH : LH s G ad0 ad D H locs) (hJ : J D V) (hV : V ≤ 18000) (hi : i + 4 ≤ L) (hl : lv_has ls 8 (lwv b i ad0))
    (tail : ∀ (ad3 : Nat → Nat) (D3 : Mm) (H3 : Heap) (locs3 : List Loc) (ls3 : Array Slot), LH s G ad0 ad3 D3 H3 locs3 → J D3 (V + 30) → lv_has ls3 8 (lwv b i ad0) → W p l e room_1 s m #[Value.ref b] below meth c H3 locs3 (151 + pot D3) (3562 + 2 * pot D3) Q (F0 m 1063 ls3 [])) :
    W p l e room_1 s m #[Value.ref b] below meth c H locs (151 + pot D) (3562 + 2 * pot D) Q (F0 m 1024 ls []) := by
  obtain ⟨a, D2, D3, p1, p2, hC, hM, hJ3⟩ := stp_split (stp_undo (d := 2) hV) hJ
  have hx := hX.1
  have hb := hX.2.1
  have h6 := J_pot hJ3
  refine lv_aload_n hx hb zl_1024 rfl (lv_at hl 1 rfl) ?_
  refine law_callK (k := 82) (o := 0) (As := []) (rest := []) hX hH hC (by decide) rfl (fun _ => rfl) (Or.inl rfl) wl_82 ws_82 rfl rfl hl.1 zl_1025 (Nat.le_of_ble_eq_true rfl) p1 (by omega) (fun ad2 H2 locs2 hH2 => ?_)
  refine lv_aload_n hx hb zl_1028 rfl (lv_at hl 2 rfl) ?_
  refine law_callK (k := 186) (o := 171) (As := []) (rest := [.int a]) hX hH2 hM (by decide) rfl (fun _ => rfl) (Or.inr rfl) wl_186 ws_186 rfl rfl hl.1 zl_1029 (Nat.le_of_ble_eq_true rfl) p2 h6 (fun ad3 H3 locs3 hH3 => ?_)
  refine lv_icmp_eq hx hb zl_1032 (tgt := 1063) (by decide) (fun _ => ?_) (fun hz => absurd rfl hz)
  exact tail ad3 D3 H3 locs3 ls hH3 hJ3 hl
set_option maxHeartbeats 1000000 in
theorem arm_31 (hX : LX p s m c b L xs G ad0) (hH : LH s G ad0 ad D H locs) (hJ : J D V) (hV : V ≤ 18000) (hi : i + 4 ≤ L) (hl : lv_has ls 8 (lwv b i ad0))
    (tail : ∀ (ad3 : Nat → Nat) (D3 : Mm) (H3 : Heap) (locs3 : List Loc) (ls3 : Array Slot), LH s G ad0 ad3 D3 H3 locs3 → J D3 (V + 30) → lv_has ls3 8 (lwv b i ad0) → W p l e room_1 s m #[Value.ref b] below meth c H3 locs3 (151 + pot D3) (3562 + 2 * pot D3) Q (F0 m 1063 ls3 [])) :
    W p l e room_1 s m #[Value.ref b] below meth c H locs (151 + pot D) (3562 + 2 * pot D) Q (F0 m 1037 ls []) := by
  obtain ⟨a, D2, D3, p1, p2, hC, hM, hJ3⟩ := stp_split (stp_save (d := 2) hV) hJ
  have hx := hX.1
  have hb := hX.2.1
  have h6 := J_pot hJ3
  refine lv_aload_n hx hb zl_1037 rfl (lv_at hl 1 rfl) ?_
  refine law_callK (k := 83) (o := 0) (As := []) (rest := []) hX hH hC (by decide) rfl (fun _ => rfl) (Or.inl rfl) wl_83 ws_83 rfl rfl hl.1 zl_1038 (Nat.le_of_ble_eq_true rfl) p1 (by omega) (fun ad2 H2 locs2 hH2 => ?_)
  refine lv_aload_n hx hb zl_1041 rfl (lv_at hl 2 rfl) ?_
  refine law_callK (k := 187) (o := 171) (As := []) (rest := [.int a]) hX hH2 hM (by decide) rfl (fun _ => rfl) (Or.inr rfl) wl_187 ws_187 rfl rfl hl.1 zl_1042 (Nat.le_of_ble_eq_true rfl) p2 h6 (fun ad3 H3 locs3 hH3 => ?_)
  refine lv_icmp_eq hx hb zl_1045 (tgt := 1063) (by decide) (fun _ => ?_) (fun hz => absurd rfl hz)
  exact tail ad3 D3 H3 locs3 ls hH3 hJ3 hl
set_option maxHeartbeats 1000000 in
theorem arm_32 (hX : LX p s m c b L xs G ad0) (hH : LH s G ad0 ad D H locs) (hJ : J D V) (hV : V ≤ 18000) (hi : i + 4 ≤ L) (hl : lv_has ls 8 (lwv b i ad0))
    (tail : ∀ (ad3 : Nat → Nat) (D3 : Mm) (H3 : Heap) (locs3 : List Loc) (ls3 : Array Slot), LH s G ad0 ad3 D3 H3 locs3 → J D3 (V + 30) → lv_has ls3 8 (lwv b i ad0) → W p l e room_1 s m #[Value.ref b] below meth c H3 locs3 (151 + pot D3) (3562 + 2 * pot D3) Q (F0 m 1063 ls3 [])) :
    W p l e room_1 s m #[Value.ref b] below meth c H locs (151 + pot D) (3562 + 2 * pot D) Q (F0 m 1050 ls []) := by
  obtain ⟨a, D2, D3, p1, p2, hC, hM, hJ3⟩ := stp_split (stp_restore (d := 2) hV) hJ
  have hx := hX.1
  have hb := hX.2.1
  have h6 := J_pot hJ3
  refine lv_aload_n hx hb zl_1050 rfl (lv_at hl 1 rfl) ?_
  refine law_callK (k := 84) (o := 0) (As := []) (rest := []) hX hH hC (by decide) rfl (fun _ => rfl) (Or.inl rfl) wl_84 ws_84 rfl rfl hl.1 zl_1051 (Nat.le_of_ble_eq_true rfl) p1 (by omega) (fun ad2 H2 locs2 hH2 => ?_)
  refine lv_aload_n hx hb zl_1054 rfl (lv_at hl 2 rfl) ?_
  refine law_callK (k := 188) (o := 171) (As := []) (rest := [.int a]) hX hH2 hM (by decide) rfl (fun _ => rfl) (Or.inr rfl) wl_188 ws_188 rfl rfl hl.1 zl_1055 (Nat.le_of_ble_eq_true rfl) p2 h6 (fun ad3 H3 locs3 hH3 => ?_)
  refine lv_icmp_eq hx hb zl_1058 (tgt := 1063) (by decide) (fun _ => ?_) (fun hz => absurd rfl hz)
  exact tail ad3 D3 H3 locs3 ls hH3 hJ3 hl
end
