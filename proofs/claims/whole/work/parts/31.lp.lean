section LAW
/-! the law: the script's reads, its cases, its loop, its start -/
/-- the script: a row of L ints that nobody writes -/
def SD (b L : Nat) (xs : Nat → Int32) (X : XT) : Prop := va_X b L xs X.2.1.2.2.2.1 X.2.1.2.2.2.1.heap ∧ b < X.2.1.2.2.2.1.heap.size ∧ ¬ X.2.2.2.1 b
abbrev lvL (b : Nat) (ad : Nat → Nat) (i : Nat) : List (Nat × Value) := [(0, .ref b), (1, .ref (ad 0)), (2, .ref (ad 88)), (3, .int (iI ((i : Nat) : Int)))]
variable {X : XT} {G : va_G} {tc : Nat → ClassId} {l : Launch} {cc : ByteArray} {own : String} {Ts : List Cond} {nL : Nat} {R : Room} {ad : Nat → Nat} {N : Nat} {f : Nat → va_E} {k n pc : Nat} {lv : List (Nat × Value)} {st : List Value} {b L : Nat} {xs : Nat → Int32}
theorem r_sld (C : CC X G tc l cc own Ts nL R) (hB : SD b L xs X) (hL : L ≤ 2147483647) (j : Nat) {z : Int} (hz : z = (j : Int)) (hj : j < L) (hdg : decode cc pc = .ok (.iaload, 1)) (kk : VV X ad N f k n (pc + 1) lv (.int (iI (xs j).toInt) :: st)) : VV X ad N f k n pc lv (.int (iI z) :: .ref b :: st) := by
  intro H locs ls hP hD hS hl
  refine va_sld C.2.1.1 C.2.1.2.1 hB.1 hB.2.1 hB.2.2 hS (iI_vin hz hj hL) hdg ?_
  rw [iI_ix hz (by omega), iI_of (xs j)]
  exact kk H locs ls hP hD hS hl
theorem r_slen (C : CC X G tc l cc own Ts nL R) (hB : SD b L xs X) (hdg : decode cc pc = .ok (.arraylength, 1)) (kk : VV X ad N f k n (pc + 1) lv (.int (iI ((L : Nat) : Int)) :: st)) : VV X ad N f k n pc lv (.ref b :: st) := by
  intro H locs ls hP hD hS hl
  refine va_slen C.2.1.1 C.2.1.2.1 hB.1 hB.2.1 hB.2.2 hS hdg ?_
  rw [← Int32.ofInt_eq_ofNat]
  exact kk H locs ls hP hD hS hl
/-- an argument: a place of the script behind i -/
theorem r_arg (C : CC X G tc l cc own Ts nL R) (hB : SD b L xs X) (hL : L ≤ 2147483647) {i : Nat} (d : Nat) (hi : i + d < L) (hd : d < 100) (hg0 : lg lv 0 = some (.ref b)) (hg3 : lg lv 3 = some (.int (iI ((i : Nat) : Int))))
    (h0 : decode cc pc = .ok (.aload_n 0, 1)) (h1 : decode cc (pc + 1) = .ok (.iload_n 3, 1)) (h2 : decode cc (pc + 1 + 1) = .ok (.iconst ((d : Nat) : Int), 1)) (h3 : decode cc (pc + 1 + 1 + 1) = .ok (.iadd, 1)) (h4 : decode cc (pc + 1 + 1 + 1 + 1) = .ok (.iaload, 1))
    (kk : VV X ad N f k n (pc + 1 + 1 + 1 + 1 + 1) lv (.int (iI (xs (i + d)).toInt) :: st)) : VV X ad N f k n pc lv st := by
  refine r_aload_n C h0 rfl hg0 ?_
  refine r_iload_n C h1 rfl hg3 ?_
  refine r_iconst C ((d : Nat) : Int) rfl h2 ?_
  refine r_iadd C ((i + d : Nat) : Int) (by omega) h3 ?_
  exact r_sld C hB hL (i + d) rfl hi h4 kk
theorem r_same (C : CC X G tc l cc own Ts nL R) {x : Int32} {off : Int} {tgt : Nat} (hdg : decode cc pc = .ok (.if_icmp .eq off, 3)) (ht : (pc : Int) + off = (tgt : Int)) (kk : VV X ad N f k n tgt lv st) : VV X ad N f k n pc lv (.int x :: .int x :: st) :=
  fun H locs ls hP hD hS hl => lv_icmp_eq C.2.1.1 C.2.1.2.1 hdg ht (fun _ => kk H locs ls hP hD hS hl) (fun h => absurd rfl h)
theorem gz : ∀ {z : Int}, 0 ≤ z → z ≤ 22 → z = 0 ∨ z = 1 ∨ z = 2 ∨ z = 3 ∨ z = 4 ∨ z = 5 ∨ z = 6 ∨ z = 7 ∨ z = 8 ∨ z = 9 ∨ z = 10 ∨ z = 11 ∨ z = 12 ∨ z = 13 ∨ z = 14 ∨ z = 15 ∨ z = 16 ∨ z = 17 ∨ z = 18 ∨ z = 19 ∨ z = 20 ∨ z = 21 ∨ z = 22 := by
  intro z h1 h2
  omega
variable {i : Nat} {s : SG}

set_option maxHeartbeats 2000000 in
theorem kL_0 (C : CC X G tc l cL_law RL wsL_law 4 room_1) (hB : SD b L xs X) (hL : L ≤ 2048) (hi : i + 3 < L) (hX : XI tc ad f s) (hM : MI tc ad f s) (ho : okS s) (kk : ∀ f' s', XI tc ad f' s' → MI tc ad f' s' → okS s' → VV X ad 98 f' 98 14465 809 (lvL b ad i) []) : VV X ad 98 f 98 14465 140 (lvL b ad i) [] := by
  refine r_aload_n C dL_law_140 rfl rfl ?_
  refine r_arg C hB (by omega) 1 (by omega) (by decide) rfl rfl dL_law_141 dL_law_142 dL_law_143 dL_law_144 dL_law_145 ?_
  refine r_arg C hB (by omega) 2 (by omega) (by decide) rfl rfl dL_law_146 dL_law_147 dL_law_148 dL_law_149 dL_law_150 ?_
  refine r_callV (As := [.int (iI (xs (i + 1)).toInt), .int (iI (xs (i + 2)).toInt)]) (rest := []) (na := 2) (i := 0) C (c_X3_set G tc l ad 98 f s hX ho (by decide) ((xs (i + 1)).toInt) ((xs (i + 2)).toInt) (inR_toInt _) (inR_toInt _)) gL_law_X3_set rfl rfl rfl (by decide +kernel) ⟨Nat.le_of_ble_eq_true rfl, Nat.le_of_ble_eq_true rfl⟩ (by decide) hX.1 (show vwCl[3]? = some (RX3, TX3, 11) from rfl) rfl rfl (Nat.le_of_ble_eq_true rfl) dL_law_151 ⟨Nat.le_of_ble_eq_true rfl, Nat.le_of_ble_eq_true rfl⟩ (aft_I (fun f1 h1 => ?_))
  obtain ⟨hX1, q1⟩ := h1
  have hM1 : MI tc ad f1 s := hM.fr (fun q g1 g2 => q1 q g1)
  obtain ⟨x1, x2, x3, x4, h88⟩ := hM1.1
  refine r_aload_n C dL_law_154 rfl rfl ?_
  refine r_arg C hB (by omega) 1 (by omega) (by decide) rfl rfl dL_law_155 dL_law_156 dL_law_157 dL_law_158 dL_law_159 ?_
  refine r_arg C hB (by omega) 2 (by omega) (by decide) rfl rfl dL_law_160 dL_law_161 dL_law_162 dL_law_163 dL_law_164 ?_
  refine r_callV (As := [.int (iI (xs (i + 1)).toInt), .int (iI (xs (i + 2)).toInt)]) (rest := [.int (iI (aSet s ((xs (i + 1)).toInt) ((xs (i + 2)).toInt)))]) (na := 2) (i := 88) C (c_X4_set G tc l ad 98 f1 s hM1 ho (by decide) ((xs (i + 1)).toInt) ((xs (i + 2)).toInt) (inR_toInt _) (inR_toInt _)) gL_law_X4_set rfl rfl rfl (by decide +kernel) ⟨Nat.le_of_ble_eq_true rfl, Nat.le_of_ble_eq_true rfl⟩ (by decide) h88 (show vwCl[4]? = some (RX4, TX4, 15) from rfl) rfl rfl (Nat.le_of_ble_eq_true rfl) dL_law_165 ⟨Nat.le_of_ble_eq_true rfl, Nat.le_of_ble_eq_true rfl⟩ (aft_I (fun f2 h2 => ?_))
  obtain ⟨hM2, q2⟩ := h2
  refine r_same (tgt := 809) C dL_law_168 (by decide) ?_
  exact kk f2 _ (hX1.fr (fun q g => q2 q (Or.inl g))) hM2 (ok_set ho ((xs (i + 1)).toInt) ((xs (i + 2)).toInt))
set_option maxHeartbeats 2000000 in
theorem kL_1 (C : CC X G tc l cL_law RL wsL_law 4 room_1) (hB : SD b L xs X) (hL : L ≤ 2048) (hi : i + 3 < L) (hX : XI tc ad f s) (hM : MI tc ad f s) (ho : okS s) (kk : ∀ f' s', XI tc ad f' s' → MI tc ad f' s' → okS s' → VV X ad 98 f' 98 14465 809 (lvL b ad i) []) : VV X ad 98 f 98 14465 173 (lvL b ad i) [] := by
  refine r_aload_n C dL_law_173 rfl rfl ?_
  refine r_callV (As := []) (rest := []) (na := 0) (i := 0) C (c_X3_add G tc l ad 98 f s hX ho (by decide)  ) gL_law_X3_add rfl rfl rfl (by decide +kernel) ⟨Nat.le_of_ble_eq_true rfl, Nat.le_of_ble_eq_true rfl⟩ (by decide) hX.1 (show vwCl[3]? = some (RX3, TX3, 11) from rfl) rfl rfl (Nat.le_of_ble_eq_true rfl) dL_law_174 ⟨Nat.le_of_ble_eq_true rfl, Nat.le_of_ble_eq_true rfl⟩ (aft_I (fun f1 h1 => ?_))
  obtain ⟨hX1, q1⟩ := h1
  have hM1 : MI tc ad f1 s := hM.fr (fun q g1 g2 => q1 q g1)
  obtain ⟨x1, x2, x3, x4, h88⟩ := hM1.1
  refine r_aload_n C dL_law_177 rfl rfl ?_
  refine r_callV (As := []) (rest := [.int (iI (aAdd s))]) (na := 0) (i := 88) C (c_X4_add G tc l ad 98 f1 s hM1 ho (by decide)  ) gL_law_X4_add rfl rfl rfl (by decide +kernel) ⟨Nat.le_of_ble_eq_true rfl, Nat.le_of_ble_eq_true rfl⟩ (by decide) h88 (show vwCl[4]? = some (RX4, TX4, 15) from rfl) rfl rfl (Nat.le_of_ble_eq_true rfl) dL_law_178 ⟨Nat.le_of_ble_eq_true rfl, Nat.le_of_ble_eq_true rfl⟩ (aft_I (fun f2 h2 => ?_))
  obtain ⟨hM2, q2⟩ := h2
  refine r_same (tgt := 809) C dL_law_181 (by decide) ?_
  exact kk f2 _ (hX1.fr (fun q g => q2 q (Or.inl g))) hM2 (ok_add ho )
set_option maxHeartbeats 2000000 in
theorem kL_2 (C : CC X G tc l cL_law RL wsL_law 4 room_1) (hB : SD b L xs X) (hL : L ≤ 2048) (hi : i + 3 < L) (hX : XI tc ad f s) (hM : MI tc ad f s) (ho : okS s) (kk : ∀ f' s', XI tc ad f' s' → MI tc ad f' s' → okS s' → VV X ad 98 f' 98 14465 809 (lvL b ad i) []) : VV X ad 98 f 98 14465 186 (lvL b ad i) [] := by
  refine r_aload_n C dL_law_186 rfl rfl ?_
  refine r_arg C hB (by omega) 1 (by omega) (by decide) rfl rfl dL_law_187 dL_law_188 dL_law_189 dL_law_190 dL_law_191 ?_
  refine r_callV (As := [.int (iI (xs (i + 1)).toInt)]) (rest := []) (na := 1) (i := 0) C (c_X3_append G tc l ad 98 f s hX ho (by decide) ((xs (i + 1)).toInt) (inR_toInt _)) gL_law_X3_append rfl rfl rfl (by decide +kernel) ⟨Nat.le_of_ble_eq_true rfl, Nat.le_of_ble_eq_true rfl⟩ (by decide) hX.1 (show vwCl[3]? = some (RX3, TX3, 11) from rfl) rfl rfl (Nat.le_of_ble_eq_true rfl) dL_law_192 ⟨Nat.le_of_ble_eq_true rfl, Nat.le_of_ble_eq_true rfl⟩ (aft_I (fun f1 h1 => ?_))
  obtain ⟨hX1, q1⟩ := h1
  have hM1 : MI tc ad f1 s := hM.fr (fun q g1 g2 => q1 q g1)
  obtain ⟨x1, x2, x3, x4, h88⟩ := hM1.1
  refine r_aload_n C dL_law_195 rfl rfl ?_
  refine r_arg C hB (by omega) 1 (by omega) (by decide) rfl rfl dL_law_196 dL_law_197 dL_law_198 dL_law_199 dL_law_200 ?_
  refine r_callV (As := [.int (iI (xs (i + 1)).toInt)]) (rest := [.int (iI (aApp s ((xs (i + 1)).toInt)))]) (na := 1) (i := 88) C (c_X4_append G tc l ad 98 f1 s hM1 ho (by decide) ((xs (i + 1)).toInt) (inR_toInt _)) gL_law_X4_append rfl rfl rfl (by decide +kernel) ⟨Nat.le_of_ble_eq_true rfl, Nat.le_of_ble_eq_true rfl⟩ (by decide) h88 (show vwCl[4]? = some (RX4, TX4, 15) from rfl) rfl rfl (Nat.le_of_ble_eq_true rfl) dL_law_201 ⟨Nat.le_of_ble_eq_true rfl, Nat.le_of_ble_eq_true rfl⟩ (aft_I (fun f2 h2 => ?_))
  obtain ⟨hM2, q2⟩ := h2
  refine r_same (tgt := 809) C dL_law_204 (by decide) ?_
  exact kk f2 _ (hX1.fr (fun q g => q2 q (Or.inl g))) hM2 (ok_app ho ((xs (i + 1)).toInt))
set_option maxHeartbeats 2000000 in
theorem kL_3 (C : CC X G tc l cL_law RL wsL_law 4 room_1) (hB : SD b L xs X) (hL : L ≤ 2048) (hi : i + 3 < L) (hX : XI tc ad f s) (hM : MI tc ad f s) (ho : okS s) (kk : ∀ f' s', XI tc ad f' s' → MI tc ad f' s' → okS s' → VV X ad 98 f' 98 14465 809 (lvL b ad i) []) : VV X ad 98 f 98 14465 209 (lvL b ad i) [] := by
  refine r_aload_n C dL_law_209 rfl rfl ?_
  refine r_arg C hB (by omega) 1 (by omega) (by decide) rfl rfl dL_law_210 dL_law_211 dL_law_212 dL_law_213 dL_law_214 ?_
  refine r_arg C hB (by omega) 2 (by omega) (by decide) rfl rfl dL_law_215 dL_law_216 dL_law_217 dL_law_218 dL_law_219 ?_
  refine r_arg C hB (by omega) 3 (by omega) (by decide) rfl rfl dL_law_220 dL_law_221 dL_law_222 dL_law_223 dL_law_224 ?_
  refine r_callV (As := [.int (iI (xs (i + 1)).toInt), .int (iI (xs (i + 2)).toInt), .int (iI (xs (i + 3)).toInt)]) (rest := []) (na := 3) (i := 0) C (c_X3_change G tc l ad 98 f s hX ho (by decide) ((xs (i + 1)).toInt) ((xs (i + 2)).toInt) ((xs (i + 3)).toInt) (inR_toInt _) (inR_toInt _) (inR_toInt _)) gL_law_X3_change rfl rfl rfl (by decide +kernel) ⟨Nat.le_of_ble_eq_true rfl, Nat.le_of_ble_eq_true rfl⟩ (by decide) hX.1 (show vwCl[3]? = some (RX3, TX3, 11) from rfl) rfl rfl (Nat.le_of_ble_eq_true rfl) dL_law_225 ⟨Nat.le_of_ble_eq_true rfl, Nat.le_of_ble_eq_true rfl⟩ (aft_I (fun f1 h1 => ?_))
  obtain ⟨hX1, q1⟩ := h1
  have hM1 : MI tc ad f1 s := hM.fr (fun q g1 g2 => q1 q g1)
  obtain ⟨x1, x2, x3, x4, h88⟩ := hM1.1
  refine r_aload_n C dL_law_228 rfl rfl ?_
  refine r_arg C hB (by omega) 1 (by omega) (by decide) rfl rfl dL_law_229 dL_law_230 dL_law_231 dL_law_232 dL_law_233 ?_
  refine r_arg C hB (by omega) 2 (by omega) (by decide) rfl rfl dL_law_234 dL_law_235 dL_law_236 dL_law_237 dL_law_238 ?_
  refine r_arg C hB (by omega) 3 (by omega) (by decide) rfl rfl dL_law_239 dL_law_240 dL_law_241 dL_law_242 dL_law_243 ?_
  refine r_callV (As := [.int (iI (xs (i + 1)).toInt), .int (iI (xs (i + 2)).toInt), .int (iI (xs (i + 3)).toInt)]) (rest := [.int (iI (aChg s ((xs (i + 1)).toInt) ((xs (i + 2)).toInt) ((xs (i + 3)).toInt)))]) (na := 3) (i := 88) C (c_X4_change G tc l ad 98 f1 s hM1 ho (by decide) ((xs (i + 1)).toInt) ((xs (i + 2)).toInt) ((xs (i + 3)).toInt) (inR_toInt _) (inR_toInt _) (inR_toInt _)) gL_law_X4_change rfl rfl rfl (by decide +kernel) ⟨Nat.le_of_ble_eq_true rfl, Nat.le_of_ble_eq_true rfl⟩ (by decide) h88 (show vwCl[4]? = some (RX4, TX4, 15) from rfl) rfl rfl (Nat.le_of_ble_eq_true rfl) dL_law_244 ⟨Nat.le_of_ble_eq_true rfl, Nat.le_of_ble_eq_true rfl⟩ (aft_I (fun f2 h2 => ?_))
  obtain ⟨hM2, q2⟩ := h2
  refine r_same (tgt := 809) C dL_law_247 (by decide) ?_
  exact kk f2 _ (hX1.fr (fun q g => q2 q (Or.inl g))) hM2 (ok_chg ho ((xs (i + 1)).toInt) ((xs (i + 2)).toInt) ((xs (i + 3)).toInt))
set_option maxHeartbeats 2000000 in
theorem kL_4 (C : CC X G tc l cL_law RL wsL_law 4 room_1) (hB : SD b L xs X) (hL : L ≤ 2048) (hi : i + 3 < L) (hX : XI tc ad f s) (hM : MI tc ad f s) (ho : okS s) (kk : ∀ f' s', XI tc ad f' s' → MI tc ad f' s' → okS s' → VV X ad 98 f' 98 14465 809 (lvL b ad i) []) : VV X ad 98 f 98 14465 252 (lvL b ad i) [] := by
  refine r_aload_n C dL_law_252 rfl rfl ?_
  refine r_arg C hB (by omega) 1 (by omega) (by decide) rfl rfl dL_law_253 dL_law_254 dL_law_255 dL_law_256 dL_law_257 ?_
  refine r_callV (As := [.int (iI (xs (i + 1)).toInt)]) (rest := []) (na := 1) (i := 0) C (c_X3_remove G tc l ad 98 f s hX ho (by decide) ((xs (i + 1)).toInt) (inR_toInt _)) gL_law_X3_remove rfl rfl rfl (by decide +kernel) ⟨Nat.le_of_ble_eq_true rfl, Nat.le_of_ble_eq_true rfl⟩ (by decide) hX.1 (show vwCl[3]? = some (RX3, TX3, 11) from rfl) rfl rfl (Nat.le_of_ble_eq_true rfl) dL_law_258 ⟨Nat.le_of_ble_eq_true rfl, Nat.le_of_ble_eq_true rfl⟩ (aft_I (fun f1 h1 => ?_))
  obtain ⟨hX1, q1⟩ := h1
  have hM1 : MI tc ad f1 s := hM.fr (fun q g1 g2 => q1 q g1)
  obtain ⟨x1, x2, x3, x4, h88⟩ := hM1.1
  refine r_aload_n C dL_law_261 rfl rfl ?_
  refine r_arg C hB (by omega) 1 (by omega) (by decide) rfl rfl dL_law_262 dL_law_263 dL_law_264 dL_law_265 dL_law_266 ?_
  refine r_callV (As := [.int (iI (xs (i + 1)).toInt)]) (rest := [.int (iI (aRem s ((xs (i + 1)).toInt)))]) (na := 1) (i := 88) C (c_X4_remove G tc l ad 98 f1 s hM1 ho (by decide) ((xs (i + 1)).toInt) (inR_toInt _)) gL_law_X4_remove rfl rfl rfl (by decide +kernel) ⟨Nat.le_of_ble_eq_true rfl, Nat.le_of_ble_eq_true rfl⟩ (by decide) h88 (show vwCl[4]? = some (RX4, TX4, 15) from rfl) rfl rfl (Nat.le_of_ble_eq_true rfl) dL_law_267 ⟨Nat.le_of_ble_eq_true rfl, Nat.le_of_ble_eq_true rfl⟩ (aft_I (fun f2 h2 => ?_))
  obtain ⟨hM2, q2⟩ := h2
  refine r_same (tgt := 809) C dL_law_270 (by decide) ?_
  exact kk f2 _ (hX1.fr (fun q g => q2 q (Or.inl g))) hM2 (ok_rem ho ((xs (i + 1)).toInt))
set_option maxHeartbeats 2000000 in
theorem kL_5 (C : CC X G tc l cL_law RL wsL_law 4 room_1) (hB : SD b L xs X) (hL : L ≤ 2048) (hi : i + 3 < L) (hX : XI tc ad f s) (hM : MI tc ad f s) (ho : okS s) (kk : ∀ f' s', XI tc ad f' s' → MI tc ad f' s' → okS s' → VV X ad 98 f' 98 14465 809 (lvL b ad i) []) : VV X ad 98 f 98 14465 275 (lvL b ad i) [] := by
  refine r_aload_n C dL_law_275 rfl rfl ?_
  refine r_arg C hB (by omega) 1 (by omega) (by decide) rfl rfl dL_law_276 dL_law_277 dL_law_278 dL_law_279 dL_law_280 ?_
  refine r_arg C hB (by omega) 2 (by omega) (by decide) rfl rfl dL_law_281 dL_law_282 dL_law_283 dL_law_284 dL_law_285 ?_
  refine r_callV (As := [.int (iI (xs (i + 1)).toInt), .int (iI (xs (i + 2)).toInt)]) (rest := []) (na := 2) (i := 0) C (c_X3_ofRow G tc l ad 98 f s hX ho (by decide) ((xs (i + 1)).toInt) ((xs (i + 2)).toInt) (inR_toInt _) (inR_toInt _)) gL_law_X3_ofRow rfl rfl rfl (by decide +kernel) ⟨Nat.le_of_ble_eq_true rfl, Nat.le_of_ble_eq_true rfl⟩ (by decide) hX.1 (show vwCl[3]? = some (RX3, TX3, 11) from rfl) rfl rfl (Nat.le_of_ble_eq_true rfl) dL_law_286 ⟨Nat.le_of_ble_eq_true rfl, Nat.le_of_ble_eq_true rfl⟩ (aft_I (fun f1 h1 => ?_))
  obtain ⟨hX1, q1⟩ := h1
  have hM1 : MI tc ad f1 s := hM.fr (fun q g1 g2 => q1 q g1)
  obtain ⟨x1, x2, x3, x4, h88⟩ := hM1.1
  refine r_aload_n C dL_law_289 rfl rfl ?_
  refine r_arg C hB (by omega) 1 (by omega) (by decide) rfl rfl dL_law_290 dL_law_291 dL_law_292 dL_law_293 dL_law_294 ?_
  refine r_arg C hB (by omega) 2 (by omega) (by decide) rfl rfl dL_law_295 dL_law_296 dL_law_297 dL_law_298 dL_law_299 ?_
  refine r_callV (As := [.int (iI (xs (i + 1)).toInt), .int (iI (xs (i + 2)).toInt)]) (rest := [.int (iI (aOfr s ((xs (i + 1)).toInt) ((xs (i + 2)).toInt)))]) (na := 2) (i := 88) C (c_X4_ofRow G tc l ad 98 f1 s hM1 ho (by decide) ((xs (i + 1)).toInt) ((xs (i + 2)).toInt) (inR_toInt _) (inR_toInt _)) gL_law_X4_ofRow rfl rfl rfl (by decide +kernel) ⟨Nat.le_of_ble_eq_true rfl, Nat.le_of_ble_eq_true rfl⟩ (by decide) h88 (show vwCl[4]? = some (RX4, TX4, 15) from rfl) rfl rfl (Nat.le_of_ble_eq_true rfl) dL_law_300 ⟨Nat.le_of_ble_eq_true rfl, Nat.le_of_ble_eq_true rfl⟩ (aft_I (fun f2 h2 => ?_))
  obtain ⟨hM2, q2⟩ := h2
  refine r_same (tgt := 809) C dL_law_303 (by decide) ?_
  exact kk f2 s (hX1.fr (fun q g => q2 q (Or.inl g))) hM2 ho
set_option maxHeartbeats 2000000 in
theorem kL_6 (C : CC X G tc l cL_law RL wsL_law 4 room_1) (hB : SD b L xs X) (hL : L ≤ 2048) (hi : i + 3 < L) (hX : XI tc ad f s) (hM : MI tc ad f s) (ho : okS s) (kk : ∀ f' s', XI tc ad f' s' → MI tc ad f' s' → okS s' → VV X ad 98 f' 98 14465 809 (lvL b ad i) []) : VV X ad 98 f 98 14465 308 (lvL b ad i) [] := by
  refine r_aload_n C dL_law_308 rfl rfl ?_
  refine r_arg C hB (by omega) 1 (by omega) (by decide) rfl rfl dL_law_309 dL_law_310 dL_law_311 dL_law_312 dL_law_313 ?_
  refine r_arg C hB (by omega) 2 (by omega) (by decide) rfl rfl dL_law_314 dL_law_315 dL_law_316 dL_law_317 dL_law_318 ?_
  refine r_callV (As := [.int (iI (xs (i + 1)).toInt), .int (iI (xs (i + 2)).toInt)]) (rest := []) (na := 2) (i := 0) C (c_X3_sign G tc l ad 98 f s hX ho (by decide) ((xs (i + 1)).toInt) ((xs (i + 2)).toInt) (inR_toInt _) (inR_toInt _)) gL_law_X3_sign rfl rfl rfl (by decide +kernel) ⟨Nat.le_of_ble_eq_true rfl, Nat.le_of_ble_eq_true rfl⟩ (by decide) hX.1 (show vwCl[3]? = some (RX3, TX3, 11) from rfl) rfl rfl (Nat.le_of_ble_eq_true rfl) dL_law_319 ⟨Nat.le_of_ble_eq_true rfl, Nat.le_of_ble_eq_true rfl⟩ (aft_I (fun f1 h1 => ?_))
  subst h1
  obtain ⟨x1, x2, x3, x4, h88⟩ := hM.1
  refine r_aload_n C dL_law_322 rfl rfl ?_
  refine r_arg C hB (by omega) 1 (by omega) (by decide) rfl rfl dL_law_323 dL_law_324 dL_law_325 dL_law_326 dL_law_327 ?_
  refine r_arg C hB (by omega) 2 (by omega) (by decide) rfl rfl dL_law_328 dL_law_329 dL_law_330 dL_law_331 dL_law_332 ?_
  refine r_callV (As := [.int (iI (xs (i + 1)).toInt), .int (iI (xs (i + 2)).toInt)]) (rest := [.int (iI (aSgn s ((xs (i + 1)).toInt) ((xs (i + 2)).toInt)))]) (na := 2) (i := 88) C (c_X4_sign G tc l ad 98 _ s hM ho (by decide) ((xs (i + 1)).toInt) ((xs (i + 2)).toInt) (inR_toInt _) (inR_toInt _)) gL_law_X4_sign rfl rfl rfl (by decide +kernel) ⟨Nat.le_of_ble_eq_true rfl, Nat.le_of_ble_eq_true rfl⟩ (by decide) h88 (show vwCl[4]? = some (RX4, TX4, 15) from rfl) rfl rfl (Nat.le_of_ble_eq_true rfl) dL_law_333 ⟨Nat.le_of_ble_eq_true rfl, Nat.le_of_ble_eq_true rfl⟩ (aft_I (fun f2 h2 => ?_))
  subst h2
  refine r_same (tgt := 809) C dL_law_336 (by decide) ?_
  exact kk _ s hX hM ho
set_option maxHeartbeats 2000000 in
theorem kL_7 (C : CC X G tc l cL_law RL wsL_law 4 room_1) (hB : SD b L xs X) (hL : L ≤ 2048) (hi : i + 3 < L) (hX : XI tc ad f s) (hM : MI tc ad f s) (ho : okS s) (kk : ∀ f' s', XI tc ad f' s' → MI tc ad f' s' → okS s' → VV X ad 98 f' 98 14465 809 (lvL b ad i) []) : VV X ad 98 f 98 14465 341 (lvL b ad i) [] := by
  refine r_aload_n C dL_law_341 rfl rfl ?_
  refine r_arg C hB (by omega) 1 (by omega) (by decide) rfl rfl dL_law_342 dL_law_343 dL_law_344 dL_law_345 dL_law_346 ?_
  refine r_arg C hB (by omega) 2 (by omega) (by decide) rfl rfl dL_law_347 dL_law_348 dL_law_349 dL_law_350 dL_law_351 ?_
  refine r_arg C hB (by omega) 3 (by omega) (by decide) rfl rfl dL_law_352 dL_law_353 dL_law_354 dL_law_355 dL_law_356 ?_
  refine r_callV (As := [.int (iI (xs (i + 1)).toInt), .int (iI (xs (i + 2)).toInt), .int (iI (xs (i + 3)).toInt)]) (rest := []) (na := 3) (i := 0) C (c_X3_sample G tc l ad 98 f s hX ho (by decide) ((xs (i + 1)).toInt) ((xs (i + 2)).toInt) ((xs (i + 3)).toInt) (inR_toInt _) (inR_toInt _) (inR_toInt _)) gL_law_X3_sample rfl rfl rfl (by decide +kernel) ⟨Nat.le_of_ble_eq_true rfl, Nat.le_of_ble_eq_true rfl⟩ (by decide) hX.1 (show vwCl[3]? = some (RX3, TX3, 11) from rfl) rfl rfl (Nat.le_of_ble_eq_true rfl) dL_law_357 ⟨Nat.le_of_ble_eq_true rfl, Nat.le_of_ble_eq_true rfl⟩ (aft_I (fun f1 h1 => ?_))
  obtain ⟨hX1, q1⟩ := h1
  have hM1 : MI tc ad f1 s := hM.fr (fun q g1 g2 => q1 q g1)
  obtain ⟨x1, x2, x3, x4, h88⟩ := hM1.1
  refine r_aload_n C dL_law_360 rfl rfl ?_
  refine r_arg C hB (by omega) 1 (by omega) (by decide) rfl rfl dL_law_361 dL_law_362 dL_law_363 dL_law_364 dL_law_365 ?_
  refine r_arg C hB (by omega) 2 (by omega) (by decide) rfl rfl dL_law_366 dL_law_367 dL_law_368 dL_law_369 dL_law_370 ?_
  refine r_arg C hB (by omega) 3 (by omega) (by decide) rfl rfl dL_law_371 dL_law_372 dL_law_373 dL_law_374 dL_law_375 ?_
  refine r_callV (As := [.int (iI (xs (i + 1)).toInt), .int (iI (xs (i + 2)).toInt), .int (iI (xs (i + 3)).toInt)]) (rest := [.int (iI (aSmp s ((xs (i + 1)).toInt) ((xs (i + 2)).toInt) ((xs (i + 3)).toInt)))]) (na := 3) (i := 88) C (c_X4_sample G tc l ad 98 f1 s hM1 ho (by decide) ((xs (i + 1)).toInt) ((xs (i + 2)).toInt) ((xs (i + 3)).toInt) (inR_toInt _) (inR_toInt _) (inR_toInt _)) gL_law_X4_sample rfl rfl rfl (by decide +kernel) ⟨Nat.le_of_ble_eq_true rfl, Nat.le_of_ble_eq_true rfl⟩ (by decide) h88 (show vwCl[4]? = some (RX4, TX4, 15) from rfl) rfl rfl (Nat.le_of_ble_eq_true rfl) dL_law_376 ⟨Nat.le_of_ble_eq_true rfl, Nat.le_of_ble_eq_true rfl⟩ (aft_I (fun f2 h2 => ?_))
  obtain ⟨hM2, q2⟩ := h2
  refine r_same (tgt := 809) C dL_law_379 (by decide) ?_
  exact kk f2 s (hX1.fr (fun q g => q2 q (Or.inl g))) hM2 ho
set_option maxHeartbeats 2000000 in
theorem kL_8 (C : CC X G tc l cL_law RL wsL_law 4 room_1) (hB : SD b L xs X) (hL : L ≤ 2048) (hi : i + 3 < L) (hX : XI tc ad f s) (hM : MI tc ad f s) (ho : okS s) (kk : ∀ f' s', XI tc ad f' s' → MI tc ad f' s' → okS s' → VV X ad 98 f' 98 14465 809 (lvL b ad i) []) : VV X ad 98 f 98 14465 384 (lvL b ad i) [] := by
  refine r_aload_n C dL_law_384 rfl rfl ?_
  refine r_arg C hB (by omega) 1 (by omega) (by decide) rfl rfl dL_law_385 dL_law_386 dL_law_387 dL_law_388 dL_law_389 ?_
  refine r_callV (As := [.int (iI (xs (i + 1)).toInt)]) (rest := []) (na := 1) (i := 0) C (c_X3_count G tc l ad 98 f s hX ho (by decide) ((xs (i + 1)).toInt) (inR_toInt _)) gL_law_X3_count rfl rfl rfl (by decide +kernel) ⟨Nat.le_of_ble_eq_true rfl, Nat.le_of_ble_eq_true rfl⟩ (by decide) hX.1 (show vwCl[3]? = some (RX3, TX3, 11) from rfl) rfl rfl (Nat.le_of_ble_eq_true rfl) dL_law_390 ⟨Nat.le_of_ble_eq_true rfl, Nat.le_of_ble_eq_true rfl⟩ (aft_I (fun f1 h1 => ?_))
  obtain ⟨hX1, q1⟩ := h1
  have hM1 : MI tc ad f1 s := hM.fr (fun q g1 g2 => q1 q g1)
  obtain ⟨x1, x2, x3, x4, h88⟩ := hM1.1
  refine r_aload_n C dL_law_393 rfl rfl ?_
  refine r_arg C hB (by omega) 1 (by omega) (by decide) rfl rfl dL_law_394 dL_law_395 dL_law_396 dL_law_397 dL_law_398 ?_
  refine r_callV (As := [.int (iI (xs (i + 1)).toInt)]) (rest := [.int (iI (aCnt s ((xs (i + 1)).toInt)))]) (na := 1) (i := 88) C (c_X4_count G tc l ad 98 f1 s hM1 ho (by decide) ((xs (i + 1)).toInt) (inR_toInt _)) gL_law_X4_count rfl rfl rfl (by decide +kernel) ⟨Nat.le_of_ble_eq_true rfl, Nat.le_of_ble_eq_true rfl⟩ (by decide) h88 (show vwCl[4]? = some (RX4, TX4, 15) from rfl) rfl rfl (Nat.le_of_ble_eq_true rfl) dL_law_399 ⟨Nat.le_of_ble_eq_true rfl, Nat.le_of_ble_eq_true rfl⟩ (aft_I (fun f2 h2 => ?_))
  obtain ⟨hM2, q2⟩ := h2
  refine r_same (tgt := 809) C dL_law_402 (by decide) ?_
  exact kk f2 s (hX1.fr (fun q g => q2 q (Or.inl g))) hM2 ho
set_option maxHeartbeats 2000000 in
theorem kL_9 (C : CC X G tc l cL_law RL wsL_law 4 room_1) (hB : SD b L xs X) (hL : L ≤ 2048) (hi : i + 3 < L) (hX : XI tc ad f s) (hM : MI tc ad f s) (ho : okS s) (kk : ∀ f' s', XI tc ad f' s' → MI tc ad f' s' → okS s' → VV X ad 98 f' 98 14465 809 (lvL b ad i) []) : VV X ad 98 f 98 14465 407 (lvL b ad i) [] := by
  refine r_aload_n C dL_law_407 rfl rfl ?_
  refine r_arg C hB (by omega) 1 (by omega) (by decide) rfl rfl dL_law_408 dL_law_409 dL_law_410 dL_law_411 dL_law_412 ?_
  refine r_arg C hB (by omega) 2 (by omega) (by decide) rfl rfl dL_law_413 dL_law_414 dL_law_415 dL_law_416 dL_law_417 ?_
  refine r_arg C hB (by omega) 3 (by omega) (by decide) rfl rfl dL_law_418 dL_law_419 dL_law_420 dL_law_421 dL_law_422 ?_
  refine r_callV (As := [.int (iI (xs (i + 1)).toInt), .int (iI (xs (i + 2)).toInt), .int (iI (xs (i + 3)).toInt)]) (rest := []) (na := 3) (i := 0) C (c_X3_told G tc l ad 98 f s hX ho (by decide) ((xs (i + 1)).toInt) ((xs (i + 2)).toInt) ((xs (i + 3)).toInt) (inR_toInt _) (inR_toInt _) (inR_toInt _)) gL_law_X3_told rfl rfl rfl (by decide +kernel) ⟨Nat.le_of_ble_eq_true rfl, Nat.le_of_ble_eq_true rfl⟩ (by decide) hX.1 (show vwCl[3]? = some (RX3, TX3, 11) from rfl) rfl rfl (Nat.le_of_ble_eq_true rfl) dL_law_423 ⟨Nat.le_of_ble_eq_true rfl, Nat.le_of_ble_eq_true rfl⟩ (aft_I (fun f1 h1 => ?_))
  obtain ⟨hX1, q1⟩ := h1
  have hM1 : MI tc ad f1 s := hM.fr (fun q g1 g2 => q1 q g1)
  obtain ⟨x1, x2, x3, x4, h88⟩ := hM1.1
  refine r_aload_n C dL_law_426 rfl rfl ?_
  refine r_arg C hB (by omega) 1 (by omega) (by decide) rfl rfl dL_law_427 dL_law_428 dL_law_429 dL_law_430 dL_law_431 ?_
  refine r_arg C hB (by omega) 2 (by omega) (by decide) rfl rfl dL_law_432 dL_law_433 dL_law_434 dL_law_435 dL_law_436 ?_
  refine r_arg C hB (by omega) 3 (by omega) (by decide) rfl rfl dL_law_437 dL_law_438 dL_law_439 dL_law_440 dL_law_441 ?_
  refine r_callV (As := [.int (iI (xs (i + 1)).toInt), .int (iI (xs (i + 2)).toInt), .int (iI (xs (i + 3)).toInt)]) (rest := [.int (iI (aTld s ((xs (i + 1)).toInt) ((xs (i + 2)).toInt) ((xs (i + 3)).toInt)))]) (na := 3) (i := 88) C (c_X4_told G tc l ad 98 f1 s hM1 ho (by decide) ((xs (i + 1)).toInt) ((xs (i + 2)).toInt) ((xs (i + 3)).toInt) (inR_toInt _) (inR_toInt _) (inR_toInt _)) gL_law_X4_told rfl rfl rfl (by decide +kernel) ⟨Nat.le_of_ble_eq_true rfl, Nat.le_of_ble_eq_true rfl⟩ (by decide) h88 (show vwCl[4]? = some (RX4, TX4, 15) from rfl) rfl rfl (Nat.le_of_ble_eq_true rfl) dL_law_442 ⟨Nat.le_of_ble_eq_true rfl, Nat.le_of_ble_eq_true rfl⟩ (aft_I (fun f2 h2 => ?_))
  obtain ⟨hM2, q2⟩ := h2
  refine r_same (tgt := 809) C dL_law_445 (by decide) ?_
  exact kk f2 s (hX1.fr (fun q g => q2 q (Or.inl g))) hM2 ho
set_option maxHeartbeats 2000000 in
theorem kL_10 (C : CC X G tc l cL_law RL wsL_law 4 room_1) (hB : SD b L xs X) (hL : L ≤ 2048) (hi : i + 3 < L) (hX : XI tc ad f s) (hM : MI tc ad f s) (ho : okS s) (kk : ∀ f' s', XI tc ad f' s' → MI tc ad f' s' → okS s' → VV X ad 98 f' 98 14465 809 (lvL b ad i) []) : VV X ad 98 f 98 14465 450 (lvL b ad i) [] := by
  refine r_aload_n C dL_law_450 rfl rfl ?_
  refine r_arg C hB (by omega) 1 (by omega) (by decide) rfl rfl dL_law_451 dL_law_452 dL_law_453 dL_law_454 dL_law_455 ?_
  refine r_arg C hB (by omega) 2 (by omega) (by decide) rfl rfl dL_law_456 dL_law_457 dL_law_458 dL_law_459 dL_law_460 ?_
  refine r_arg C hB (by omega) 3 (by omega) (by decide) rfl rfl dL_law_461 dL_law_462 dL_law_463 dL_law_464 dL_law_465 ?_
  refine r_callV (As := [.int (iI (xs (i + 1)).toInt), .int (iI (xs (i + 2)).toInt), .int (iI (xs (i + 3)).toInt)]) (rest := []) (na := 3) (i := 0) C (c_X3_exact G tc l ad 98 f s hX ho (by decide) ((xs (i + 1)).toInt) ((xs (i + 2)).toInt) ((xs (i + 3)).toInt) (inR_toInt _) (inR_toInt _) (inR_toInt _)) gL_law_X3_exact rfl rfl rfl (by decide +kernel) ⟨Nat.le_of_ble_eq_true rfl, Nat.le_of_ble_eq_true rfl⟩ (by decide) hX.1 (show vwCl[3]? = some (RX3, TX3, 11) from rfl) rfl rfl (Nat.le_of_ble_eq_true rfl) dL_law_466 ⟨Nat.le_of_ble_eq_true rfl, Nat.le_of_ble_eq_true rfl⟩ (aft_I (fun f1 h1 => ?_))
  obtain ⟨hX1, q1⟩ := h1
  have hM1 : MI tc ad f1 s := hM.fr (fun q g1 g2 => q1 q g1)
  obtain ⟨x1, x2, x3, x4, h88⟩ := hM1.1
  refine r_aload_n C dL_law_469 rfl rfl ?_
  refine r_arg C hB (by omega) 1 (by omega) (by decide) rfl rfl dL_law_470 dL_law_471 dL_law_472 dL_law_473 dL_law_474 ?_
  refine r_arg C hB (by omega) 2 (by omega) (by decide) rfl rfl dL_law_475 dL_law_476 dL_law_477 dL_law_478 dL_law_479 ?_
  refine r_arg C hB (by omega) 3 (by omega) (by decide) rfl rfl dL_law_480 dL_law_481 dL_law_482 dL_law_483 dL_law_484 ?_
  refine r_callV (As := [.int (iI (xs (i + 1)).toInt), .int (iI (xs (i + 2)).toInt), .int (iI (xs (i + 3)).toInt)]) (rest := [.int (iI (aExa s ((xs (i + 1)).toInt) ((xs (i + 2)).toInt) ((xs (i + 3)).toInt)))]) (na := 3) (i := 88) C (c_X4_exact G tc l ad 98 f1 s hM1 ho (by decide) ((xs (i + 1)).toInt) ((xs (i + 2)).toInt) ((xs (i + 3)).toInt) (inR_toInt _) (inR_toInt _) (inR_toInt _)) gL_law_X4_exact rfl rfl rfl (by decide +kernel) ⟨Nat.le_of_ble_eq_true rfl, Nat.le_of_ble_eq_true rfl⟩ (by decide) h88 (show vwCl[4]? = some (RX4, TX4, 15) from rfl) rfl rfl (Nat.le_of_ble_eq_true rfl) dL_law_485 ⟨Nat.le_of_ble_eq_true rfl, Nat.le_of_ble_eq_true rfl⟩ (aft_I (fun f2 h2 => ?_))
  obtain ⟨hM2, q2⟩ := h2
  refine r_same (tgt := 809) C dL_law_488 (by decide) ?_
  exact kk f2 s (hX1.fr (fun q g => q2 q (Or.inl g))) hM2 ho
set_option maxHeartbeats 2000000 in
theorem kL_11 (C : CC X G tc l cL_law RL wsL_law 4 room_1) (hB : SD b L xs X) (hL : L ≤ 2048) (hi : i + 3 < L) (hX : XI tc ad f s) (hM : MI tc ad f s) (ho : okS s) (kk : ∀ f' s', XI tc ad f' s' → MI tc ad f' s' → okS s' → VV X ad 98 f' 98 14465 809 (lvL b ad i) []) : VV X ad 98 f 98 14465 493 (lvL b ad i) [] := by
  refine r_aload_n C dL_law_493 rfl rfl ?_
  refine r_arg C hB (by omega) 1 (by omega) (by decide) rfl rfl dL_law_494 dL_law_495 dL_law_496 dL_law_497 dL_law_498 ?_
  refine r_arg C hB (by omega) 2 (by omega) (by decide) rfl rfl dL_law_499 dL_law_500 dL_law_501 dL_law_502 dL_law_503 ?_
  refine r_arg C hB (by omega) 3 (by omega) (by decide) rfl rfl dL_law_504 dL_law_505 dL_law_506 dL_law_507 dL_law_508 ?_
  refine r_callV (As := [.int (iI (xs (i + 1)).toInt), .int (iI (xs (i + 2)).toInt), .int (iI (xs (i + 3)).toInt)]) (rest := []) (na := 3) (i := 0) C (c_X3_inside G tc l ad 98 f s hX ho (by decide) ((xs (i + 1)).toInt) ((xs (i + 2)).toInt) ((xs (i + 3)).toInt) (inR_toInt _) (inR_toInt _) (inR_toInt _)) gL_law_X3_inside rfl rfl rfl (by decide +kernel) ⟨Nat.le_of_ble_eq_true rfl, Nat.le_of_ble_eq_true rfl⟩ (by decide) hX.1 (show vwCl[3]? = some (RX3, TX3, 11) from rfl) rfl rfl (Nat.le_of_ble_eq_true rfl) dL_law_509 ⟨Nat.le_of_ble_eq_true rfl, Nat.le_of_ble_eq_true rfl⟩ (aft_I (fun f1 h1 => ?_))
  obtain ⟨hX1, q1⟩ := h1
  have hM1 : MI tc ad f1 s := hM.fr (fun q g1 g2 => q1 q g1)
  obtain ⟨x1, x2, x3, x4, h88⟩ := hM1.1
  refine r_aload_n C dL_law_512 rfl rfl ?_
  refine r_arg C hB (by omega) 1 (by omega) (by decide) rfl rfl dL_law_513 dL_law_514 dL_law_515 dL_law_516 dL_law_517 ?_
  refine r_arg C hB (by omega) 2 (by omega) (by decide) rfl rfl dL_law_518 dL_law_519 dL_law_520 dL_law_521 dL_law_522 ?_
  refine r_arg C hB (by omega) 3 (by omega) (by decide) rfl rfl dL_law_523 dL_law_524 dL_law_525 dL_law_526 dL_law_527 ?_
  refine r_callV (As := [.int (iI (xs (i + 1)).toInt), .int (iI (xs (i + 2)).toInt), .int (iI (xs (i + 3)).toInt)]) (rest := [.int (iI (aIns s ((xs (i + 1)).toInt) ((xs (i + 2)).toInt) ((xs (i + 3)).toInt)))]) (na := 3) (i := 88) C (c_X4_inside G tc l ad 98 f1 s hM1 ho (by decide) ((xs (i + 1)).toInt) ((xs (i + 2)).toInt) ((xs (i + 3)).toInt) (inR_toInt _) (inR_toInt _) (inR_toInt _)) gL_law_X4_inside rfl rfl rfl (by decide +kernel) ⟨Nat.le_of_ble_eq_true rfl, Nat.le_of_ble_eq_true rfl⟩ (by decide) h88 (show vwCl[4]? = some (RX4, TX4, 15) from rfl) rfl rfl (Nat.le_of_ble_eq_true rfl) dL_law_528 ⟨Nat.le_of_ble_eq_true rfl, Nat.le_of_ble_eq_true rfl⟩ (aft_I (fun f2 h2 => ?_))
  obtain ⟨hM2, q2⟩ := h2
  refine r_same (tgt := 809) C dL_law_531 (by decide) ?_
  exact kk f2 s (hX1.fr (fun q g => q2 q (Or.inl g))) hM2 ho
set_option maxHeartbeats 2000000 in
theorem kL_12 (C : CC X G tc l cL_law RL wsL_law 4 room_1) (hB : SD b L xs X) (hL : L ≤ 2048) (hi : i + 3 < L) (hX : XI tc ad f s) (hM : MI tc ad f s) (ho : okS s) (kk : ∀ f' s', XI tc ad f' s' → MI tc ad f' s' → okS s' → VV X ad 98 f' 98 14465 809 (lvL b ad i) []) : VV X ad 98 f 98 14465 536 (lvL b ad i) [] := by
  refine r_aload_n C dL_law_536 rfl rfl ?_
  refine r_arg C hB (by omega) 1 (by omega) (by decide) rfl rfl dL_law_537 dL_law_538 dL_law_539 dL_law_540 dL_law_541 ?_
  refine r_arg C hB (by omega) 2 (by omega) (by decide) rfl rfl dL_law_542 dL_law_543 dL_law_544 dL_law_545 dL_law_546 ?_
  refine r_callV (As := [.int (iI (xs (i + 1)).toInt), .int (iI (xs (i + 2)).toInt)]) (rest := []) (na := 2) (i := 0) C (c_X3_nearest G tc l ad 98 f s hX ho (by decide) ((xs (i + 1)).toInt) ((xs (i + 2)).toInt) (inR_toInt _) (inR_toInt _)) gL_law_X3_nearest rfl rfl rfl (by decide +kernel) ⟨Nat.le_of_ble_eq_true rfl, Nat.le_of_ble_eq_true rfl⟩ (by decide) hX.1 (show vwCl[3]? = some (RX3, TX3, 11) from rfl) rfl rfl (Nat.le_of_ble_eq_true rfl) dL_law_547 ⟨Nat.le_of_ble_eq_true rfl, Nat.le_of_ble_eq_true rfl⟩ (aft_I (fun f1 h1 => ?_))
  obtain ⟨hX1, q1⟩ := h1
  have hM1 : MI tc ad f1 s := hM.fr (fun q g1 g2 => q1 q g1)
  obtain ⟨x1, x2, x3, x4, h88⟩ := hM1.1
  refine r_aload_n C dL_law_550 rfl rfl ?_
  refine r_arg C hB (by omega) 1 (by omega) (by decide) rfl rfl dL_law_551 dL_law_552 dL_law_553 dL_law_554 dL_law_555 ?_
  refine r_arg C hB (by omega) 2 (by omega) (by decide) rfl rfl dL_law_556 dL_law_557 dL_law_558 dL_law_559 dL_law_560 ?_
  refine r_callV (As := [.int (iI (xs (i + 1)).toInt), .int (iI (xs (i + 2)).toInt)]) (rest := [.int (iI (aNea s ((xs (i + 1)).toInt) ((xs (i + 2)).toInt)))]) (na := 2) (i := 88) C (c_X4_nearest G tc l ad 98 f1 s hM1 ho (by decide) ((xs (i + 1)).toInt) ((xs (i + 2)).toInt) (inR_toInt _) (inR_toInt _)) gL_law_X4_nearest rfl rfl rfl (by decide +kernel) ⟨Nat.le_of_ble_eq_true rfl, Nat.le_of_ble_eq_true rfl⟩ (by decide) h88 (show vwCl[4]? = some (RX4, TX4, 15) from rfl) rfl rfl (Nat.le_of_ble_eq_true rfl) dL_law_561 ⟨Nat.le_of_ble_eq_true rfl, Nat.le_of_ble_eq_true rfl⟩ (aft_I (fun f2 h2 => ?_))
  obtain ⟨hM2, q2⟩ := h2
  refine r_same (tgt := 809) C dL_law_564 (by decide) ?_
  exact kk f2 s (hX1.fr (fun q g => q2 q (Or.inl g))) hM2 ho
set_option maxHeartbeats 2000000 in
theorem kL_13 (C : CC X G tc l cL_law RL wsL_law 4 room_1) (hB : SD b L xs X) (hL : L ≤ 2048) (hi : i + 3 < L) (hX : XI tc ad f s) (hM : MI tc ad f s) (ho : okS s) (kk : ∀ f' s', XI tc ad f' s' → MI tc ad f' s' → okS s' → VV X ad 98 f' 98 14465 809 (lvL b ad i) []) : VV X ad 98 f 98 14465 569 (lvL b ad i) [] := by
  refine r_aload_n C dL_law_569 rfl rfl ?_
  refine r_arg C hB (by omega) 1 (by omega) (by decide) rfl rfl dL_law_570 dL_law_571 dL_law_572 dL_law_573 dL_law_574 ?_
  refine r_callV (As := [.int (iI (xs (i + 1)).toInt)]) (rest := []) (na := 1) (i := 0) C (c_X3_candidates G tc l ad 98 f s hX ho (by decide) ((xs (i + 1)).toInt) (inR_toInt _)) gL_law_X3_candidates rfl rfl rfl (by decide +kernel) ⟨Nat.le_of_ble_eq_true rfl, Nat.le_of_ble_eq_true rfl⟩ (by decide) hX.1 (show vwCl[3]? = some (RX3, TX3, 11) from rfl) rfl rfl (Nat.le_of_ble_eq_true rfl) dL_law_575 ⟨Nat.le_of_ble_eq_true rfl, Nat.le_of_ble_eq_true rfl⟩ (aft_I (fun f1 h1 => ?_))
  obtain ⟨hX1, q1⟩ := h1
  have hM1 : MI tc ad f1 s := hM.fr (fun q g1 g2 => q1 q g1)
  obtain ⟨x1, x2, x3, x4, h88⟩ := hM1.1
  refine r_aload_n C dL_law_578 rfl rfl ?_
  refine r_arg C hB (by omega) 1 (by omega) (by decide) rfl rfl dL_law_579 dL_law_580 dL_law_581 dL_law_582 dL_law_583 ?_
  refine r_callV (As := [.int (iI (xs (i + 1)).toInt)]) (rest := [.int (iI (aCan s ((xs (i + 1)).toInt)))]) (na := 1) (i := 88) C (c_X4_candidates G tc l ad 98 f1 s hM1 ho (by decide) ((xs (i + 1)).toInt) (inR_toInt _)) gL_law_X4_candidates rfl rfl rfl (by decide +kernel) ⟨Nat.le_of_ble_eq_true rfl, Nat.le_of_ble_eq_true rfl⟩ (by decide) h88 (show vwCl[4]? = some (RX4, TX4, 15) from rfl) rfl rfl (Nat.le_of_ble_eq_true rfl) dL_law_584 ⟨Nat.le_of_ble_eq_true rfl, Nat.le_of_ble_eq_true rfl⟩ (aft_I (fun f2 h2 => ?_))
  obtain ⟨hM2, q2⟩ := h2
  refine r_same (tgt := 809) C dL_law_587 (by decide) ?_
  exact kk f2 s (hX1.fr (fun q g => q2 q (Or.inl g))) hM2 ho
set_option maxHeartbeats 2000000 in
theorem kL_14 (C : CC X G tc l cL_law RL wsL_law 4 room_1) (hB : SD b L xs X) (hL : L ≤ 2048) (hi : i + 3 < L) (hX : XI tc ad f s) (hM : MI tc ad f s) (ho : okS s) (kk : ∀ f' s', XI tc ad f' s' → MI tc ad f' s' → okS s' → VV X ad 98 f' 98 14465 809 (lvL b ad i) []) : VV X ad 98 f 98 14465 592 (lvL b ad i) [] := by
  refine r_aload_n C dL_law_592 rfl rfl ?_
  refine r_arg C hB (by omega) 1 (by omega) (by decide) rfl rfl dL_law_593 dL_law_594 dL_law_595 dL_law_596 dL_law_597 ?_
  refine r_callV (As := [.int (iI (xs (i + 1)).toInt)]) (rest := []) (na := 1) (i := 0) C (c_X3_worst G tc l ad 98 f s hX ho (by decide) ((xs (i + 1)).toInt) (inR_toInt _)) gL_law_X3_worst rfl rfl rfl (by decide +kernel) ⟨Nat.le_of_ble_eq_true rfl, Nat.le_of_ble_eq_true rfl⟩ (by decide) hX.1 (show vwCl[3]? = some (RX3, TX3, 11) from rfl) rfl rfl (Nat.le_of_ble_eq_true rfl) dL_law_598 ⟨Nat.le_of_ble_eq_true rfl, Nat.le_of_ble_eq_true rfl⟩ (aft_I (fun f1 h1 => ?_))
  obtain ⟨hX1, q1⟩ := h1
  have hM1 : MI tc ad f1 s := hM.fr (fun q g1 g2 => q1 q g1)
  obtain ⟨x1, x2, x3, x4, h88⟩ := hM1.1
  refine r_aload_n C dL_law_601 rfl rfl ?_
  refine r_arg C hB (by omega) 1 (by omega) (by decide) rfl rfl dL_law_602 dL_law_603 dL_law_604 dL_law_605 dL_law_606 ?_
  refine r_callV (As := [.int (iI (xs (i + 1)).toInt)]) (rest := [.int (iI (aWor s ((xs (i + 1)).toInt)))]) (na := 1) (i := 88) C (c_X4_worst G tc l ad 98 f1 s hM1 ho (by decide) ((xs (i + 1)).toInt) (inR_toInt _)) gL_law_X4_worst rfl rfl rfl (by decide +kernel) ⟨Nat.le_of_ble_eq_true rfl, Nat.le_of_ble_eq_true rfl⟩ (by decide) h88 (show vwCl[4]? = some (RX4, TX4, 15) from rfl) rfl rfl (Nat.le_of_ble_eq_true rfl) dL_law_607 ⟨Nat.le_of_ble_eq_true rfl, Nat.le_of_ble_eq_true rfl⟩ (aft_I (fun f2 h2 => ?_))
  obtain ⟨hM2, q2⟩ := h2
  refine r_same (tgt := 809) C dL_law_610 (by decide) ?_
  exact kk f2 s (hX1.fr (fun q g => q2 q (Or.inl g))) hM2 ho
set_option maxHeartbeats 2000000 in
theorem kL_15 (C : CC X G tc l cL_law RL wsL_law 4 room_1) (hB : SD b L xs X) (hL : L ≤ 2048) (hi : i + 3 < L) (hX : XI tc ad f s) (hM : MI tc ad f s) (ho : okS s) (kk : ∀ f' s', XI tc ad f' s' → MI tc ad f' s' → okS s' → VV X ad 98 f' 98 14465 809 (lvL b ad i) []) : VV X ad 98 f 98 14465 615 (lvL b ad i) [] := by
  refine r_aload_n C dL_law_615 rfl rfl ?_
  refine r_arg C hB (by omega) 1 (by omega) (by decide) rfl rfl dL_law_616 dL_law_617 dL_law_618 dL_law_619 dL_law_620 ?_
  refine r_callV (As := [.int (iI (xs (i + 1)).toInt)]) (rest := []) (na := 1) (i := 0) C (c_X3_bestKept G tc l ad 98 f s hX ho (by decide) ((xs (i + 1)).toInt) (inR_toInt _)) gL_law_X3_bestKept rfl rfl rfl (by decide +kernel) ⟨Nat.le_of_ble_eq_true rfl, Nat.le_of_ble_eq_true rfl⟩ (by decide) hX.1 (show vwCl[3]? = some (RX3, TX3, 11) from rfl) rfl rfl (Nat.le_of_ble_eq_true rfl) dL_law_621 ⟨Nat.le_of_ble_eq_true rfl, Nat.le_of_ble_eq_true rfl⟩ (aft_I (fun f1 h1 => ?_))
  obtain ⟨hX1, q1⟩ := h1
  have hM1 : MI tc ad f1 s := hM.fr (fun q g1 g2 => q1 q g1)
  obtain ⟨x1, x2, x3, x4, h88⟩ := hM1.1
  refine r_aload_n C dL_law_624 rfl rfl ?_
  refine r_arg C hB (by omega) 1 (by omega) (by decide) rfl rfl dL_law_625 dL_law_626 dL_law_627 dL_law_628 dL_law_629 ?_
  refine r_callV (As := [.int (iI (xs (i + 1)).toInt)]) (rest := [.int (iI (aBst s ((xs (i + 1)).toInt)))]) (na := 1) (i := 88) C (c_X4_bestKept G tc l ad 98 f1 s hM1 ho (by decide) ((xs (i + 1)).toInt) (inR_toInt _)) gL_law_X4_bestKept rfl rfl rfl (by decide +kernel) ⟨Nat.le_of_ble_eq_true rfl, Nat.le_of_ble_eq_true rfl⟩ (by decide) h88 (show vwCl[4]? = some (RX4, TX4, 15) from rfl) rfl rfl (Nat.le_of_ble_eq_true rfl) dL_law_630 ⟨Nat.le_of_ble_eq_true rfl, Nat.le_of_ble_eq_true rfl⟩ (aft_I (fun f2 h2 => ?_))
  obtain ⟨hM2, q2⟩ := h2
  refine r_same (tgt := 809) C dL_law_633 (by decide) ?_
  exact kk f2 s (hX1.fr (fun q g => q2 q (Or.inl g))) hM2 ho
set_option maxHeartbeats 2000000 in
theorem kL_16 (C : CC X G tc l cL_law RL wsL_law 4 room_1) (hB : SD b L xs X) (hL : L ≤ 2048) (hi : i + 3 < L) (hX : XI tc ad f s) (hM : MI tc ad f s) (ho : okS s) (kk : ∀ f' s', XI tc ad f' s' → MI tc ad f' s' → okS s' → VV X ad 98 f' 98 14465 809 (lvL b ad i) []) : VV X ad 98 f 98 14465 638 (lvL b ad i) [] := by
  refine r_aload_n C dL_law_638 rfl rfl ?_
  refine r_arg C hB (by omega) 1 (by omega) (by decide) rfl rfl dL_law_639 dL_law_640 dL_law_641 dL_law_642 dL_law_643 ?_
  refine r_arg C hB (by omega) 2 (by omega) (by decide) rfl rfl dL_law_644 dL_law_645 dL_law_646 dL_law_647 dL_law_648 ?_
  refine r_callV (As := [.int (iI (xs (i + 1)).toInt), .int (iI (xs (i + 2)).toInt)]) (rest := []) (na := 2) (i := 0) C (c_X3_group G tc l ad 98 f s hX ho (by decide) ((xs (i + 1)).toInt) ((xs (i + 2)).toInt) (inR_toInt _) (inR_toInt _)) gL_law_X3_group rfl rfl rfl (by decide +kernel) ⟨Nat.le_of_ble_eq_true rfl, Nat.le_of_ble_eq_true rfl⟩ (by decide) hX.1 (show vwCl[3]? = some (RX3, TX3, 11) from rfl) rfl rfl (Nat.le_of_ble_eq_true rfl) dL_law_649 ⟨Nat.le_of_ble_eq_true rfl, Nat.le_of_ble_eq_true rfl⟩ (aft_I (fun f1 h1 => ?_))
  obtain ⟨hX1, q1⟩ := h1
  have hM1 : MI tc ad f1 s := hM.fr (fun q g1 g2 => q1 q g1)
  obtain ⟨x1, x2, x3, x4, h88⟩ := hM1.1
  refine r_aload_n C dL_law_652 rfl rfl ?_
  refine r_arg C hB (by omega) 1 (by omega) (by decide) rfl rfl dL_law_653 dL_law_654 dL_law_655 dL_law_656 dL_law_657 ?_
  refine r_arg C hB (by omega) 2 (by omega) (by decide) rfl rfl dL_law_658 dL_law_659 dL_law_660 dL_law_661 dL_law_662 ?_
  refine r_callV (As := [.int (iI (xs (i + 1)).toInt), .int (iI (xs (i + 2)).toInt)]) (rest := [.int (iI (aGrp s ((xs (i + 1)).toInt) ((xs (i + 2)).toInt)))]) (na := 2) (i := 88) C (c_X4_group G tc l ad 98 f1 s hM1 ho (by decide) ((xs (i + 1)).toInt) ((xs (i + 2)).toInt) (inR_toInt _) (inR_toInt _)) gL_law_X4_group rfl rfl rfl (by decide +kernel) ⟨Nat.le_of_ble_eq_true rfl, Nat.le_of_ble_eq_true rfl⟩ (by decide) h88 (show vwCl[4]? = some (RX4, TX4, 15) from rfl) rfl rfl (Nat.le_of_ble_eq_true rfl) dL_law_663 ⟨Nat.le_of_ble_eq_true rfl, Nat.le_of_ble_eq_true rfl⟩ (aft_I (fun f2 h2 => ?_))
  obtain ⟨hM2, q2⟩ := h2
  refine r_same (tgt := 809) C dL_law_666 (by decide) ?_
  exact kk f2 s (hX1.fr (fun q g => q2 q (Or.inl g))) hM2 ho
set_option maxHeartbeats 2000000 in
theorem kL_17 (C : CC X G tc l cL_law RL wsL_law 4 room_1) (hB : SD b L xs X) (hL : L ≤ 2048) (hi : i + 3 < L) (hX : XI tc ad f s) (hM : MI tc ad f s) (ho : okS s) (kk : ∀ f' s', XI tc ad f' s' → MI tc ad f' s' → okS s' → VV X ad 98 f' 98 14465 809 (lvL b ad i) []) : VV X ad 98 f 98 14465 671 (lvL b ad i) [] := by
  refine r_aload_n C dL_law_671 rfl rfl ?_
  refine r_arg C hB (by omega) 1 (by omega) (by decide) rfl rfl dL_law_672 dL_law_673 dL_law_674 dL_law_675 dL_law_676 ?_
  refine r_i2l C dL_law_677 ?_
  refine r_bipush C (32) rfl dL_law_678 ?_
  refine r_lshl C dL_law_680 ?_
  refine r_arg C hB (by omega) 2 (by omega) (by decide) rfl rfl dL_law_681 dL_law_682 dL_law_683 dL_law_684 dL_law_685 ?_
  refine r_i2l C dL_law_686 ?_
  refine r_ldc2 C (4294967295) rfl (show Cond.constantLong RL 85 (4294967295) ∈ wsL_law by decide +kernel) dL_law_687 ?_
  refine r_land C dL_law_690 ?_
  refine r_lor C dL_law_691 ?_
  refine r_callV (As := [.long (((iI (xs (i + 1)).toInt).toInt64 <<< ((iI 32).toInt64 &&& 63)) ||| ((iI (xs (i + 2)).toInt).toInt64 &&& (jI 4294967295)))]) (rest := []) (na := 1) (i := 0) C (c_X3_put G tc l ad 98 f s hX ho (by decide) (((iI (xs (i + 1)).toInt).toInt64 <<< ((iI 32).toInt64 &&& 63)) ||| ((iI (xs (i + 2)).toInt).toInt64 &&& (jI 4294967295))) ) gL_law_X3_put rfl rfl rfl (by decide +kernel) ⟨Nat.le_of_ble_eq_true rfl, Nat.le_of_ble_eq_true rfl⟩ (by decide) hX.1 (show vwCl[3]? = some (RX3, TX3, 11) from rfl) rfl rfl (Nat.le_of_ble_eq_true rfl) dL_law_692 ⟨Nat.le_of_ble_eq_true rfl, Nat.le_of_ble_eq_true rfl⟩ (aft_I (fun f1 h1 => ?_))
  obtain ⟨hX1, q1⟩ := h1
  have hM1 : MI tc ad f1 s := hM.fr (fun q g1 g2 => q1 q g1)
  obtain ⟨x1, x2, x3, x4, h88⟩ := hM1.1
  refine r_aload_n C dL_law_695 rfl rfl ?_
  refine r_arg C hB (by omega) 1 (by omega) (by decide) rfl rfl dL_law_696 dL_law_697 dL_law_698 dL_law_699 dL_law_700 ?_
  refine r_i2l C dL_law_701 ?_
  refine r_bipush C (32) rfl dL_law_702 ?_
  refine r_lshl C dL_law_704 ?_
  refine r_arg C hB (by omega) 2 (by omega) (by decide) rfl rfl dL_law_705 dL_law_706 dL_law_707 dL_law_708 dL_law_709 ?_
  refine r_i2l C dL_law_710 ?_
  refine r_ldc2 C (4294967295) rfl (show Cond.constantLong RL 85 (4294967295) ∈ wsL_law by decide +kernel) dL_law_711 ?_
  refine r_land C dL_law_714 ?_
  refine r_lor C dL_law_715 ?_
  refine r_callV (As := [.long (((iI (xs (i + 1)).toInt).toInt64 <<< ((iI 32).toInt64 &&& 63)) ||| ((iI (xs (i + 2)).toInt).toInt64 &&& (jI 4294967295)))]) (rest := [.int (iI (aPut s (((iI (xs (i + 1)).toInt).toInt64 <<< ((iI 32).toInt64 &&& 63)) ||| ((iI (xs (i + 2)).toInt).toInt64 &&& (jI 4294967295)))))]) (na := 1) (i := 88) C (c_X4_put G tc l ad 98 f1 s hM1 ho (by decide) (((iI (xs (i + 1)).toInt).toInt64 <<< ((iI 32).toInt64 &&& 63)) ||| ((iI (xs (i + 2)).toInt).toInt64 &&& (jI 4294967295))) ) gL_law_X4_put rfl rfl rfl (by decide +kernel) ⟨Nat.le_of_ble_eq_true rfl, Nat.le_of_ble_eq_true rfl⟩ (by decide) h88 (show vwCl[4]? = some (RX4, TX4, 15) from rfl) rfl rfl (Nat.le_of_ble_eq_true rfl) dL_law_716 ⟨Nat.le_of_ble_eq_true rfl, Nat.le_of_ble_eq_true rfl⟩ (aft_I (fun f2 h2 => ?_))
  obtain ⟨hM2, q2⟩ := h2
  refine r_same (tgt := 809) C dL_law_719 (by decide) ?_
  exact kk f2 _ (hX1.fr (fun q g => q2 q (Or.inl g))) hM2 (ok_put ho (((iI (xs (i + 1)).toInt).toInt64 <<< ((iI 32).toInt64 &&& 63)) ||| ((iI (xs (i + 2)).toInt).toInt64 &&& (jI 4294967295))))
set_option maxHeartbeats 2000000 in
theorem kL_18 (C : CC X G tc l cL_law RL wsL_law 4 room_1) (hB : SD b L xs X) (hL : L ≤ 2048) (hi : i + 3 < L) (hX : XI tc ad f s) (hM : MI tc ad f s) (ho : okS s) (kk : ∀ f' s', XI tc ad f' s' → MI tc ad f' s' → okS s' → VV X ad 98 f' 98 14465 809 (lvL b ad i) []) : VV X ad 98 f 98 14465 724 (lvL b ad i) [] := by
  refine r_aload_n C dL_law_724 rfl rfl ?_
  refine r_callV (As := []) (rest := []) (na := 0) (i := 0) C (c_X3_wipe G tc l ad 98 f s hX ho (by decide)  ) gL_law_X3_wipe rfl rfl rfl (by decide +kernel) ⟨Nat.le_of_ble_eq_true rfl, Nat.le_of_ble_eq_true rfl⟩ (by decide) hX.1 (show vwCl[3]? = some (RX3, TX3, 11) from rfl) rfl rfl (Nat.le_of_ble_eq_true rfl) dL_law_725 ⟨Nat.le_of_ble_eq_true rfl, Nat.le_of_ble_eq_true rfl⟩ (aft_I (fun f1 h1 => ?_))
  obtain ⟨hX1, q1⟩ := h1
  have hM1 : MI tc ad f1 s := hM.fr (fun q g1 g2 => q1 q g1)
  obtain ⟨x1, x2, x3, x4, h88⟩ := hM1.1
  refine r_aload_n C dL_law_728 rfl rfl ?_
  refine r_callV (As := []) (rest := [.int (iI ((pln s : Nat) : Int))]) (na := 0) (i := 88) C (c_X4_wipe G tc l ad 98 f1 s hM1 ho (by decide)  ) gL_law_X4_wipe rfl rfl rfl (by decide +kernel) ⟨Nat.le_of_ble_eq_true rfl, Nat.le_of_ble_eq_true rfl⟩ (by decide) h88 (show vwCl[4]? = some (RX4, TX4, 15) from rfl) rfl rfl (Nat.le_of_ble_eq_true rfl) dL_law_729 ⟨Nat.le_of_ble_eq_true rfl, Nat.le_of_ble_eq_true rfl⟩ (aft_I (fun f2 h2 => ?_))
  obtain ⟨hM2, q2⟩ := h2
  refine r_same (tgt := 809) C dL_law_732 (by decide) ?_
  exact kk f2 _ (hX1.fr (fun q g => q2 q (Or.inl g))) hM2 (ok_wip ho )
set_option maxHeartbeats 2000000 in
theorem kL_19 (C : CC X G tc l cL_law RL wsL_law 4 room_1) (hB : SD b L xs X) (hL : L ≤ 2048) (hi : i + 3 < L) (hX : XI tc ad f s) (hM : MI tc ad f s) (ho : okS s) (kk : ∀ f' s', XI tc ad f' s' → MI tc ad f' s' → okS s' → VV X ad 98 f' 98 14465 809 (lvL b ad i) []) : VV X ad 98 f 98 14465 737 (lvL b ad i) [] := by
  refine r_aload_n C dL_law_737 rfl rfl ?_
  refine r_callV (As := []) (rest := []) (na := 0) (i := 0) C (c_X3_fault G tc l ad 98 f s hX ho (by decide)  ) gL_law_X3_fault rfl rfl rfl (by decide +kernel) ⟨Nat.le_of_ble_eq_true rfl, Nat.le_of_ble_eq_true rfl⟩ (by decide) hX.1 (show vwCl[3]? = some (RX3, TX3, 11) from rfl) rfl rfl (Nat.le_of_ble_eq_true rfl) dL_law_738 ⟨Nat.le_of_ble_eq_true rfl, Nat.le_of_ble_eq_true rfl⟩ (aft_I (fun f1 h1 => ?_))
  subst h1
  obtain ⟨x1, x2, x3, x4, h88⟩ := hM.1
  refine r_aload_n C dL_law_741 rfl rfl ?_
  refine r_callV (As := []) (rest := [.int (iI (fau (pad s) (pln s)))]) (na := 0) (i := 88) C (c_X4_fault G tc l ad 98 _ s hM ho (by decide)  ) gL_law_X4_fault rfl rfl rfl (by decide +kernel) ⟨Nat.le_of_ble_eq_true rfl, Nat.le_of_ble_eq_true rfl⟩ (by decide) h88 (show vwCl[4]? = some (RX4, TX4, 15) from rfl) rfl rfl (Nat.le_of_ble_eq_true rfl) dL_law_742 ⟨Nat.le_of_ble_eq_true rfl, Nat.le_of_ble_eq_true rfl⟩ (aft_I (fun f2 h2 => ?_))
  subst h2
  refine r_same (tgt := 809) C dL_law_745 (by decide) ?_
  exact kk _ s hX hM ho
set_option maxHeartbeats 2000000 in
theorem kL_20 (C : CC X G tc l cL_law RL wsL_law 4 room_1) (hB : SD b L xs X) (hL : L ≤ 2048) (hi : i + 3 < L) (hX : XI tc ad f s) (hM : MI tc ad f s) (ho : okS s) (kk : ∀ f' s', XI tc ad f' s' → MI tc ad f' s' → okS s' → VV X ad 98 f' 98 14465 809 (lvL b ad i) []) : VV X ad 98 f 98 14465 750 (lvL b ad i) [] := by
  refine r_aload_n C dL_law_750 rfl rfl ?_
  refine r_callV (As := []) (rest := []) (na := 0) (i := 0) C (c_X3_undo G tc l ad 98 f s hX ho (by decide)  ) gL_law_X3_undo rfl rfl rfl (by decide +kernel) ⟨Nat.le_of_ble_eq_true rfl, Nat.le_of_ble_eq_true rfl⟩ (by decide) hX.1 (show vwCl[3]? = some (RX3, TX3, 11) from rfl) rfl rfl (Nat.le_of_ble_eq_true rfl) dL_law_751 ⟨Nat.le_of_ble_eq_true rfl, Nat.le_of_ble_eq_true rfl⟩ (aft_I (fun f1 h1 => ?_))
  obtain ⟨hX1, q1⟩ := h1
  have hM1 : MI tc ad f1 s := hM.fr (fun q g1 g2 => q1 q g1)
  obtain ⟨x1, x2, x3, x4, h88⟩ := hM1.1
  refine r_aload_n C dL_law_754 rfl rfl ?_
  refine r_callV (As := []) (rest := [.int (iI (aUnd s))]) (na := 0) (i := 88) C (c_X4_undo G tc l ad 98 f1 s hM1 ho (by decide)  ) gL_law_X4_undo rfl rfl rfl (by decide +kernel) ⟨Nat.le_of_ble_eq_true rfl, Nat.le_of_ble_eq_true rfl⟩ (by decide) h88 (show vwCl[4]? = some (RX4, TX4, 15) from rfl) rfl rfl (Nat.le_of_ble_eq_true rfl) dL_law_755 ⟨Nat.le_of_ble_eq_true rfl, Nat.le_of_ble_eq_true rfl⟩ (aft_I (fun f2 h2 => ?_))
  obtain ⟨hM2, q2⟩ := h2
  refine r_same (tgt := 809) C dL_law_758 (by decide) ?_
  exact kk f2 _ (hX1.fr (fun q g => q2 q (Or.inl g))) hM2 (ok_und ho )
set_option maxHeartbeats 2000000 in
theorem kL_21 (C : CC X G tc l cL_law RL wsL_law 4 room_1) (hB : SD b L xs X) (hL : L ≤ 2048) (hi : i + 3 < L) (hX : XI tc ad f s) (hM : MI tc ad f s) (ho : okS s) (kk : ∀ f' s', XI tc ad f' s' → MI tc ad f' s' → okS s' → VV X ad 98 f' 98 14465 809 (lvL b ad i) []) : VV X ad 98 f 98 14465 763 (lvL b ad i) [] := by
  refine r_aload_n C dL_law_763 rfl rfl ?_
  refine r_arg C hB (by omega) 1 (by omega) (by decide) rfl rfl dL_law_764 dL_law_765 dL_law_766 dL_law_767 dL_law_768 ?_
  refine r_callV (As := [.int (iI (xs (i + 1)).toInt)]) (rest := []) (na := 1) (i := 0) C (c_X3_save G tc l ad 98 f s hX ho (by decide) ((xs (i + 1)).toInt) (inR_toInt _)) gL_law_X3_save rfl rfl rfl (by decide +kernel) ⟨Nat.le_of_ble_eq_true rfl, Nat.le_of_ble_eq_true rfl⟩ (by decide) hX.1 (show vwCl[3]? = some (RX3, TX3, 11) from rfl) rfl rfl (Nat.le_of_ble_eq_true rfl) dL_law_769 ⟨Nat.le_of_ble_eq_true rfl, Nat.le_of_ble_eq_true rfl⟩ (aft_I (fun f1 h1 => ?_))
  obtain ⟨hX1, q1⟩ := h1
  have hM1 : MI tc ad f1 s := hM.fr (fun q g1 g2 => q1 q g1)
  obtain ⟨x1, x2, x3, x4, h88⟩ := hM1.1
  refine r_aload_n C dL_law_772 rfl rfl ?_
  refine r_arg C hB (by omega) 1 (by omega) (by decide) rfl rfl dL_law_773 dL_law_774 dL_law_775 dL_law_776 dL_law_777 ?_
  refine r_callV (As := [.int (iI (xs (i + 1)).toInt)]) (rest := [.int (iI (aSav s ((xs (i + 1)).toInt)))]) (na := 1) (i := 88) C (c_X4_save G tc l ad 98 f1 s hM1 ho (by decide) ((xs (i + 1)).toInt) (inR_toInt _)) gL_law_X4_save rfl rfl rfl (by decide +kernel) ⟨Nat.le_of_ble_eq_true rfl, Nat.le_of_ble_eq_true rfl⟩ (by decide) h88 (show vwCl[4]? = some (RX4, TX4, 15) from rfl) rfl rfl (Nat.le_of_ble_eq_true rfl) dL_law_778 ⟨Nat.le_of_ble_eq_true rfl, Nat.le_of_ble_eq_true rfl⟩ (aft_I (fun f2 h2 => ?_))
  obtain ⟨hM2, q2⟩ := h2
  refine r_same (tgt := 809) C dL_law_781 (by decide) ?_
  exact kk f2 _ (hX1.fr (fun q g => q2 q (Or.inl g))) hM2 (ok_sav ho ((xs (i + 1)).toInt))
set_option maxHeartbeats 2000000 in
theorem kL_22 (C : CC X G tc l cL_law RL wsL_law 4 room_1) (hB : SD b L xs X) (hL : L ≤ 2048) (hi : i + 3 < L) (hX : XI tc ad f s) (hM : MI tc ad f s) (ho : okS s) (kk : ∀ f' s', XI tc ad f' s' → MI tc ad f' s' → okS s' → VV X ad 98 f' 98 14465 809 (lvL b ad i) []) : VV X ad 98 f 98 14465 786 (lvL b ad i) [] := by
  refine r_aload_n C dL_law_786 rfl rfl ?_
  refine r_arg C hB (by omega) 1 (by omega) (by decide) rfl rfl dL_law_787 dL_law_788 dL_law_789 dL_law_790 dL_law_791 ?_
  refine r_callV (As := [.int (iI (xs (i + 1)).toInt)]) (rest := []) (na := 1) (i := 0) C (c_X3_restore G tc l ad 98 f s hX ho (by decide) ((xs (i + 1)).toInt) (inR_toInt _)) gL_law_X3_restore rfl rfl rfl (by decide +kernel) ⟨Nat.le_of_ble_eq_true rfl, Nat.le_of_ble_eq_true rfl⟩ (by decide) hX.1 (show vwCl[3]? = some (RX3, TX3, 11) from rfl) rfl rfl (Nat.le_of_ble_eq_true rfl) dL_law_792 ⟨Nat.le_of_ble_eq_true rfl, Nat.le_of_ble_eq_true rfl⟩ (aft_I (fun f1 h1 => ?_))
  obtain ⟨hX1, q1⟩ := h1
  have hM1 : MI tc ad f1 s := hM.fr (fun q g1 g2 => q1 q g1)
  obtain ⟨x1, x2, x3, x4, h88⟩ := hM1.1
  refine r_aload_n C dL_law_795 rfl rfl ?_
  refine r_arg C hB (by omega) 1 (by omega) (by decide) rfl rfl dL_law_796 dL_law_797 dL_law_798 dL_law_799 dL_law_800 ?_
  refine r_callV (As := [.int (iI (xs (i + 1)).toInt)]) (rest := [.int (iI (aRes s ((xs (i + 1)).toInt)))]) (na := 1) (i := 88) C (c_X4_restore G tc l ad 98 f1 s hM1 ho (by decide) ((xs (i + 1)).toInt) (inR_toInt _)) gL_law_X4_restore rfl rfl rfl (by decide +kernel) ⟨Nat.le_of_ble_eq_true rfl, Nat.le_of_ble_eq_true rfl⟩ (by decide) h88 (show vwCl[4]? = some (RX4, TX4, 15) from rfl) rfl rfl (Nat.le_of_ble_eq_true rfl) dL_law_801 ⟨Nat.le_of_ble_eq_true rfl, Nat.le_of_ble_eq_true rfl⟩ (aft_I (fun f2 h2 => ?_))
  obtain ⟨hM2, q2⟩ := h2
  refine r_same (tgt := 809) C dL_law_804 (by decide) ?_
  exact kk f2 _ (hX1.fr (fun q g => q2 q (Or.inl g))) hM2 (ok_res ho ((xs (i + 1)).toInt))
theorem sw_L (C : CC X G tc l cL_law RL wsL_law 4 room_1) (hB : SD b L xs X) (hL : L ≤ 2048) (hi : i + 3 < L) (hX : XI tc ad f s) (hM : MI tc ad f s) (ho : okS s) {z : Int} (hz : inR z) (kk : ∀ f' s', XI tc ad f' s' → MI tc ad f' s' → okS s' → VV X ad 98 f' 98 14465 809 (lvL b ad i) []) : VV X ad 98 f 98 14465 32 (lvL b ad i) [.int (iI z)] := by
  by_cases h : z < 0 ∨ 22 < z
  · exact r_tout C hz dL_law_32 h (by decide) (kk f s hX hM ho)
  · rcases gz (z := z) (by omega) (by omega) with rfl | rfl | rfl | rfl | rfl | rfl | rfl | rfl | rfl | rfl | rfl | rfl | rfl | rfl | rfl | rfl | rfl | rfl | rfl | rfl | rfl | rfl | rfl
    · exact r_tin (off := 108) (tgt := 140) C hz dL_law_32 (by decide) (by decide) (by first | rfl | decide) (by decide) (kL_0 C hB hL hi hX hM ho kk)
    · exact r_tin (off := 141) (tgt := 173) C hz dL_law_32 (by decide) (by decide) (by first | rfl | decide) (by decide) (kL_1 C hB hL hi hX hM ho kk)
    · exact r_tin (off := 154) (tgt := 186) C hz dL_law_32 (by decide) (by decide) (by first | rfl | decide) (by decide) (kL_2 C hB hL hi hX hM ho kk)
    · exact r_tin (off := 177) (tgt := 209) C hz dL_law_32 (by decide) (by decide) (by first | rfl | decide) (by decide) (kL_3 C hB hL hi hX hM ho kk)
    · exact r_tin (off := 220) (tgt := 252) C hz dL_law_32 (by decide) (by decide) (by first | rfl | decide) (by decide) (kL_4 C hB hL hi hX hM ho kk)
    · exact r_tin (off := 243) (tgt := 275) C hz dL_law_32 (by decide) (by decide) (by first | rfl | decide) (by decide) (kL_5 C hB hL hi hX hM ho kk)
    · exact r_tin (off := 276) (tgt := 308) C hz dL_law_32 (by decide) (by decide) (by first | rfl | decide) (by decide) (kL_6 C hB hL hi hX hM ho kk)
    · exact r_tin (off := 309) (tgt := 341) C hz dL_law_32 (by decide) (by decide) (by first | rfl | decide) (by decide) (kL_7 C hB hL hi hX hM ho kk)
    · exact r_tin (off := 352) (tgt := 384) C hz dL_law_32 (by decide) (by decide) (by first | rfl | decide) (by decide) (kL_8 C hB hL hi hX hM ho kk)
    · exact r_tin (off := 375) (tgt := 407) C hz dL_law_32 (by decide) (by decide) (by first | rfl | decide) (by decide) (kL_9 C hB hL hi hX hM ho kk)
    · exact r_tin (off := 418) (tgt := 450) C hz dL_law_32 (by decide) (by decide) (by first | rfl | decide) (by decide) (kL_10 C hB hL hi hX hM ho kk)
    · exact r_tin (off := 461) (tgt := 493) C hz dL_law_32 (by decide) (by decide) (by first | rfl | decide) (by decide) (kL_11 C hB hL hi hX hM ho kk)
    · exact r_tin (off := 504) (tgt := 536) C hz dL_law_32 (by decide) (by decide) (by first | rfl | decide) (by decide) (kL_12 C hB hL hi hX hM ho kk)
    · exact r_tin (off := 537) (tgt := 569) C hz dL_law_32 (by decide) (by decide) (by first | rfl | decide) (by decide) (kL_13 C hB hL hi hX hM ho kk)
    · exact r_tin (off := 560) (tgt := 592) C hz dL_law_32 (by decide) (by decide) (by first | rfl | decide) (by decide) (kL_14 C hB hL hi hX hM ho kk)
    · exact r_tin (off := 583) (tgt := 615) C hz dL_law_32 (by decide) (by decide) (by first | rfl | decide) (by decide) (kL_15 C hB hL hi hX hM ho kk)
    · exact r_tin (off := 606) (tgt := 638) C hz dL_law_32 (by decide) (by decide) (by first | rfl | decide) (by decide) (kL_16 C hB hL hi hX hM ho kk)
    · exact r_tin (off := 639) (tgt := 671) C hz dL_law_32 (by decide) (by decide) (by first | rfl | decide) (by decide) (kL_17 C hB hL hi hX hM ho kk)
    · exact r_tin (off := 692) (tgt := 724) C hz dL_law_32 (by decide) (by decide) (by first | rfl | decide) (by decide) (kL_18 C hB hL hi hX hM ho kk)
    · exact r_tin (off := 705) (tgt := 737) C hz dL_law_32 (by decide) (by decide) (by first | rfl | decide) (by decide) (kL_19 C hB hL hi hX hM ho kk)
    · exact r_tin (off := 718) (tgt := 750) C hz dL_law_32 (by decide) (by decide) (by first | rfl | decide) (by decide) (kL_20 C hB hL hi hX hM ho kk)
    · exact r_tin (off := 731) (tgt := 763) C hz dL_law_32 (by decide) (by decide) (by first | rfl | decide) (by decide) (kL_21 C hB hL hi hX hM ho kk)
    · exact r_tin (off := 754) (tgt := 786) C hz dL_law_32 (by decide) (by decide) (by first | rfl | decide) (by decide) (kL_22 C hB hL hi hX hM ho kk)
/-- the loop: to the answer 1 -/
theorem lp_L (C : CC X G tc l cL_law RL wsL_law 4 room_1) (hB : SD b L xs X) (hL : L ≤ 2048) (fin : ∀ f' lv', VV X ad 98 f' 98 14465 816 lv' [.int (iI 1)]) : ∀ (d i : Nat) (f : Nat → va_E) (s : SG), L + 4 ≤ i + d → i ≤ L + 3 → XI tc ad f s → MI tc ad f s → okS s → VV X ad 98 f 98 14465 18 (lvL b ad i) [] := by
  intro d
  induction d with
  | zero =>
    intro i f s h1 h2
    exfalso
    omega
  | succ d ih =>
    intro i f s h1 h2 hX hM ho
    refine r_iload_n C dL_law_18 rfl rfl ?_
    refine r_aload_n C dL_law_19 rfl rfl ?_
    refine r_slen C hB dL_law_20 ?_
    refine r_iconst C (4) rfl dL_law_21 ?_
    refine r_isub C ((L : Int) - 4) rfl dL_law_22 ?_
    refine r_icmp_gt (tgt := 815) C ⟨by omega, by omega⟩ ⟨by omega, by omega⟩ dL_law_23 (by decide) (fun h => ?_) (fun h => ?_)
    · refine r_iconst C (1) rfl dL_law_815 ?_
      exact fin f _
    · refine r_aload_n C dL_law_26 rfl rfl ?_
      refine r_iload_n C dL_law_27 rfl rfl ?_
      refine r_sld C hB (by omega) i rfl (by omega) dL_law_28 ?_
      refine r_bipush C (31) rfl dL_law_29 ?_
      refine r_iand C dL_law_31 ?_
      rw [iI_of (iI (xs i).toInt &&& iI 31)]
      refine sw_L C hB hL (by omega) hX hM ho (inR_toInt _) (fun f' s' hX' hM' ho' => ?_)
      refine r_iinc (lv' := lvL b ad (i + 4)) C ((i + 4 : Nat) : Int) (by omega) dL_law_809 rfl (by decide) rfl ?_
      refine r_goto (tgt := 18) C dL_law_812 (by decide) ?_
      exact ih (i + 4) f' s' (by omega) (by omega) hX' hM' ho'
end LAW
