section XT1
def cmw (a b : WW) (kp : Nat) : Nat := min (eit a b) kp
def lcw (a b : WW) (kp : Nat) : Nat := (mg a b (cmw a b kp)).2.2
def mcw (a b : WW) (kp : Nat) : Nat := lcw a b kp + min (a.1 - (mg a b (cmw a b kp)).1) (b.1 - (mg a b (cmw a b kp)).2.1)
def tol (a b : WW) (kp : Nat) : Nat := shd (lcw a b kp) (cmw a b kp)
def tru (a b : WW) : Nat := shd (bth a b) (eit a b)
def low (a b : WW) (kp : Nat) : Nat := shd (lcw a b kp) (a.1 + b.1 - lcw a b kp)
def upp (a b : WW) (kp : Nat) : Nat := shu (mcw a b kp) (a.1 + b.1 - mcw a b kp)
def err (a b : WW) (kp : Nat) : Nat := if tru a b ≤ tol a b kp then tol a b kp - tru a b else tru a b - tol a b kp
theorem cmw_le (a b : WW) (kp : Nat) : cmw a b kp ≤ eit a b ∧ cmw a b kp ≤ kp := by
  unfold cmw
  omega
theorem eb_le {a b : WW} (ha : ∀ j, j < a.1 → a.2.1 j < 1000003) (hb : ∀ j, j < b.1 → b.2.1 j < 1000003) : bth a b ≤ a.1 ∧ bth a b ≤ b.1 ∧ eit a b + bth a b = a.1 + b.1 := by
  have h := mg_in ha hb (a.1 + b.1)
  have e : bth a b = (mg a b (a.1 + b.1)).2.2 := rfl
  unfold eit
  omega
theorem lcw_le {a b : WW} (ha : ∀ j, j < a.1 → a.2.1 j < 1000003) (hb : ∀ j, j < b.1 → b.2.1 j < 1000003) (kp : Nat) : lcw a b kp ≤ a.1 ∧ lcw a b kp ≤ b.1 ∧ lcw a b kp ≤ cmw a b kp := by
  have h := mg_in ha hb (cmw a b kp)
  have h2 := eb_le ha hb
  have h3 := cmw_le a b kp
  have e : lcw a b kp = (mg a b (cmw a b kp)).2.2 := rfl
  omega
theorem mcw_le {a b : WW} (ha : ∀ j, j < a.1 → a.2.1 j < 1000003) (hb : ∀ j, j < b.1 → b.2.1 j < 1000003) (kp : Nat) : mcw a b kp ≤ a.1 ∧ mcw a b kp ≤ b.1 := by
  have h := mg_in ha hb (cmw a b kp)
  have e : lcw a b kp = (mg a b (cmw a b kp)).2.2 := rfl
  unfold mcw
  omega
theorem shd_le {p w M : Nat} (h : p ≤ M) : shd p w ≤ M * 10000 := by
  unfold shd
  split
  · exact Nat.zero_le _
  · exact Nat.le_trans (Nat.div_le_self _ _) (Nat.mul_le_mul_right _ h)
theorem shu_le {p w M : Nat} (h : p ≤ M) (hw : w ≤ M) : shu p w ≤ M * 10000 + M := by
  unfold shu
  split
  · exact Nat.zero_le _
  · exact Nat.le_trans (Nat.div_le_self _ _) (by have := Nat.mul_le_mul_right 10000 h; omega)
theorem tol_le {a b : WW} (ha64 : a.1 ≤ 64) (ha : ∀ j, j < a.1 → a.2.1 j < 1000003) (hb : ∀ j, j < b.1 → b.2.1 j < 1000003) (kp : Nat) : tol a b kp ≤ 640000 :=
  shd_le (M := 64) (by have := lcw_le ha hb kp; omega)
theorem tru_le {a b : WW} (ha64 : a.1 ≤ 64) (hb64 : b.1 ≤ 64) (ha : ∀ j, j < a.1 → a.2.1 j < 1000003) (hb : ∀ j, j < b.1 → b.2.1 j < 1000003) : tru a b ≤ 640000 :=
  shd_le (M := 64) (by have := eb_le ha hb; omega)
theorem low_le {a b : WW} (ha64 : a.1 ≤ 64) (ha : ∀ j, j < a.1 → a.2.1 j < 1000003) (hb : ∀ j, j < b.1 → b.2.1 j < 1000003) (kp : Nat) : low a b kp ≤ 640000 :=
  shd_le (M := 64) (by have := lcw_le ha hb kp; omega)
theorem upp_le {a b : WW} (ha64 : a.1 ≤ 64) (hb64 : b.1 ≤ 64) (ha : ∀ j, j < a.1 → a.2.1 j < 1000003) (hb : ∀ j, j < b.1 → b.2.1 j < 1000003) (kp : Nat) : upp a b kp ≤ 1280128 :=
  shu_le (M := 128) (by have := mcw_le ha hb kp; omega) (by omega)
theorem err_abs (a b : WW) (kp : Nat) : (if 0 ≤ ((tol a b kp : Nat) : Int) - ((tru a b : Nat) : Int) then ((tol a b kp : Nat) : Int) - ((tru a b : Nat) : Int) else -(((tol a b kp : Nat) : Int) - ((tru a b : Nat) : Int))) = ((err a b kp : Nat) : Int) := by
  unfold err
  by_cases h : tru a b ≤ tol a b kp
  · rw [if_pos (by omega), if_pos h]; omega
  · rw [if_neg (by omega), if_neg h]; omega
theorem err_le {a b : WW} (ha64 : a.1 ≤ 64) (hb64 : b.1 ≤ 64) (ha : ∀ j, j < a.1 → a.2.1 j < 1000003) (hb : ∀ j, j < b.1 → b.2.1 j < 1000003) (kp : Nat) : err a b kp ≤ 640000 := by
  have h1 := tol_le ha64 ha hb kp
  have h2 := tru_le ha64 hb64 ha hb
  unfold err
  split <;> omega
theorem XI_pr {tc : Nat → ClassId} {ad : Nat → Nat} {f f' : Nat → va_E} {s : SG} {a b : WW} (hX : XI tc ad f s) (hp : isPr tc ad f' a b) (hfr : ∀ q, (q < 83 ∨ 87 ≤ q) → f' q = f q) : XI tc ad f' s := by
  obtain ⟨h0, hs, jH, jS, j40, jW, jP, jD⟩ := hX
  exact ⟨(hfr _ (by omega)).trans h0, hs.fr (fun q _ _ => hfr q (by omega)), jH.fr (fun q _ _ => hfr q (by omega)), jS.fr (fun q _ _ => hfr q (by omega)), j40.fr (hfr _ (by omega)), jW.fr (fun q _ _ => hfr q (by omega)), hp.iPr, jD.fr (hfr _ (by omega))⟩
def aTld (s : SG) (z y w : Int) : Int := if isR s z ∧ isR s y then (if w = 0 then ((cmw (wds (cur s) z.toNat) (wds (cur s) y.toNat) ((cur s).1 1) : Nat) : Int) else if w = 1 then ((lcw (wds (cur s) z.toNat) (wds (cur s) y.toNat) ((cur s).1 1) : Nat) : Int) else if w = 2 then ((tol (wds (cur s) z.toNat) (wds (cur s) y.toNat) ((cur s).1 1) : Nat) : Int) else if w = 3 then ((low (wds (cur s) z.toNat) (wds (cur s) y.toNat) ((cur s).1 1) : Nat) : Int) else if w = 4 then ((upp (wds (cur s) z.toNat) (wds (cur s) y.toNat) ((cur s).1 1) : Nat) : Int) else -2) else -1
def aExa (s : SG) (z y w : Int) : Int := if isR s z ∧ isR s y then (if w = 0 then ((eit (wds (cur s) z.toNat) (wds (cur s) y.toNat) : Nat) : Int) else if w = 1 then ((bth (wds (cur s) z.toNat) (wds (cur s) y.toNat) : Nat) : Int) else if w = 2 then ((tru (wds (cur s) z.toNat) (wds (cur s) y.toNat) : Nat) : Int) else -2) else -1
def aIns (s : SG) (z y w : Int) : Int := if isR s z ∧ isR s y then (if w = 0 then ((shd (bth (wds (cur s) z.toNat) (wds (cur s) y.toNat)) (wds (cur s) z.toNat).1 : Nat) : Int) else if w = 1 then ((shd (lcw (wds (cur s) z.toNat) (wds (cur s) y.toNat) ((cur s).1 1)) (wds (cur s) z.toNat).1 : Nat) : Int) else if w = 2 then ((shu (mcw (wds (cur s) z.toNat) (wds (cur s) y.toNat) ((cur s).1 1)) (wds (cur s) z.toNat).1 : Nat) : Int) else -2) else -1
set_option maxHeartbeats 4000000 in
set_option maxRecDepth 100000 in
/-- commonWords(kp) -/
theorem c_X0_commonWords (G : va_G) (tc : Nat → ClassId) (l : Launch) (ad : Nat → Nat) (N : Nat) (f : Nat → va_E) (a b : WW) (ha64 : a.1 ≤ 64) (hb64 : b.1 ≤ 64) (ha : ∀ j, j < a.1 → a.2.1 j < 1000003) (hb : ∀ j, j < b.1 → b.2.1 j < 1000003) (hN : 98 ≤ N) (hp : isPr tc ad f a b) (kp : Nat) (hk1 : 1 ≤ kp) (hk2 : kp ≤ 32)   : Ct G tc l yX0_commonWords wsX0_commonWords { frames := 1, cells := 0, slots := 0, locals := 20 } 0 0 [.ref (ad (83)), .int (iI ((kp : Nat) : Int))] ad N f (poI ad N (((cmw a b kp : Nat) : Int)) (fun f' => f' = f)) := by
  obtain ⟨d1, d2, d3, p0, p1, p2, p3, hd⟩ := id hp
  have hc := cmw_le a b kp
  have he := eb_le ha hb
  have hl := lcw_le ha hb kp
  have hm := mcw_le ha hb kp
  refine stI (cc := cX0_commonWords) (maxL := 2) (lv := [(0, .ref (ad (83))), (1, .int (iI ((kp : Nat) : Int)))]) (by decide) rfl (Nat.le_of_ble_eq_true rfl) rfl (fun X C hret => ?_)
  have m0 : Cond.fieldLink RX0 28 "WordSamples$Pair" "inEither" "I" ∈ wsX0_commonWords := by decide +kernel
  have m1 : ∀ w ∈ wsX00, w ∈ wsX0_commonWords := by decide +kernel
  have m2 : Cond.methodLink RX0 44 Lib.Math.min.name ∈ wsX0_commonWords := by decide +kernel
  have m3 : Cond.static Lib.Math.min.name ∈ wsX0_commonWords := by decide +kernel
  have m4 : Cond.initialized "java/lang/Math" ∈ wsX0_commonWords := by decide +kernel
  have m5 : Cond.code Lib.Math.min.name Lib.Math.min.code 2 (some .int) ∈ wsX0_commonWords := by decide +kernel
  have m6 : Cond.methodLink RX0 50 Lib.Math.max.name ∈ wsX0_commonWords := by decide +kernel
  have m7 : Cond.static Lib.Math.max.name ∈ wsX0_commonWords := by decide +kernel
  have m8 : Cond.code Lib.Math.max.name Lib.Math.max.code 2 (some .int) ∈ wsX0_commonWords := by decide +kernel
  refine r_aload_n C dX0_commonWords_0 rfl rfl ?_
  refine r_get (v := .int (iI ((eit a b : Nat) : Int))) C (by omega) p0 (show vwCl[0]? = some (RX0, TX0, 7) from rfl) m1 5 (by decide) m0 rfl rfl dX0_commonWords_1 ?_
  refine r_iconst C ((0 : Nat) : Int) (by decide) dX0_commonWords_4 ?_
  refine r_iload_n C dX0_commonWords_5 rfl rfl ?_
  refine r_bipush C ((32 : Nat) : Int) (by decide) dX0_commonWords_6 ?_
  refine r_min C ⟨m2, m3, m4, m5⟩ (Nat.le_of_ble_eq_true rfl) (Nat.le_of_ble_eq_true rfl) ⟨Nat.le_of_ble_eq_true rfl, Nat.le_of_ble_eq_true rfl⟩ ⟨by omega, by omega⟩ ⟨by omega, by omega⟩ dX0_commonWords_8 ?_
  rw [show (.int (iI (min ((kp : Nat) : Int) ((32 : Nat) : Int))) : Value) = .int (iI ((kp : Nat) : Int)) from by rw [show min _ _ = ((kp : Nat) : Int) from by omega]]
  refine r_max C ⟨m6, m7, m4, m8⟩ (Nat.le_of_ble_eq_true rfl) (Nat.le_of_ble_eq_true rfl) ⟨Nat.le_of_ble_eq_true rfl, Nat.le_of_ble_eq_true rfl⟩ ⟨by omega, by omega⟩ ⟨by omega, by omega⟩ dX0_commonWords_11 ?_
  rw [show (.int (iI (max ((0 : Nat) : Int) ((kp : Nat) : Int))) : Value) = .int (iI ((kp : Nat) : Int)) from by rw [show max _ _ = ((kp : Nat) : Int) from by omega]]
  refine r_min C ⟨m2, m3, m4, m5⟩ (Nat.le_of_ble_eq_true rfl) (Nat.le_of_ble_eq_true rfl) ⟨Nat.le_of_ble_eq_true rfl, Nat.le_of_ble_eq_true rfl⟩ ⟨by omega, by omega⟩ ⟨by omega, by omega⟩ dX0_commonWords_14 ?_
  rw [show (.int (iI (min ((eit a b : Nat) : Int) ((kp : Nat) : Int))) : Value) = .int (iI ((cmw a b kp : Nat) : Int)) from by rw [show min _ _ = ((cmw a b kp : Nat) : Int) from by unfold cmw; omega]]
  exact hret f ((cmw a b kp : Nat) : Int) _ _ dX0_commonWords_17 rfl rfl
set_option maxHeartbeats 4000000 in
set_option maxRecDepth 100000 in
/-- leastCommon(kp) -/
theorem c_X0_leastCommon (G : va_G) (tc : Nat → ClassId) (l : Launch) (ad : Nat → Nat) (N : Nat) (f : Nat → va_E) (a b : WW) (ha64 : a.1 ≤ 64) (hb64 : b.1 ≤ 64) (ha : ∀ j, j < a.1 → a.2.1 j < 1000003) (hb : ∀ j, j < b.1 → b.2.1 j < 1000003) (hN : 98 ≤ N) (hp : isPr tc ad f a b) (kp : Nat) (hk1 : 1 ≤ kp) (hk2 : kp ≤ 32)   : Ct G tc l yX0_leastCommon wsX0_leastCommon { frames := 2, cells := 0, slots := 0, locals := 41 } 0 0 [.ref (ad (83)), .int (iI ((kp : Nat) : Int))] ad N f (poI ad N (((lcw a b kp : Nat) : Int)) (fun f' => f' = f)) := by
  obtain ⟨d1, d2, d3, p0, p1, p2, p3, hd⟩ := id hp
  have hc := cmw_le a b kp
  have he := eb_le ha hb
  have hl := lcw_le ha hb kp
  have hm := mcw_le ha hb kp
  refine stI (cc := cX0_leastCommon) (maxL := 2) (lv := [(0, .ref (ad (83))), (1, .int (iI ((kp : Nat) : Int)))]) (by decide) rfl (Nat.le_of_ble_eq_true rfl) rfl (fun X C hret => ?_)
  have m0 : Cond.fieldLink RX0 9 "WordSamples$Pair" "bothAmong" "[I" ∈ wsX0_leastCommon := by decide +kernel
  have m1 : ∀ w ∈ wsX00, w ∈ wsX0_leastCommon := by decide +kernel
  refine r_aload_n C dX0_leastCommon_0 rfl rfl ?_
  refine r_get (v := .ref (ad (84))) C (by omega) p0 (show vwCl[0]? = some (RX0, TX0, 7) from rfl) m1 0 (by decide) m0 rfl rfl dX0_leastCommon_1 ?_
  refine r_aload_n C dX0_leastCommon_4 rfl rfl ?_
  refine r_iload_n C dX0_leastCommon_5 rfl rfl ?_
  refine r_callV (As := [.int (iI ((kp : Nat) : Int))]) (rest := [.ref (ad (84))]) (na := 1) C (c_X0_commonWords G tc l ad N _ a b ha64 hb64 ha hb hN hp kp hk1 hk2) gX0_leastCommon_X0_commonWords rfl rfl rfl (by decide +kernel) ⟨Nat.le_of_ble_eq_true rfl, Nat.le_of_ble_eq_true rfl⟩ (by omega) p0 (show vwCl[0]? = some (RX0, TX0, 7) from rfl) rfl rfl (Nat.le_of_ble_eq_true rfl) dX0_leastCommon_6 ⟨Nat.le_of_ble_eq_true rfl, Nat.le_of_ble_eq_true rfl⟩ (aft_I (fun f1 hF2 => ?_))
  rw [hF2]
  refine r_iald (x := (iI ((lcw a b kp : Nat) : Int))) C (by omega) p1 (cmw a b kp) rfl (by omega) (Nat.le_of_ble_eq_true rfl) ((hd _ (by omega) (by omega)).1) dX0_leastCommon_9 ?_
  exact hret f ((lcw a b kp : Nat) : Int) _ _ dX0_leastCommon_10 rfl rfl
set_option maxHeartbeats 4000000 in
set_option maxRecDepth 100000 in
/-- mostCommon(kp) -/
theorem c_X0_mostCommon (G : va_G) (tc : Nat → ClassId) (l : Launch) (ad : Nat → Nat) (N : Nat) (f : Nat → va_E) (a b : WW) (ha64 : a.1 ≤ 64) (hb64 : b.1 ≤ 64) (ha : ∀ j, j < a.1 → a.2.1 j < 1000003) (hb : ∀ j, j < b.1 → b.2.1 j < 1000003) (hN : 98 ≤ N) (hp : isPr tc ad f a b) (kp : Nat) (hk1 : 1 ≤ kp) (hk2 : kp ≤ 32)   : Ct G tc l yX0_mostCommon wsX0_mostCommon { frames := 2, cells := 0, slots := 0, locals := 41 } 0 0 [.ref (ad (83)), .int (iI ((kp : Nat) : Int))] ad N f (poI ad N (((mcw a b kp : Nat) : Int)) (fun f' => f' = f)) := by
  obtain ⟨d1, d2, d3, p0, p1, p2, p3, hd⟩ := id hp
  have hc := cmw_le a b kp
  have he := eb_le ha hb
  have hl := lcw_le ha hb kp
  have hm := mcw_le ha hb kp
  refine stI (cc := cX0_mostCommon) (maxL := 5) (lv := [(0, .ref (ad (83))), (1, .int (iI ((kp : Nat) : Int)))]) (by decide) rfl (Nat.le_of_ble_eq_true rfl) rfl (fun X C hret => ?_)
  have m0 : Cond.fieldLink RX0 21 "WordSamples$Pair" "firstWords" "I" ∈ wsX0_mostCommon := by decide +kernel
  have m1 : ∀ w ∈ wsX00, w ∈ wsX0_mostCommon := by decide +kernel
  have m2 : Cond.fieldLink RX0 15 "WordSamples$Pair" "firstAmong" "[I" ∈ wsX0_mostCommon := by decide +kernel
  have m3 : Cond.fieldLink RX0 25 "WordSamples$Pair" "secondWords" "I" ∈ wsX0_mostCommon := by decide +kernel
  have m4 : Cond.fieldLink RX0 18 "WordSamples$Pair" "secondAmong" "[I" ∈ wsX0_mostCommon := by decide +kernel
  have m5 : Cond.fieldLink RX0 9 "WordSamples$Pair" "bothAmong" "[I" ∈ wsX0_mostCommon := by decide +kernel
  have m6 : Cond.methodLink RX0 44 Lib.Math.min.name ∈ wsX0_mostCommon := by decide +kernel
  have m7 : Cond.static Lib.Math.min.name ∈ wsX0_mostCommon := by decide +kernel
  have m8 : Cond.initialized "java/lang/Math" ∈ wsX0_mostCommon := by decide +kernel
  have m9 : Cond.code Lib.Math.min.name Lib.Math.min.code 2 (some .int) ∈ wsX0_mostCommon := by decide +kernel
  refine r_aload_n C dX0_mostCommon_0 rfl rfl ?_
  refine r_iload_n C dX0_mostCommon_1 rfl rfl ?_
  refine r_callV (As := [.int (iI ((kp : Nat) : Int))]) (rest := []) (na := 1) C (c_X0_commonWords G tc l ad N _ a b ha64 hb64 ha hb hN hp kp hk1 hk2) gX0_mostCommon_X0_commonWords rfl rfl rfl (by decide +kernel) ⟨Nat.le_of_ble_eq_true rfl, Nat.le_of_ble_eq_true rfl⟩ (by omega) p0 (show vwCl[0]? = some (RX0, TX0, 7) from rfl) rfl rfl (Nat.le_of_ble_eq_true rfl) dX0_mostCommon_2 ⟨Nat.le_of_ble_eq_true rfl, Nat.le_of_ble_eq_true rfl⟩ (aft_I (fun f1 hF2 => ?_))
  rw [hF2]
  refine r_istore_n (lv' := [(0, .ref (ad (83))), (1, .int (iI ((kp : Nat) : Int))), (2, .int (iI ((cmw a b kp : Nat) : Int)))]) C dX0_mostCommon_5 rfl (by decide) rfl ?_
  have hmi := mg_in ha hb (cmw a b kp)
  refine r_aload_n C dX0_mostCommon_6 rfl rfl ?_
  refine r_get (v := .int (iI ((a.1 : Nat) : Int))) C (by omega) p0 (show vwCl[0]? = some (RX0, TX0, 7) from rfl) m1 3 (by decide) m0 rfl rfl dX0_mostCommon_7 ?_
  refine r_aload_n C dX0_mostCommon_10 rfl rfl ?_
  refine r_get (v := .ref (ad (85))) C (by omega) p0 (show vwCl[0]? = some (RX0, TX0, 7) from rfl) m1 1 (by decide) m2 rfl rfl dX0_mostCommon_11 ?_
  refine r_iload_n C dX0_mostCommon_14 rfl rfl ?_
  refine r_iald (x := (iI (((mg a b (cmw a b kp)).1 : Nat) : Int))) C (by omega) p2 (cmw a b kp) rfl (by omega) (Nat.le_of_ble_eq_true rfl) ((hd _ (by omega) (by omega)).2.1) dX0_mostCommon_15 ?_
  refine r_isub C ((a.1 - (mg a b (cmw a b kp)).1 : Nat) : Int) (by omega) dX0_mostCommon_16 ?_
  refine r_istore_n (lv' := [(0, .ref (ad (83))), (1, .int (iI ((kp : Nat) : Int))), (2, .int (iI ((cmw a b kp : Nat) : Int))), (3, .int (iI ((a.1 - (mg a b (cmw a b kp)).1 : Nat) : Int)))]) C dX0_mostCommon_17 rfl (by decide) rfl ?_
  refine r_aload_n C dX0_mostCommon_18 rfl rfl ?_
  refine r_get (v := .int (iI ((b.1 : Nat) : Int))) C (by omega) p0 (show vwCl[0]? = some (RX0, TX0, 7) from rfl) m1 4 (by decide) m3 rfl rfl dX0_mostCommon_19 ?_
  refine r_aload_n C dX0_mostCommon_22 rfl rfl ?_
  refine r_get (v := .ref (ad (86))) C (by omega) p0 (show vwCl[0]? = some (RX0, TX0, 7) from rfl) m1 2 (by decide) m4 rfl rfl dX0_mostCommon_23 ?_
  refine r_iload_n C dX0_mostCommon_26 rfl rfl ?_
  refine r_iald (x := (iI (((mg a b (cmw a b kp)).2.1 : Nat) : Int))) C (by omega) p3 (cmw a b kp) rfl (by omega) (Nat.le_of_ble_eq_true rfl) ((hd _ (by omega) (by omega)).2.2) dX0_mostCommon_27 ?_
  refine r_isub C ((b.1 - (mg a b (cmw a b kp)).2.1 : Nat) : Int) (by omega) dX0_mostCommon_28 ?_
  refine r_istore (lv' := [(0, .ref (ad (83))), (1, .int (iI ((kp : Nat) : Int))), (2, .int (iI ((cmw a b kp : Nat) : Int))), (3, .int (iI ((a.1 - (mg a b (cmw a b kp)).1 : Nat) : Int))), (4, .int (iI ((b.1 - (mg a b (cmw a b kp)).2.1 : Nat) : Int)))]) C dX0_mostCommon_29 (by decide) rfl ?_
  refine r_aload_n C dX0_mostCommon_31 rfl rfl ?_
  refine r_get (v := .ref (ad (84))) C (by omega) p0 (show vwCl[0]? = some (RX0, TX0, 7) from rfl) m1 0 (by decide) m5 rfl rfl dX0_mostCommon_32 ?_
  refine r_iload_n C dX0_mostCommon_35 rfl rfl ?_
  refine r_iald (x := (iI ((lcw a b kp : Nat) : Int))) C (by omega) p1 (cmw a b kp) rfl (by omega) (Nat.le_of_ble_eq_true rfl) ((hd _ (by omega) (by omega)).1) dX0_mostCommon_36 ?_
  refine r_iload_n C dX0_mostCommon_37 rfl rfl ?_
  refine r_iload C dX0_mostCommon_38 rfl ?_
  refine r_min C ⟨m6, m7, m8, m9⟩ (Nat.le_of_ble_eq_true rfl) (Nat.le_of_ble_eq_true rfl) ⟨Nat.le_of_ble_eq_true rfl, Nat.le_of_ble_eq_true rfl⟩ ⟨by omega, by omega⟩ ⟨by omega, by omega⟩ dX0_mostCommon_40 ?_
  rw [show (.int (iI (min ((a.1 - (mg a b (cmw a b kp)).1 : Nat) : Int) ((b.1 - (mg a b (cmw a b kp)).2.1 : Nat) : Int))) : Value) = .int (iI ((min (a.1 - (mg a b (cmw a b kp)).1) (b.1 - (mg a b (cmw a b kp)).2.1) : Nat) : Int)) from by rw [show min _ _ = ((min (a.1 - (mg a b (cmw a b kp)).1) (b.1 - (mg a b (cmw a b kp)).2.1) : Nat) : Int) from by omega]]
  refine r_iadd C ((lcw a b kp + (min (a.1 - (mg a b (cmw a b kp)).1) (b.1 - (mg a b (cmw a b kp)).2.1)) : Nat) : Int) (by omega) dX0_mostCommon_43 ?_
  exact hret f ((lcw a b kp + (min (a.1 - (mg a b (cmw a b kp)).1) (b.1 - (mg a b (cmw a b kp)).2.1)) : Nat) : Int) _ _ dX0_mostCommon_44 rfl rfl
set_option maxHeartbeats 4000000 in
set_option maxRecDepth 100000 in
/-- toldShare(kp) -/
theorem c_X0_toldShare (G : va_G) (tc : Nat → ClassId) (l : Launch) (ad : Nat → Nat) (N : Nat) (f : Nat → va_E) (a b : WW) (ha64 : a.1 ≤ 64) (hb64 : b.1 ≤ 64) (ha : ∀ j, j < a.1 → a.2.1 j < 1000003) (hb : ∀ j, j < b.1 → b.2.1 j < 1000003) (hN : 98 ≤ N) (hp : isPr tc ad f a b) (kp : Nat) (hk1 : 1 ≤ kp) (hk2 : kp ≤ 32)   : Ct G tc l yX0_toldShare wsX0_toldShare { frames := 3, cells := 0, slots := 0, locals := 62 } 0 0 [.ref (ad (83)), .int (iI ((kp : Nat) : Int))] ad N f (poI ad N (((tol a b kp : Nat) : Int)) (fun f' => f' = f)) := by
  obtain ⟨d1, d2, d3, p0, p1, p2, p3, hd⟩ := id hp
  have hc := cmw_le a b kp
  have he := eb_le ha hb
  have hl := lcw_le ha hb kp
  have hm := mcw_le ha hb kp
  refine stI (cc := cX0_toldShare) (maxL := 2) (lv := [(0, .ref (ad (83))), (1, .int (iI ((kp : Nat) : Int)))]) (by decide) rfl (Nat.le_of_ble_eq_true rfl) rfl (fun X C hret => ?_)
  have m0 : Cond.initialized RX3 ∈ wsX0_toldShare := by decide +kernel
  have m1 : Cond.static yX3_shareDown ∈ wsX0_toldShare := by decide +kernel
  refine r_aload_n C dX0_toldShare_0 rfl rfl ?_
  refine r_iload_n C dX0_toldShare_1 rfl rfl ?_
  refine r_callV (As := [.int (iI ((kp : Nat) : Int))]) (rest := []) (na := 1) C (c_X0_leastCommon G tc l ad N _ a b ha64 hb64 ha hb hN hp kp hk1 hk2) gX0_toldShare_X0_leastCommon rfl rfl rfl (by decide +kernel) ⟨Nat.le_of_ble_eq_true rfl, Nat.le_of_ble_eq_true rfl⟩ (by omega) p0 (show vwCl[0]? = some (RX0, TX0, 7) from rfl) rfl rfl (Nat.le_of_ble_eq_true rfl) dX0_toldShare_2 ⟨Nat.le_of_ble_eq_true rfl, Nat.le_of_ble_eq_true rfl⟩ (aft_I (fun f1 hF2 => ?_))
  rw [hF2]
  refine r_aload_n C dX0_toldShare_5 rfl rfl ?_
  refine r_iload_n C dX0_toldShare_6 rfl rfl ?_
  refine r_callV (As := [.int (iI ((kp : Nat) : Int))]) (rest := [.int (iI ((lcw a b kp : Nat) : Int))]) (na := 1) C (c_X0_commonWords G tc l ad N _ a b ha64 hb64 ha hb hN hp kp hk1 hk2) gX0_toldShare_X0_commonWords rfl rfl rfl (by decide +kernel) ⟨Nat.le_of_ble_eq_true rfl, Nat.le_of_ble_eq_true rfl⟩ (by omega) p0 (show vwCl[0]? = some (RX0, TX0, 7) from rfl) rfl rfl (Nat.le_of_ble_eq_true rfl) dX0_toldShare_7 ⟨Nat.le_of_ble_eq_true rfl, Nat.le_of_ble_eq_true rfl⟩ (aft_I (fun f3 hF4 => ?_))
  rw [hF4]
  refine r_callSN (As := [.int (iI ((lcw a b kp : Nat) : Int)), .int (iI ((cmw a b kp : Nat) : Int))]) (rest := []) (na := 2) C (c_X3_shareDown G tc l ad N _ (lcw a b kp) (cmw a b kp) (by omega) (by omega)) gX0_toldShare_X3_shareDown_n59 rfl rfl rfl C.2.2.2.1.2.1 m0 m1 (by decide +kernel) ⟨Nat.le_of_ble_eq_true rfl, Nat.le_of_ble_eq_true rfl⟩ rfl rfl (Nat.le_of_ble_eq_true rfl) dX0_toldShare_10 ⟨Nat.le_of_ble_eq_true rfl, Nat.le_of_ble_eq_true rfl⟩ (aft_I (fun f5 hF6 => ?_))
  rw [hF6]
  exact hret f ((shd (lcw a b kp) (cmw a b kp) : Nat) : Int) _ _ dX0_toldShare_13 rfl rfl
set_option maxHeartbeats 4000000 in
set_option maxRecDepth 100000 in
/-- trueShare() -/
theorem c_X0_trueShare (G : va_G) (tc : Nat → ClassId) (l : Launch) (ad : Nat → Nat) (N : Nat) (f : Nat → va_E) (a b : WW) (ha64 : a.1 ≤ 64) (hb64 : b.1 ≤ 64) (ha : ∀ j, j < a.1 → a.2.1 j < 1000003) (hb : ∀ j, j < b.1 → b.2.1 j < 1000003) (hN : 98 ≤ N) (hp : isPr tc ad f a b)   : Ct G tc l yX0_trueShare wsX0_trueShare { frames := 1, cells := 0, slots := 0, locals := 21 } 0 0 [.ref (ad (83))] ad N f (poI ad N (((tru a b : Nat) : Int)) (fun f' => f' = f)) := by
  obtain ⟨d1, d2, d3, p0, p1, p2, p3, hd⟩ := id hp
  have he := eb_le ha hb
  refine stI (cc := cX0_trueShare) (maxL := 1) (lv := [(0, .ref (ad (83)))]) (by decide) rfl (Nat.le_of_ble_eq_true rfl) rfl (fun X C hret => ?_)
  have m0 : Cond.fieldLink RX0 31 "WordSamples$Pair" "inBoth" "I" ∈ wsX0_trueShare := by decide +kernel
  have m1 : ∀ w ∈ wsX00, w ∈ wsX0_trueShare := by decide +kernel
  have m2 : Cond.fieldLink RX0 28 "WordSamples$Pair" "inEither" "I" ∈ wsX0_trueShare := by decide +kernel
  have m3 : Cond.initialized RX3 ∈ wsX0_trueShare := by decide +kernel
  have m4 : Cond.static yX3_shareDown ∈ wsX0_trueShare := by decide +kernel
  refine r_aload_n C dX0_trueShare_0 rfl rfl ?_
  refine r_get (v := .int (iI ((bth a b : Nat) : Int))) C (by omega) p0 (show vwCl[0]? = some (RX0, TX0, 7) from rfl) m1 6 (by decide) m0 rfl rfl dX0_trueShare_1 ?_
  refine r_aload_n C dX0_trueShare_4 rfl rfl ?_
  refine r_get (v := .int (iI ((eit a b : Nat) : Int))) C (by omega) p0 (show vwCl[0]? = some (RX0, TX0, 7) from rfl) m1 5 (by decide) m2 rfl rfl dX0_trueShare_5 ?_
  refine r_callSN (As := [.int (iI ((bth a b : Nat) : Int)), .int (iI ((eit a b : Nat) : Int))]) (rest := []) (na := 2) C (c_X3_shareDown G tc l ad N _ (bth a b) (eit a b) (by omega) (by omega)) gX0_trueShare_X3_shareDown_n59 rfl rfl rfl C.2.2.2.1.2.1 m3 m4 (by decide +kernel) ⟨Nat.le_of_ble_eq_true rfl, Nat.le_of_ble_eq_true rfl⟩ rfl rfl (Nat.le_of_ble_eq_true rfl) dX0_trueShare_8 ⟨Nat.le_of_ble_eq_true rfl, Nat.le_of_ble_eq_true rfl⟩ (aft_I (fun f1 hF2 => ?_))
  rw [hF2]
  exact hret f ((shd (bth a b) (eit a b) : Nat) : Int) _ _ dX0_trueShare_11 rfl rfl
set_option maxHeartbeats 4000000 in
set_option maxRecDepth 100000 in
/-- lowerBound(kp) -/
theorem c_X0_lowerBound (G : va_G) (tc : Nat → ClassId) (l : Launch) (ad : Nat → Nat) (N : Nat) (f : Nat → va_E) (a b : WW) (ha64 : a.1 ≤ 64) (hb64 : b.1 ≤ 64) (ha : ∀ j, j < a.1 → a.2.1 j < 1000003) (hb : ∀ j, j < b.1 → b.2.1 j < 1000003) (hN : 98 ≤ N) (hp : isPr tc ad f a b) (kp : Nat) (hk1 : 1 ≤ kp) (hk2 : kp ≤ 32)   : Ct G tc l yX0_lowerBound wsX0_lowerBound { frames := 3, cells := 0, slots := 0, locals := 62 } 0 0 [.ref (ad (83)), .int (iI ((kp : Nat) : Int))] ad N f (poI ad N (((low a b kp : Nat) : Int)) (fun f' => f' = f)) := by
  obtain ⟨d1, d2, d3, p0, p1, p2, p3, hd⟩ := id hp
  have hc := cmw_le a b kp
  have he := eb_le ha hb
  have hl := lcw_le ha hb kp
  have hm := mcw_le ha hb kp
  refine stI (cc := cX0_lowerBound) (maxL := 3) (lv := [(0, .ref (ad (83))), (1, .int (iI ((kp : Nat) : Int)))]) (by decide) rfl (Nat.le_of_ble_eq_true rfl) rfl (fun X C hret => ?_)
  have m0 : Cond.fieldLink RX0 21 "WordSamples$Pair" "firstWords" "I" ∈ wsX0_lowerBound := by decide +kernel
  have m1 : ∀ w ∈ wsX00, w ∈ wsX0_lowerBound := by decide +kernel
  have m2 : Cond.fieldLink RX0 25 "WordSamples$Pair" "secondWords" "I" ∈ wsX0_lowerBound := by decide +kernel
  have m3 : Cond.initialized RX3 ∈ wsX0_lowerBound := by decide +kernel
  have m4 : Cond.static yX3_shareDown ∈ wsX0_lowerBound := by decide +kernel
  refine r_aload_n C dX0_lowerBound_0 rfl rfl ?_
  refine r_iload_n C dX0_lowerBound_1 rfl rfl ?_
  refine r_callV (As := [.int (iI ((kp : Nat) : Int))]) (rest := []) (na := 1) C (c_X0_leastCommon G tc l ad N _ a b ha64 hb64 ha hb hN hp kp hk1 hk2) gX0_lowerBound_X0_leastCommon rfl rfl rfl (by decide +kernel) ⟨Nat.le_of_ble_eq_true rfl, Nat.le_of_ble_eq_true rfl⟩ (by omega) p0 (show vwCl[0]? = some (RX0, TX0, 7) from rfl) rfl rfl (Nat.le_of_ble_eq_true rfl) dX0_lowerBound_2 ⟨Nat.le_of_ble_eq_true rfl, Nat.le_of_ble_eq_true rfl⟩ (aft_I (fun f1 hF2 => ?_))
  rw [hF2]
  refine r_istore_n (lv' := [(0, .ref (ad (83))), (1, .int (iI ((kp : Nat) : Int))), (2, .int (iI ((lcw a b kp : Nat) : Int)))]) C dX0_lowerBound_5 rfl (by decide) rfl ?_
  refine r_iload_n C dX0_lowerBound_6 rfl rfl ?_
  refine r_aload_n C dX0_lowerBound_7 rfl rfl ?_
  refine r_get (v := .int (iI ((a.1 : Nat) : Int))) C (by omega) p0 (show vwCl[0]? = some (RX0, TX0, 7) from rfl) m1 3 (by decide) m0 rfl rfl dX0_lowerBound_8 ?_
  refine r_aload_n C dX0_lowerBound_11 rfl rfl ?_
  refine r_get (v := .int (iI ((b.1 : Nat) : Int))) C (by omega) p0 (show vwCl[0]? = some (RX0, TX0, 7) from rfl) m1 4 (by decide) m2 rfl rfl dX0_lowerBound_12 ?_
  refine r_iadd C ((a.1 + b.1 : Nat) : Int) (by omega) dX0_lowerBound_15 ?_
  refine r_iload_n C dX0_lowerBound_16 rfl rfl ?_
  refine r_isub C ((a.1 + b.1 - lcw a b kp : Nat) : Int) (by omega) dX0_lowerBound_17 ?_
  refine r_callSN (As := [.int (iI ((lcw a b kp : Nat) : Int)), .int (iI ((a.1 + b.1 - lcw a b kp : Nat) : Int))]) (rest := []) (na := 2) C (c_X3_shareDown G tc l ad N _ (lcw a b kp) (a.1 + b.1 - lcw a b kp) (by omega) (by omega)) gX0_lowerBound_X3_shareDown_n59 rfl rfl rfl C.2.2.2.1.2.1 m3 m4 (by decide +kernel) ⟨Nat.le_of_ble_eq_true rfl, Nat.le_of_ble_eq_true rfl⟩ rfl rfl (Nat.le_of_ble_eq_true rfl) dX0_lowerBound_18 ⟨Nat.le_of_ble_eq_true rfl, Nat.le_of_ble_eq_true rfl⟩ (aft_I (fun f3 hF4 => ?_))
  rw [hF4]
  exact hret f ((shd (lcw a b kp) (a.1 + b.1 - lcw a b kp) : Nat) : Int) _ _ dX0_lowerBound_21 rfl rfl
set_option maxHeartbeats 4000000 in
set_option maxRecDepth 100000 in
/-- upperBound(kp) -/
theorem c_X0_upperBound (G : va_G) (tc : Nat → ClassId) (l : Launch) (ad : Nat → Nat) (N : Nat) (f : Nat → va_E) (a b : WW) (ha64 : a.1 ≤ 64) (hb64 : b.1 ≤ 64) (ha : ∀ j, j < a.1 → a.2.1 j < 1000003) (hb : ∀ j, j < b.1 → b.2.1 j < 1000003) (hN : 98 ≤ N) (hp : isPr tc ad f a b) (kp : Nat) (hk1 : 1 ≤ kp) (hk2 : kp ≤ 32)   : Ct G tc l yX0_upperBound wsX0_upperBound { frames := 3, cells := 0, slots := 0, locals := 65 } 0 0 [.ref (ad (83)), .int (iI ((kp : Nat) : Int))] ad N f (poI ad N (((upp a b kp : Nat) : Int)) (fun f' => f' = f)) := by
  obtain ⟨d1, d2, d3, p0, p1, p2, p3, hd⟩ := id hp
  have hc := cmw_le a b kp
  have he := eb_le ha hb
  have hl := lcw_le ha hb kp
  have hm := mcw_le ha hb kp
  refine stI (cc := cX0_upperBound) (maxL := 3) (lv := [(0, .ref (ad (83))), (1, .int (iI ((kp : Nat) : Int)))]) (by decide) rfl (Nat.le_of_ble_eq_true rfl) rfl (fun X C hret => ?_)
  have m0 : Cond.fieldLink RX0 21 "WordSamples$Pair" "firstWords" "I" ∈ wsX0_upperBound := by decide +kernel
  have m1 : ∀ w ∈ wsX00, w ∈ wsX0_upperBound := by decide +kernel
  have m2 : Cond.fieldLink RX0 25 "WordSamples$Pair" "secondWords" "I" ∈ wsX0_upperBound := by decide +kernel
  have m3 : Cond.initialized RX3 ∈ wsX0_upperBound := by decide +kernel
  have m4 : Cond.static yX3_shareUp ∈ wsX0_upperBound := by decide +kernel
  refine r_aload_n C dX0_upperBound_0 rfl rfl ?_
  refine r_iload_n C dX0_upperBound_1 rfl rfl ?_
  refine r_callV (As := [.int (iI ((kp : Nat) : Int))]) (rest := []) (na := 1) C (c_X0_mostCommon G tc l ad N _ a b ha64 hb64 ha hb hN hp kp hk1 hk2) gX0_upperBound_X0_mostCommon rfl rfl rfl (by decide +kernel) ⟨Nat.le_of_ble_eq_true rfl, Nat.le_of_ble_eq_true rfl⟩ (by omega) p0 (show vwCl[0]? = some (RX0, TX0, 7) from rfl) rfl rfl (Nat.le_of_ble_eq_true rfl) dX0_upperBound_2 ⟨Nat.le_of_ble_eq_true rfl, Nat.le_of_ble_eq_true rfl⟩ (aft_I (fun f1 hF2 => ?_))
  rw [hF2]
  refine r_istore_n (lv' := [(0, .ref (ad (83))), (1, .int (iI ((kp : Nat) : Int))), (2, .int (iI ((mcw a b kp : Nat) : Int)))]) C dX0_upperBound_5 rfl (by decide) rfl ?_
  refine r_iload_n C dX0_upperBound_6 rfl rfl ?_
  refine r_aload_n C dX0_upperBound_7 rfl rfl ?_
  refine r_get (v := .int (iI ((a.1 : Nat) : Int))) C (by omega) p0 (show vwCl[0]? = some (RX0, TX0, 7) from rfl) m1 3 (by decide) m0 rfl rfl dX0_upperBound_8 ?_
  refine r_aload_n C dX0_upperBound_11 rfl rfl ?_
  refine r_get (v := .int (iI ((b.1 : Nat) : Int))) C (by omega) p0 (show vwCl[0]? = some (RX0, TX0, 7) from rfl) m1 4 (by decide) m2 rfl rfl dX0_upperBound_12 ?_
  refine r_iadd C ((a.1 + b.1 : Nat) : Int) (by omega) dX0_upperBound_15 ?_
  refine r_iload_n C dX0_upperBound_16 rfl rfl ?_
  refine r_isub C ((a.1 + b.1 - mcw a b kp : Nat) : Int) (by omega) dX0_upperBound_17 ?_
  refine r_callSN (As := [.int (iI ((mcw a b kp : Nat) : Int)), .int (iI ((a.1 + b.1 - mcw a b kp : Nat) : Int))]) (rest := []) (na := 2) C (c_X3_shareUp G tc l ad N _ (mcw a b kp) (a.1 + b.1 - mcw a b kp) (by omega) (by omega)) gX0_upperBound_X3_shareUp_n65 rfl rfl rfl C.2.2.2.1.2.2.1 m3 m4 (by decide +kernel) ⟨Nat.le_of_ble_eq_true rfl, Nat.le_of_ble_eq_true rfl⟩ rfl rfl (Nat.le_of_ble_eq_true rfl) dX0_upperBound_18 ⟨Nat.le_of_ble_eq_true rfl, Nat.le_of_ble_eq_true rfl⟩ (aft_I (fun f3 hF4 => ?_))
  rw [hF4]
  exact hret f ((shu (mcw a b kp) (a.1 + b.1 - mcw a b kp) : Nat) : Int) _ _ dX0_upperBound_21 rfl rfl
set_option maxHeartbeats 4000000 in
set_option maxRecDepth 100000 in
/-- errorOfTold(kp) -/
theorem c_X0_errorOfTold (G : va_G) (tc : Nat → ClassId) (l : Launch) (ad : Nat → Nat) (N : Nat) (f : Nat → va_E) (a b : WW) (ha64 : a.1 ≤ 64) (hb64 : b.1 ≤ 64) (ha : ∀ j, j < a.1 → a.2.1 j < 1000003) (hb : ∀ j, j < b.1 → b.2.1 j < 1000003) (hN : 98 ≤ N) (hp : isPr tc ad f a b) (kp : Nat) (hk1 : 1 ≤ kp) (hk2 : kp ≤ 32)   : Ct G tc l yX0_errorOfTold wsX0_errorOfTold { frames := 4, cells := 0, slots := 0, locals := 83 } 0 0 [.ref (ad (83)), .int (iI ((kp : Nat) : Int))] ad N f (poI ad N (((err a b kp : Nat) : Int)) (fun f' => f' = f)) := by
  obtain ⟨d1, d2, d3, p0, p1, p2, p3, hd⟩ := id hp
  have hc := cmw_le a b kp
  have he := eb_le ha hb
  have hl := lcw_le ha hb kp
  have hm := mcw_le ha hb kp
  refine stI (cc := cX0_errorOfTold) (maxL := 2) (lv := [(0, .ref (ad (83))), (1, .int (iI ((kp : Nat) : Int)))]) (by decide) rfl (Nat.le_of_ble_eq_true rfl) rfl (fun X C hret => ?_)
  have m0 : Cond.methodLink RX0 75 Lib.Math.abs.name ∈ wsX0_errorOfTold := by decide +kernel
  have m1 : Cond.static Lib.Math.abs.name ∈ wsX0_errorOfTold := by decide +kernel
  have m2 : Cond.initialized "java/lang/Math" ∈ wsX0_errorOfTold := by decide +kernel
  have m3 : Cond.code Lib.Math.abs.name Lib.Math.abs.code 1 (some .int) ∈ wsX0_errorOfTold := by decide +kernel
  refine r_aload_n C dX0_errorOfTold_0 rfl rfl ?_
  refine r_iload_n C dX0_errorOfTold_1 rfl rfl ?_
  refine r_callV (As := [.int (iI ((kp : Nat) : Int))]) (rest := []) (na := 1) C (c_X0_toldShare G tc l ad N _ a b ha64 hb64 ha hb hN hp kp hk1 hk2) gX0_errorOfTold_X0_toldShare rfl rfl rfl (by decide +kernel) ⟨Nat.le_of_ble_eq_true rfl, Nat.le_of_ble_eq_true rfl⟩ (by omega) p0 (show vwCl[0]? = some (RX0, TX0, 7) from rfl) rfl rfl (Nat.le_of_ble_eq_true rfl) dX0_errorOfTold_2 ⟨Nat.le_of_ble_eq_true rfl, Nat.le_of_ble_eq_true rfl⟩ (aft_I (fun f1 hF2 => ?_))
  rw [hF2]
  refine r_aload_n C dX0_errorOfTold_5 rfl rfl ?_
  refine r_callV (As := []) (rest := [.int (iI ((tol a b kp : Nat) : Int))]) (na := 0) C (c_X0_trueShare G tc l ad N _ a b ha64 hb64 ha hb hN hp) gX0_errorOfTold_X0_trueShare rfl rfl rfl (by decide +kernel) ⟨Nat.le_of_ble_eq_true rfl, Nat.le_of_ble_eq_true rfl⟩ (by omega) p0 (show vwCl[0]? = some (RX0, TX0, 7) from rfl) rfl rfl (Nat.le_of_ble_eq_true rfl) dX0_errorOfTold_6 ⟨Nat.le_of_ble_eq_true rfl, Nat.le_of_ble_eq_true rfl⟩ (aft_I (fun f3 hF4 => ?_))
  rw [hF4]
  have ht1 := tol_le ha64 ha hb kp
  have ht2 := tru_le ha64 hb64 ha hb
  refine r_isub C (((tol a b kp : Nat) : Int) - ((tru a b : Nat) : Int)) rfl dX0_errorOfTold_9 ?_
  refine r_abs C ⟨m0, m1, m2, m3⟩ (Nat.le_of_ble_eq_true rfl) (Nat.le_of_ble_eq_true rfl) ⟨Nat.le_of_ble_eq_true rfl, Nat.le_of_ble_eq_true rfl⟩ ⟨by omega, by omega⟩ dX0_errorOfTold_10 ?_
  rw [show (.int (iI (if 0 ≤ (((tol a b kp : Nat) : Int) - ((tru a b : Nat) : Int)) then (((tol a b kp : Nat) : Int) - ((tru a b : Nat) : Int)) else -(((tol a b kp : Nat) : Int) - ((tru a b : Nat) : Int)))) : Value) = .int (iI ((err a b kp : Nat) : Int)) from by rw [err_abs a b kp]]
  exact hret f ((err a b kp : Nat) : Int) _ _ dX0_errorOfTold_13 rfl rfl
set_option maxHeartbeats 4000000 in
set_option maxRecDepth 100000 in
/-- pairOf(r1, r2) -/
theorem c_X3_pairOf (G : va_G) (tc : Nat → ClassId) (l : Launch) (ad : Nat → Nat) (N : Nat) (f : Nat → va_E) (s : SG) (hX : XI tc ad f s) (ho : okS s) (hN : 98 ≤ N) (r1 r2 : Nat) (hr1 : r1 < (cur s).2.2.2) (hr2 : r2 < (cur s).2.2.2)   : Ct G tc l yX3_pairOf wsX3_pairOf { frames := 4, cells := 0, slots := 0, locals := 94 } 0 0 [.ref (ad (0)), .int (iI ((r1 : Nat) : Int)), .int (iI ((r2 : Nat) : Int))] ad N f (poA ad N (ad (83)) (fun f' => XI tc ad f' s ∧ isPr tc ad f' (wds (cur s) r1) (wds (cur s) r2) ∧ ∀ q, 88 ≤ q → f' q = f q)) := by
  obtain ⟨h0, ⟨h1, h2, h3, h4⟩, hHis, hSlo, h40, hWds, hPr, hHd⟩ := id hX
  obtain ⟨⟨⟨a1, a2⟩, ⟨a3, a4⟩, ⟨a5, a6⟩, a7, a8, a9, a10⟩, o2, o3, o4, o5, o6⟩ := id ho
  refine stA (cc := cX3_pairOf) (maxL := 3) (lv := [(0, .ref (ad (0))), (1, .int (iI ((r1 : Nat) : Int))), (2, .int (iI ((r2 : Nat) : Int)))]) (by decide) rfl (Nat.le_of_ble_eq_true rfl) rfl (fun X C hret => ?_)
  have m0 : Cond.fieldLink RX3 50 "WordSamples" "pair" "LWordSamples$Pair;" ∈ wsX3_pairOf := by decide +kernel
  have m1 : ∀ w ∈ wsX30, w ∈ wsX3_pairOf := by decide +kernel
  refine r_aload_n C dX3_pairOf_0 rfl rfl ?_
  refine r_get (v := .ref (ad (83))) C (by omega) h0 (show vwCl[3]? = some (RX3, TX3, 11) from rfl) m1 9 (by decide) m0 rfl rfl dX3_pairOf_1 ?_
  refine r_aload_n C dX3_pairOf_4 rfl rfl ?_
  refine r_iload_n C dX3_pairOf_5 rfl rfl ?_
  refine r_callV (As := [.int (iI ((r1 : Nat) : Int))]) (rest := [.ref (ad (83))]) (na := 1) C (c_X3_wordsOf G tc l ad N _ s hX ho hN r1 (by omega)) gX3_pairOf_X3_wordsOf rfl rfl rfl (by decide +kernel) ⟨Nat.le_of_ble_eq_true rfl, Nat.le_of_ble_eq_true rfl⟩ (by omega) h0 (show vwCl[3]? = some (RX3, TX3, 11) from rfl) rfl rfl (Nat.le_of_ble_eq_true rfl) dX3_pairOf_6 ⟨Nat.le_of_ble_eq_true rfl, Nat.le_of_ble_eq_true rfl⟩ (aft_A (fun f12 hF13 => ?_))
  obtain ⟨hx1, hw2, ow3⟩ := hF13
  obtain ⟨wv4, wc5, wt6, y7, y8, y9, y10, yw11⟩ := id hw2
  refine r_aload_n C dX3_pairOf_9 rfl rfl ?_
  refine r_iload_n C dX3_pairOf_10 rfl rfl ?_
  have c27 : f12 (0) = eO 3 [.ref (ad (1)), .ref (ad (5)), .int (iI ((kno s : Nat) : Int)), .ref (ad (30)), .ref (ad (39)), .ref (ad (40)), .int (iI ((pln s : Nat) : Int)), .ref (ad (41)), .ref (ad (82)), .ref (ad (83)), .ref (ad (87))] := (ow3 _ (by omega)).trans h0
  refine r_callV (As := [.int (iI ((r2 : Nat) : Int))]) (rest := [.ref (ad (42 + 4 * r1)), .ref (ad (83))]) (na := 1) C (c_X3_wordsOf G tc l ad N _ s hx1 ho hN r2 (by omega)) gX3_pairOf_X3_wordsOf rfl rfl rfl (by decide +kernel) ⟨Nat.le_of_ble_eq_true rfl, Nat.le_of_ble_eq_true rfl⟩ (by omega) c27 (show vwCl[3]? = some (RX3, TX3, 11) from rfl) rfl rfl (Nat.le_of_ble_eq_true rfl) dX3_pairOf_11 ⟨Nat.le_of_ble_eq_true rfl, Nat.le_of_ble_eq_true rfl⟩ (aft_A (fun f25 hF26 => ?_))
  obtain ⟨hx14, hw15, ow16⟩ := hF26
  obtain ⟨wv17, wc18, wt19, y20, y21, y22, y23, yw24⟩ := id hw15
  obtain ⟨_, _, _, _, _, _, _, x28, _⟩ := id hx14.2.2.2.2.2.2.1
  have hwa : isWd tc ad f25 (42 + 4 * r1) (wds (cur s) r1) := if h : r1 = r2 then (by rw [h]; exact hw15) else hw2.fr (fun q g1 g2 => ow16 _ (by omega))
  refine r_callV (As := [.ref (ad (42 + 4 * r1)), .ref (ad (42 + 4 * r2))]) (rest := []) (na := 2) C (c_X0_measure G tc l ad N _ (wds (cur s) r1) (wds (cur s) r2) (wds_le ho.1 (by omega)) (wds_le ho.1 (by omega)) (wds_lt _ _) (wds_lt _ _) (42 + 4 * r1) (42 + 4 * r2) hN (by omega) (by omega) hwa hw15 hx14.2.2.2.2.2.2.1) gX3_pairOf_X0_measure rfl rfl rfl (by decide +kernel) ⟨Nat.le_of_ble_eq_true rfl, Nat.le_of_ble_eq_true rfl⟩ (by omega) x28 (show vwCl[0]? = some (RX0, TX0, 7) from rfl) rfl rfl (Nat.le_of_ble_eq_true rfl) dX3_pairOf_14 ⟨Nat.le_of_ble_eq_true rfl, Nat.le_of_ble_eq_true rfl⟩ (aft_V (fun f29 hF30 => ?_))
  obtain ⟨hpm, hoM⟩ := hF30
  have hxm := XI_pr hx14 hpm hoM
  refine r_aload_n C dX3_pairOf_17 rfl rfl ?_
  have c31 : f25 (0) = eO 3 [.ref (ad (1)), .ref (ad (5)), .int (iI ((kno s : Nat) : Int)), .ref (ad (30)), .ref (ad (39)), .ref (ad (40)), .int (iI ((pln s : Nat) : Int)), .ref (ad (41)), .ref (ad (82)), .ref (ad (83)), .ref (ad (87))] := (ow16 _ (by omega)).trans c27
  have c32 : f29 (0) = eO 3 [.ref (ad (1)), .ref (ad (5)), .int (iI ((kno s : Nat) : Int)), .ref (ad (30)), .ref (ad (39)), .ref (ad (40)), .int (iI ((pln s : Nat) : Int)), .ref (ad (41)), .ref (ad (82)), .ref (ad (83)), .ref (ad (87))] := (hoM _ (by omega)).trans c31
  refine r_get (v := .ref (ad (83))) C (by omega) c32 (show vwCl[3]? = some (RX3, TX3, 11) from rfl) m1 9 (by decide) m0 rfl rfl dX3_pairOf_18 ?_
  exact hret f29 _ _ dX3_pairOf_21 (⟨hxm, hpm, fun q hq => (((hoM _ (by omega))).trans (ow16 _ (by omega))).trans (ow3 _ (by omega))⟩)
set_option maxHeartbeats 4000000 in
set_option maxRecDepth 100000 in
/-- told -/
theorem c_X3_told (G : va_G) (tc : Nat → ClassId) (l : Launch) (ad : Nat → Nat) (N : Nat) (f : Nat → va_E) (s : SG) (hX : XI tc ad f s) (ho : okS s) (hN : 98 ≤ N) (z y w : Int) (hz : inR z) (hy : inR y) (hw : inR w)   : Ct G tc l yX3_told wsX3_told { frames := 5, cells := 0, slots := 0, locals := 116 } 0 0 [.ref (ad (0)), .int (iI (z)), .int (iI (y)), .int (iI (w))] ad N f (poI ad N (aTld s z y w) (fun f' => XI tc ad f' s ∧ ∀ q, 88 ≤ q → f' q = f q)) := by
  obtain ⟨h0, ⟨h1, h2, h3, h4⟩, hHis, hSlo, h40, hWds, hPr, hHd⟩ := id hX
  obtain ⟨⟨⟨a1, a2⟩, ⟨a3, a4⟩, ⟨a5, a6⟩, a7, a8, a9, a10⟩, o2, o3, o4, o5, o6⟩ := id ho
  refine stI (cc := cX3_told) (maxL := 6) (lv := [(0, .ref (ad (0))), (1, .int (iI (z))), (2, .int (iI (y))), (3, .int (iI (w)))]) (by decide) rfl (Nat.le_of_ble_eq_true rfl) rfl (fun X C hret => ?_)
  have m0 : Cond.fieldLink RX3 10 "WordSamples" "now" "LWordSamples$State;" ∈ wsX3_told := by decide +kernel
  have m1 : ∀ w ∈ wsX30, w ∈ wsX3_told := by decide +kernel
  have m2 : Cond.fieldLink RX3 67 "WordSamples$State" "settings" "[I" ∈ wsX3_told := by decide +kernel
  have m3 : ∀ w ∈ wsX10, w ∈ wsX3_told := by decide +kernel
  refine r_aload_n C dX3_told_0 rfl rfl ?_
  refine r_iload_n C dX3_told_1 rfl rfl ?_
  refine r_callV (As := [.int (iI (z))]) (rest := []) (na := 1) C (c_X3_noRow G tc l ad N _ s hX ho hN z hz) gX3_told_X3_noRow rfl rfl rfl (by decide +kernel) ⟨Nat.le_of_ble_eq_true rfl, Nat.le_of_ble_eq_true rfl⟩ (by omega) h0 (show vwCl[3]? = some (RX3, TX3, 11) from rfl) rfl rfl (Nat.le_of_ble_eq_true rfl) dX3_told_2 ⟨Nat.le_of_ble_eq_true rfl, Nat.le_of_ble_eq_true rfl⟩ (aft_I (fun f1 hF2 => ?_))
  rw [hF2]
  refine r_if_ne (tgt := 16) C ⟨by omega, by omega⟩ dX3_told_5 (by decide) (fun b3 => ?_) (fun b3 => ?_)
  · refine r_iconst C ((-1)) (by decide) dX3_told_16 ?_
    exact hret f ((-1)) _ _ dX3_told_17 (by unfold aTld; rw [if_neg (by omega)]) (⟨hX, fun _ _ => rfl⟩)
  · refine r_aload_n C dX3_told_8 rfl rfl ?_
    refine r_iload_n C dX3_told_9 rfl rfl ?_
    refine r_callV (As := [.int (iI (y))]) (rest := []) (na := 1) C (c_X3_noRow G tc l ad N _ s hX ho hN y hy) gX3_told_X3_noRow rfl rfl rfl (by decide +kernel) ⟨Nat.le_of_ble_eq_true rfl, Nat.le_of_ble_eq_true rfl⟩ (by omega) h0 (show vwCl[3]? = some (RX3, TX3, 11) from rfl) rfl rfl (Nat.le_of_ble_eq_true rfl) dX3_told_10 ⟨Nat.le_of_ble_eq_true rfl, Nat.le_of_ble_eq_true rfl⟩ (aft_I (fun f4 hF5 => ?_))
    rw [hF5]
    refine r_if_eq (tgt := 18) C ⟨by omega, by omega⟩ dX3_told_13 (by decide) (fun b6 => ?_) (fun b6 => ?_)
    · refine r_aload_n C dX3_told_18 rfl rfl ?_
      refine r_iload_n C dX3_told_19 rfl rfl ?_
      rw [show (.int (iI (z)) : Value) = .int (iI ((z.toNat : Nat) : Int)) from by rw [Int.toNat_of_nonneg (by omega)]]
      refine r_iload_n C dX3_told_20 rfl rfl ?_
      rw [show (.int (iI (y)) : Value) = .int (iI ((y.toNat : Nat) : Int)) from by rw [Int.toNat_of_nonneg (by omega)]]
      refine r_callV (As := [.int (iI ((z.toNat : Nat) : Int)), .int (iI ((y.toNat : Nat) : Int))]) (rest := []) (na := 2) C (c_X3_pairOf G tc l ad N _ s hX ho hN z.toNat y.toNat (by omega) (by omega)) gX3_told_X3_pairOf rfl rfl rfl (by decide +kernel) ⟨Nat.le_of_ble_eq_true rfl, Nat.le_of_ble_eq_true rfl⟩ (by omega) h0 (show vwCl[3]? = some (RX3, TX3, 11) from rfl) rfl rfl (Nat.le_of_ble_eq_true rfl) dX3_told_21 ⟨Nat.le_of_ble_eq_true rfl, Nat.le_of_ble_eq_true rfl⟩ (aft_A (fun f18 hF19 => ?_))
      obtain ⟨hx7, hp8, ow9⟩ := hF19
      obtain ⟨d10, d11, d12, p13, p14, p15, p16, hd17⟩ := id hp8
      have hehp8 := eb_le (wds_lt (cur s) z.toNat) (wds_lt (cur s) y.toNat)
      have hqhp8 := wds_le ho.1 (r := z.toNat) (by omega)
      have hrhp8 := wds_le ho.1 (r := y.toNat) (by omega)
      have hlhp8 := lcw_le (wds_lt (cur s) z.toNat) (wds_lt (cur s) y.toNat) ((cur s).1 1)
      have hmhp8 := mcw_le (wds_lt (cur s) z.toNat) (wds_lt (cur s) y.toNat) ((cur s).1 1)
      refine r_astore (lv' := [(0, .ref (ad (0))), (1, .int (iI ((z.toNat : Nat) : Int))), (2, .int (iI ((y.toNat : Nat) : Int))), (3, .int (iI (w))), (4, .ref (ad (83)))]) C dX3_told_24 (by decide) rfl ?_
      obtain ⟨x20, ⟨x21, x22, x23, x24⟩, -⟩ := id hx7
      refine r_aload_n C dX3_told_26 rfl rfl ?_
      refine r_get (v := .ref (ad (1))) C (by omega) x20 (show vwCl[3]? = some (RX3, TX3, 11) from rfl) m1 0 (by decide) m0 rfl rfl dX3_told_27 ?_
      refine r_get (v := .ref (ad (2))) C (by omega) x21 (show vwCl[1]? = some (RX1, TX1, 4) from rfl) m3 0 (by decide) m2 rfl rfl dX3_told_30 ?_
      refine r_iconst C ((1 : Nat) : Int) (by decide) dX3_told_33 ?_
      refine r_iald (x := (iI (((cur s).1 1 : Nat) : Int))) C (by omega) x22 (1) rfl (by omega) (Nat.le_of_ble_eq_true rfl) (rfl) dX3_told_34 ?_
      refine r_istore (lv' := [(0, .ref (ad (0))), (1, .int (iI ((z.toNat : Nat) : Int))), (2, .int (iI ((y.toNat : Nat) : Int))), (3, .int (iI (w))), (4, .ref (ad (83))), (5, .int (iI (((cur s).1 1 : Nat) : Int)))]) C dX3_told_35 (by decide) rfl ?_
      refine r_iload_n C dX3_told_37 rfl rfl ?_
      by_cases s25 : (w) = 0
      · refine r_tin (tgt := 72) C ⟨by omega, by omega⟩ dX3_told_38 (by omega) (by omega) (by rw [s25]; rfl) (by decide) ?_
        refine r_aload C dX3_told_72 rfl ?_
        refine r_iload C dX3_told_74 rfl ?_
        refine r_callV (As := [.int (iI (((cur s).1 1 : Nat) : Int))]) (rest := []) (na := 1) C (c_X0_commonWords G tc l ad N _ (wds (cur s) z.toNat) (wds (cur s) y.toNat) (wds_le ho.1 (by omega)) (wds_le ho.1 (by omega)) (wds_lt _ _) (wds_lt _ _) hN hp8 ((cur s).1 1) a3 a4) gX3_told_X0_commonWords rfl rfl rfl (by decide +kernel) ⟨Nat.le_of_ble_eq_true rfl, Nat.le_of_ble_eq_true rfl⟩ (by omega) p13 (show vwCl[0]? = some (RX0, TX0, 7) from rfl) rfl rfl (Nat.le_of_ble_eq_true rfl) dX3_told_76 ⟨Nat.le_of_ble_eq_true rfl, Nat.le_of_ble_eq_true rfl⟩ (aft_I (fun f26 hF27 => ?_))
        rw [hF27]
        exact hret f18 ((cmw (wds (cur s) z.toNat) (wds (cur s) y.toNat) ((cur s).1 1) : Nat) : Int) _ _ dX3_told_79 (by unfold aTld; rw [if_pos (by omega), if_pos (by omega)]) (⟨hx7, fun q hq => (ow9 _ (by omega))⟩)
      by_cases s28 : (w) = 1
      · refine r_tin (tgt := 80) C ⟨by omega, by omega⟩ dX3_told_38 (by omega) (by omega) (by rw [s28]; rfl) (by decide) ?_
        refine r_aload C dX3_told_80 rfl ?_
        refine r_iload C dX3_told_82 rfl ?_
        refine r_callV (As := [.int (iI (((cur s).1 1 : Nat) : Int))]) (rest := []) (na := 1) C (c_X0_leastCommon G tc l ad N _ (wds (cur s) z.toNat) (wds (cur s) y.toNat) (wds_le ho.1 (by omega)) (wds_le ho.1 (by omega)) (wds_lt _ _) (wds_lt _ _) hN hp8 ((cur s).1 1) a3 a4) gX3_told_X0_leastCommon rfl rfl rfl (by decide +kernel) ⟨Nat.le_of_ble_eq_true rfl, Nat.le_of_ble_eq_true rfl⟩ (by omega) p13 (show vwCl[0]? = some (RX0, TX0, 7) from rfl) rfl rfl (Nat.le_of_ble_eq_true rfl) dX3_told_84 ⟨Nat.le_of_ble_eq_true rfl, Nat.le_of_ble_eq_true rfl⟩ (aft_I (fun f29 hF30 => ?_))
        rw [hF30]
        exact hret f18 ((lcw (wds (cur s) z.toNat) (wds (cur s) y.toNat) ((cur s).1 1) : Nat) : Int) _ _ dX3_told_87 (by unfold aTld; rw [if_pos (by omega), if_neg (by omega), if_pos (by omega)]) (⟨hx7, fun q hq => (ow9 _ (by omega))⟩)
      by_cases s31 : (w) = 2
      · refine r_tin (tgt := 88) C ⟨by omega, by omega⟩ dX3_told_38 (by omega) (by omega) (by rw [s31]; rfl) (by decide) ?_
        refine r_aload C dX3_told_88 rfl ?_
        refine r_iload C dX3_told_90 rfl ?_
        refine r_callV (As := [.int (iI (((cur s).1 1 : Nat) : Int))]) (rest := []) (na := 1) C (c_X0_toldShare G tc l ad N _ (wds (cur s) z.toNat) (wds (cur s) y.toNat) (wds_le ho.1 (by omega)) (wds_le ho.1 (by omega)) (wds_lt _ _) (wds_lt _ _) hN hp8 ((cur s).1 1) a3 a4) gX3_told_X0_toldShare rfl rfl rfl (by decide +kernel) ⟨Nat.le_of_ble_eq_true rfl, Nat.le_of_ble_eq_true rfl⟩ (by omega) p13 (show vwCl[0]? = some (RX0, TX0, 7) from rfl) rfl rfl (Nat.le_of_ble_eq_true rfl) dX3_told_92 ⟨Nat.le_of_ble_eq_true rfl, Nat.le_of_ble_eq_true rfl⟩ (aft_I (fun f32 hF33 => ?_))
        rw [hF33]
        exact hret f18 ((tol (wds (cur s) z.toNat) (wds (cur s) y.toNat) ((cur s).1 1) : Nat) : Int) _ _ dX3_told_95 (by unfold aTld; rw [if_pos (by omega), if_neg (by omega), if_neg (by omega), if_pos (by omega)]) (⟨hx7, fun q hq => (ow9 _ (by omega))⟩)
      by_cases s34 : (w) = 3
      · refine r_tin (tgt := 96) C ⟨by omega, by omega⟩ dX3_told_38 (by omega) (by omega) (by rw [s34]; rfl) (by decide) ?_
        refine r_aload C dX3_told_96 rfl ?_
        refine r_iload C dX3_told_98 rfl ?_
        refine r_callV (As := [.int (iI (((cur s).1 1 : Nat) : Int))]) (rest := []) (na := 1) C (c_X0_lowerBound G tc l ad N _ (wds (cur s) z.toNat) (wds (cur s) y.toNat) (wds_le ho.1 (by omega)) (wds_le ho.1 (by omega)) (wds_lt _ _) (wds_lt _ _) hN hp8 ((cur s).1 1) a3 a4) gX3_told_X0_lowerBound rfl rfl rfl (by decide +kernel) ⟨Nat.le_of_ble_eq_true rfl, Nat.le_of_ble_eq_true rfl⟩ (by omega) p13 (show vwCl[0]? = some (RX0, TX0, 7) from rfl) rfl rfl (Nat.le_of_ble_eq_true rfl) dX3_told_100 ⟨Nat.le_of_ble_eq_true rfl, Nat.le_of_ble_eq_true rfl⟩ (aft_I (fun f35 hF36 => ?_))
        rw [hF36]
        exact hret f18 ((low (wds (cur s) z.toNat) (wds (cur s) y.toNat) ((cur s).1 1) : Nat) : Int) _ _ dX3_told_103 (by unfold aTld; rw [if_pos (by omega), if_neg (by omega), if_neg (by omega), if_neg (by omega), if_pos (by omega)]) (⟨hx7, fun q hq => (ow9 _ (by omega))⟩)
      by_cases s37 : (w) = 4
      · refine r_tin (tgt := 104) C ⟨by omega, by omega⟩ dX3_told_38 (by omega) (by omega) (by rw [s37]; rfl) (by decide) ?_
        refine r_aload C dX3_told_104 rfl ?_
        refine r_iload C dX3_told_106 rfl ?_
        refine r_callV (As := [.int (iI (((cur s).1 1 : Nat) : Int))]) (rest := []) (na := 1) C (c_X0_upperBound G tc l ad N _ (wds (cur s) z.toNat) (wds (cur s) y.toNat) (wds_le ho.1 (by omega)) (wds_le ho.1 (by omega)) (wds_lt _ _) (wds_lt _ _) hN hp8 ((cur s).1 1) a3 a4) gX3_told_X0_upperBound rfl rfl rfl (by decide +kernel) ⟨Nat.le_of_ble_eq_true rfl, Nat.le_of_ble_eq_true rfl⟩ (by omega) p13 (show vwCl[0]? = some (RX0, TX0, 7) from rfl) rfl rfl (Nat.le_of_ble_eq_true rfl) dX3_told_108 ⟨Nat.le_of_ble_eq_true rfl, Nat.le_of_ble_eq_true rfl⟩ (aft_I (fun f38 hF39 => ?_))
        rw [hF39]
        exact hret f18 ((upp (wds (cur s) z.toNat) (wds (cur s) y.toNat) ((cur s).1 1) : Nat) : Int) _ _ dX3_told_111 (by unfold aTld; rw [if_pos (by omega), if_neg (by omega), if_neg (by omega), if_neg (by omega), if_neg (by omega), if_pos (by omega)]) (⟨hx7, fun q hq => (ow9 _ (by omega))⟩)
      refine r_tout (tgt := 112) C ⟨by omega, by omega⟩ dX3_told_38 (by omega) (by decide) ?_
      refine r_bipush C ((-2)) (by decide) dX3_told_112 ?_
      exact hret f18 ((-2)) _ _ dX3_told_114 (by unfold aTld; rw [if_pos (by omega), if_neg (by omega), if_neg (by omega), if_neg (by omega), if_neg (by omega), if_neg (by omega)]) (⟨hx7, fun q hq => (ow9 _ (by omega))⟩)
    · refine r_iconst C ((-1)) (by decide) dX3_told_16 ?_
      exact hret f ((-1)) _ _ dX3_told_17 (by unfold aTld; rw [if_neg (by omega)]) (⟨hX, fun _ _ => rfl⟩)
set_option maxHeartbeats 4000000 in
set_option maxRecDepth 100000 in
/-- exact -/
theorem c_X3_exact (G : va_G) (tc : Nat → ClassId) (l : Launch) (ad : Nat → Nat) (N : Nat) (f : Nat → va_E) (s : SG) (hX : XI tc ad f s) (ho : okS s) (hN : 98 ≤ N) (z y w : Int) (hz : inR z) (hy : inR y) (hw : inR w)   : Ct G tc l yX3_exact wsX3_exact { frames := 5, cells := 0, slots := 0, locals := 116 } 0 0 [.ref (ad (0)), .int (iI (z)), .int (iI (y)), .int (iI (w))] ad N f (poI ad N (aExa s z y w) (fun f' => XI tc ad f' s ∧ ∀ q, 88 ≤ q → f' q = f q)) := by
  obtain ⟨h0, ⟨h1, h2, h3, h4⟩, hHis, hSlo, h40, hWds, hPr, hHd⟩ := id hX
  obtain ⟨⟨⟨a1, a2⟩, ⟨a3, a4⟩, ⟨a5, a6⟩, a7, a8, a9, a10⟩, o2, o3, o4, o5, o6⟩ := id ho
  refine stI (cc := cX3_exact) (maxL := 5) (lv := [(0, .ref (ad (0))), (1, .int (iI (z))), (2, .int (iI (y))), (3, .int (iI (w)))]) (by decide) rfl (Nat.le_of_ble_eq_true rfl) rfl (fun X C hret => ?_)
  have m0 : Cond.fieldLink RX3 146 "WordSamples$Pair" "inEither" "I" ∈ wsX3_exact := by decide +kernel
  have m1 : ∀ w ∈ wsX00, w ∈ wsX3_exact := by decide +kernel
  have m2 : Cond.fieldLink RX3 149 "WordSamples$Pair" "inBoth" "I" ∈ wsX3_exact := by decide +kernel
  refine r_aload_n C dX3_exact_0 rfl rfl ?_
  refine r_iload_n C dX3_exact_1 rfl rfl ?_
  refine r_callV (As := [.int (iI (z))]) (rest := []) (na := 1) C (c_X3_noRow G tc l ad N _ s hX ho hN z hz) gX3_exact_X3_noRow rfl rfl rfl (by decide +kernel) ⟨Nat.le_of_ble_eq_true rfl, Nat.le_of_ble_eq_true rfl⟩ (by omega) h0 (show vwCl[3]? = some (RX3, TX3, 11) from rfl) rfl rfl (Nat.le_of_ble_eq_true rfl) dX3_exact_2 ⟨Nat.le_of_ble_eq_true rfl, Nat.le_of_ble_eq_true rfl⟩ (aft_I (fun f1 hF2 => ?_))
  rw [hF2]
  refine r_if_ne (tgt := 16) C ⟨by omega, by omega⟩ dX3_exact_5 (by decide) (fun b3 => ?_) (fun b3 => ?_)
  · refine r_iconst C ((-1)) (by decide) dX3_exact_16 ?_
    exact hret f ((-1)) _ _ dX3_exact_17 (by unfold aExa; rw [if_neg (by omega)]) (⟨hX, fun _ _ => rfl⟩)
  · refine r_aload_n C dX3_exact_8 rfl rfl ?_
    refine r_iload_n C dX3_exact_9 rfl rfl ?_
    refine r_callV (As := [.int (iI (y))]) (rest := []) (na := 1) C (c_X3_noRow G tc l ad N _ s hX ho hN y hy) gX3_exact_X3_noRow rfl rfl rfl (by decide +kernel) ⟨Nat.le_of_ble_eq_true rfl, Nat.le_of_ble_eq_true rfl⟩ (by omega) h0 (show vwCl[3]? = some (RX3, TX3, 11) from rfl) rfl rfl (Nat.le_of_ble_eq_true rfl) dX3_exact_10 ⟨Nat.le_of_ble_eq_true rfl, Nat.le_of_ble_eq_true rfl⟩ (aft_I (fun f4 hF5 => ?_))
    rw [hF5]
    refine r_if_eq (tgt := 18) C ⟨by omega, by omega⟩ dX3_exact_13 (by decide) (fun b6 => ?_) (fun b6 => ?_)
    · refine r_aload_n C dX3_exact_18 rfl rfl ?_
      refine r_iload_n C dX3_exact_19 rfl rfl ?_
      rw [show (.int (iI (z)) : Value) = .int (iI ((z.toNat : Nat) : Int)) from by rw [Int.toNat_of_nonneg (by omega)]]
      refine r_iload_n C dX3_exact_20 rfl rfl ?_
      rw [show (.int (iI (y)) : Value) = .int (iI ((y.toNat : Nat) : Int)) from by rw [Int.toNat_of_nonneg (by omega)]]
      refine r_callV (As := [.int (iI ((z.toNat : Nat) : Int)), .int (iI ((y.toNat : Nat) : Int))]) (rest := []) (na := 2) C (c_X3_pairOf G tc l ad N _ s hX ho hN z.toNat y.toNat (by omega) (by omega)) gX3_exact_X3_pairOf rfl rfl rfl (by decide +kernel) ⟨Nat.le_of_ble_eq_true rfl, Nat.le_of_ble_eq_true rfl⟩ (by omega) h0 (show vwCl[3]? = some (RX3, TX3, 11) from rfl) rfl rfl (Nat.le_of_ble_eq_true rfl) dX3_exact_21 ⟨Nat.le_of_ble_eq_true rfl, Nat.le_of_ble_eq_true rfl⟩ (aft_A (fun f18 hF19 => ?_))
      obtain ⟨hx7, hp8, ow9⟩ := hF19
      obtain ⟨d10, d11, d12, p13, p14, p15, p16, hd17⟩ := id hp8
      have hehp8 := eb_le (wds_lt (cur s) z.toNat) (wds_lt (cur s) y.toNat)
      have hqhp8 := wds_le ho.1 (r := z.toNat) (by omega)
      have hrhp8 := wds_le ho.1 (r := y.toNat) (by omega)
      have hlhp8 := lcw_le (wds_lt (cur s) z.toNat) (wds_lt (cur s) y.toNat) ((cur s).1 1)
      have hmhp8 := mcw_le (wds_lt (cur s) z.toNat) (wds_lt (cur s) y.toNat) ((cur s).1 1)
      refine r_astore (lv' := [(0, .ref (ad (0))), (1, .int (iI ((z.toNat : Nat) : Int))), (2, .int (iI ((y.toNat : Nat) : Int))), (3, .int (iI (w))), (4, .ref (ad (83)))]) C dX3_exact_24 (by decide) rfl ?_
      refine r_iload_n C dX3_exact_26 rfl rfl ?_
      by_cases s20 : (w) = 0
      · refine r_tin (tgt := 52) C ⟨by omega, by omega⟩ dX3_exact_27 (by omega) (by omega) (by rw [s20]; rfl) (by decide) ?_
        refine r_aload C dX3_exact_52 rfl ?_
        refine r_get (v := .int (iI ((eit (wds (cur s) z.toNat) (wds (cur s) y.toNat) : Nat) : Int))) C (by omega) p13 (show vwCl[0]? = some (RX0, TX0, 7) from rfl) m1 5 (by decide) m0 rfl rfl dX3_exact_54 ?_
        exact hret f18 ((eit (wds (cur s) z.toNat) (wds (cur s) y.toNat) : Nat) : Int) _ _ dX3_exact_57 (by unfold aExa; rw [if_pos (by omega), if_pos (by omega)]) (⟨hx7, fun q hq => (ow9 _ (by omega))⟩)
      by_cases s21 : (w) = 1
      · refine r_tin (tgt := 58) C ⟨by omega, by omega⟩ dX3_exact_27 (by omega) (by omega) (by rw [s21]; rfl) (by decide) ?_
        refine r_aload C dX3_exact_58 rfl ?_
        refine r_get (v := .int (iI ((bth (wds (cur s) z.toNat) (wds (cur s) y.toNat) : Nat) : Int))) C (by omega) p13 (show vwCl[0]? = some (RX0, TX0, 7) from rfl) m1 6 (by decide) m2 rfl rfl dX3_exact_60 ?_
        exact hret f18 ((bth (wds (cur s) z.toNat) (wds (cur s) y.toNat) : Nat) : Int) _ _ dX3_exact_63 (by unfold aExa; rw [if_pos (by omega), if_neg (by omega), if_pos (by omega)]) (⟨hx7, fun q hq => (ow9 _ (by omega))⟩)
      by_cases s22 : (w) = 2
      · refine r_tin (tgt := 64) C ⟨by omega, by omega⟩ dX3_exact_27 (by omega) (by omega) (by rw [s22]; rfl) (by decide) ?_
        refine r_aload C dX3_exact_64 rfl ?_
        refine r_callV (As := []) (rest := []) (na := 0) C (c_X0_trueShare G tc l ad N _ (wds (cur s) z.toNat) (wds (cur s) y.toNat) (wds_le ho.1 (by omega)) (wds_le ho.1 (by omega)) (wds_lt _ _) (wds_lt _ _) hN hp8) gX3_exact_X0_trueShare rfl rfl rfl (by decide +kernel) ⟨Nat.le_of_ble_eq_true rfl, Nat.le_of_ble_eq_true rfl⟩ (by omega) p13 (show vwCl[0]? = some (RX0, TX0, 7) from rfl) rfl rfl (Nat.le_of_ble_eq_true rfl) dX3_exact_66 ⟨Nat.le_of_ble_eq_true rfl, Nat.le_of_ble_eq_true rfl⟩ (aft_I (fun f23 hF24 => ?_))
        rw [hF24]
        exact hret f18 ((tru (wds (cur s) z.toNat) (wds (cur s) y.toNat) : Nat) : Int) _ _ dX3_exact_69 (by unfold aExa; rw [if_pos (by omega), if_neg (by omega), if_neg (by omega), if_pos (by omega)]) (⟨hx7, fun q hq => (ow9 _ (by omega))⟩)
      refine r_tout (tgt := 70) C ⟨by omega, by omega⟩ dX3_exact_27 (by omega) (by decide) ?_
      refine r_bipush C ((-2)) (by decide) dX3_exact_70 ?_
      exact hret f18 ((-2)) _ _ dX3_exact_72 (by unfold aExa; rw [if_pos (by omega), if_neg (by omega), if_neg (by omega), if_neg (by omega)]) (⟨hx7, fun q hq => (ow9 _ (by omega))⟩)
    · refine r_iconst C ((-1)) (by decide) dX3_exact_16 ?_
      exact hret f ((-1)) _ _ dX3_exact_17 (by unfold aExa; rw [if_neg (by omega)]) (⟨hX, fun _ _ => rfl⟩)
set_option maxHeartbeats 4000000 in
set_option maxRecDepth 100000 in
/-- inside -/
theorem c_X3_inside (G : va_G) (tc : Nat → ClassId) (l : Launch) (ad : Nat → Nat) (N : Nat) (f : Nat → va_E) (s : SG) (hX : XI tc ad f s) (ho : okS s) (hN : 98 ≤ N) (z y w : Int) (hz : inR z) (hy : inR y) (hw : inR w)   : Ct G tc l yX3_inside wsX3_inside { frames := 5, cells := 0, slots := 0, locals := 116 } 0 0 [.ref (ad (0)), .int (iI (z)), .int (iI (y)), .int (iI (w))] ad N f (poI ad N (aIns s z y w) (fun f' => XI tc ad f' s ∧ ∀ q, 88 ≤ q → f' q = f q)) := by
  obtain ⟨h0, ⟨h1, h2, h3, h4⟩, hHis, hSlo, h40, hWds, hPr, hHd⟩ := id hX
  obtain ⟨⟨⟨a1, a2⟩, ⟨a3, a4⟩, ⟨a5, a6⟩, a7, a8, a9, a10⟩, o2, o3, o4, o5, o6⟩ := id ho
  refine stI (cc := cX3_inside) (maxL := 6) (lv := [(0, .ref (ad (0))), (1, .int (iI (z))), (2, .int (iI (y))), (3, .int (iI (w)))]) (by decide) rfl (Nat.le_of_ble_eq_true rfl) rfl (fun X C hret => ?_)
  have m0 : Cond.fieldLink RX3 10 "WordSamples" "now" "LWordSamples$State;" ∈ wsX3_inside := by decide +kernel
  have m1 : ∀ w ∈ wsX30, w ∈ wsX3_inside := by decide +kernel
  have m2 : Cond.fieldLink RX3 67 "WordSamples$State" "settings" "[I" ∈ wsX3_inside := by decide +kernel
  have m3 : ∀ w ∈ wsX10, w ∈ wsX3_inside := by decide +kernel
  have m4 : Cond.fieldLink RX3 149 "WordSamples$Pair" "inBoth" "I" ∈ wsX3_inside := by decide +kernel
  have m5 : ∀ w ∈ wsX00, w ∈ wsX3_inside := by decide +kernel
  have m6 : Cond.fieldLink RX3 155 "WordSamples$Pair" "firstWords" "I" ∈ wsX3_inside := by decide +kernel
  refine r_aload_n C dX3_inside_0 rfl rfl ?_
  refine r_iload_n C dX3_inside_1 rfl rfl ?_
  refine r_callV (As := [.int (iI (z))]) (rest := []) (na := 1) C (c_X3_noRow G tc l ad N _ s hX ho hN z hz) gX3_inside_X3_noRow rfl rfl rfl (by decide +kernel) ⟨Nat.le_of_ble_eq_true rfl, Nat.le_of_ble_eq_true rfl⟩ (by omega) h0 (show vwCl[3]? = some (RX3, TX3, 11) from rfl) rfl rfl (Nat.le_of_ble_eq_true rfl) dX3_inside_2 ⟨Nat.le_of_ble_eq_true rfl, Nat.le_of_ble_eq_true rfl⟩ (aft_I (fun f1 hF2 => ?_))
  rw [hF2]
  refine r_if_ne (tgt := 16) C ⟨by omega, by omega⟩ dX3_inside_5 (by decide) (fun b3 => ?_) (fun b3 => ?_)
  · refine r_iconst C ((-1)) (by decide) dX3_inside_16 ?_
    exact hret f ((-1)) _ _ dX3_inside_17 (by unfold aIns; rw [if_neg (by omega)]) (⟨hX, fun _ _ => rfl⟩)
  · refine r_aload_n C dX3_inside_8 rfl rfl ?_
    refine r_iload_n C dX3_inside_9 rfl rfl ?_
    refine r_callV (As := [.int (iI (y))]) (rest := []) (na := 1) C (c_X3_noRow G tc l ad N _ s hX ho hN y hy) gX3_inside_X3_noRow rfl rfl rfl (by decide +kernel) ⟨Nat.le_of_ble_eq_true rfl, Nat.le_of_ble_eq_true rfl⟩ (by omega) h0 (show vwCl[3]? = some (RX3, TX3, 11) from rfl) rfl rfl (Nat.le_of_ble_eq_true rfl) dX3_inside_10 ⟨Nat.le_of_ble_eq_true rfl, Nat.le_of_ble_eq_true rfl⟩ (aft_I (fun f4 hF5 => ?_))
    rw [hF5]
    refine r_if_eq (tgt := 18) C ⟨by omega, by omega⟩ dX3_inside_13 (by decide) (fun b6 => ?_) (fun b6 => ?_)
    · refine r_aload_n C dX3_inside_18 rfl rfl ?_
      refine r_iload_n C dX3_inside_19 rfl rfl ?_
      rw [show (.int (iI (z)) : Value) = .int (iI ((z.toNat : Nat) : Int)) from by rw [Int.toNat_of_nonneg (by omega)]]
      refine r_iload_n C dX3_inside_20 rfl rfl ?_
      rw [show (.int (iI (y)) : Value) = .int (iI ((y.toNat : Nat) : Int)) from by rw [Int.toNat_of_nonneg (by omega)]]
      refine r_callV (As := [.int (iI ((z.toNat : Nat) : Int)), .int (iI ((y.toNat : Nat) : Int))]) (rest := []) (na := 2) C (c_X3_pairOf G tc l ad N _ s hX ho hN z.toNat y.toNat (by omega) (by omega)) gX3_inside_X3_pairOf rfl rfl rfl (by decide +kernel) ⟨Nat.le_of_ble_eq_true rfl, Nat.le_of_ble_eq_true rfl⟩ (by omega) h0 (show vwCl[3]? = some (RX3, TX3, 11) from rfl) rfl rfl (Nat.le_of_ble_eq_true rfl) dX3_inside_21 ⟨Nat.le_of_ble_eq_true rfl, Nat.le_of_ble_eq_true rfl⟩ (aft_A (fun f18 hF19 => ?_))
      obtain ⟨hx7, hp8, ow9⟩ := hF19
      obtain ⟨d10, d11, d12, p13, p14, p15, p16, hd17⟩ := id hp8
      have hehp8 := eb_le (wds_lt (cur s) z.toNat) (wds_lt (cur s) y.toNat)
      have hqhp8 := wds_le ho.1 (r := z.toNat) (by omega)
      have hrhp8 := wds_le ho.1 (r := y.toNat) (by omega)
      have hlhp8 := lcw_le (wds_lt (cur s) z.toNat) (wds_lt (cur s) y.toNat) ((cur s).1 1)
      have hmhp8 := mcw_le (wds_lt (cur s) z.toNat) (wds_lt (cur s) y.toNat) ((cur s).1 1)
      refine r_astore (lv' := [(0, .ref (ad (0))), (1, .int (iI ((z.toNat : Nat) : Int))), (2, .int (iI ((y.toNat : Nat) : Int))), (3, .int (iI (w))), (4, .ref (ad (83)))]) C dX3_inside_24 (by decide) rfl ?_
      obtain ⟨x20, ⟨x21, x22, x23, x24⟩, -⟩ := id hx7
      refine r_aload_n C dX3_inside_26 rfl rfl ?_
      refine r_get (v := .ref (ad (1))) C (by omega) x20 (show vwCl[3]? = some (RX3, TX3, 11) from rfl) m1 0 (by decide) m0 rfl rfl dX3_inside_27 ?_
      refine r_get (v := .ref (ad (2))) C (by omega) x21 (show vwCl[1]? = some (RX1, TX1, 4) from rfl) m3 0 (by decide) m2 rfl rfl dX3_inside_30 ?_
      refine r_iconst C ((1 : Nat) : Int) (by decide) dX3_inside_33 ?_
      refine r_iald (x := (iI (((cur s).1 1 : Nat) : Int))) C (by omega) x22 (1) rfl (by omega) (Nat.le_of_ble_eq_true rfl) (rfl) dX3_inside_34 ?_
      refine r_istore (lv' := [(0, .ref (ad (0))), (1, .int (iI ((z.toNat : Nat) : Int))), (2, .int (iI ((y.toNat : Nat) : Int))), (3, .int (iI (w))), (4, .ref (ad (83))), (5, .int (iI (((cur s).1 1 : Nat) : Int)))]) C dX3_inside_35 (by decide) rfl ?_
      refine r_iload_n C dX3_inside_37 rfl rfl ?_
      by_cases s25 : (w) = 0
      · refine r_tin (tgt := 64) C ⟨by omega, by omega⟩ dX3_inside_38 (by omega) (by omega) (by rw [s25]; rfl) (by decide) ?_
        refine r_aload C dX3_inside_64 rfl ?_
        refine r_get (v := .int (iI ((bth (wds (cur s) z.toNat) (wds (cur s) y.toNat) : Nat) : Int))) C (by omega) p13 (show vwCl[0]? = some (RX0, TX0, 7) from rfl) m5 6 (by decide) m4 rfl rfl dX3_inside_66 ?_
        refine r_aload C dX3_inside_69 rfl ?_
        refine r_get (v := .int (iI (((wds (cur s) z.toNat).1 : Nat) : Int))) C (by omega) p13 (show vwCl[0]? = some (RX0, TX0, 7) from rfl) m5 3 (by decide) m6 rfl rfl dX3_inside_71 ?_
        refine r_callS (As := [.int (iI ((bth (wds (cur s) z.toNat) (wds (cur s) y.toNat) : Nat) : Int)), .int (iI (((wds (cur s) z.toNat).1 : Nat) : Int))]) (rest := []) (na := 2) C (c_X3_shareDown G tc l ad N _ (bth (wds (cur s) z.toNat) (wds (cur s) y.toNat)) ((wds (cur s) z.toNat).1) (by omega) (by omega)) gX3_inside_X3_shareDown rfl rfl rfl (by decide +kernel) ⟨Nat.le_of_ble_eq_true rfl, Nat.le_of_ble_eq_true rfl⟩ rfl rfl (Nat.le_of_ble_eq_true rfl) dX3_inside_74 ⟨Nat.le_of_ble_eq_true rfl, Nat.le_of_ble_eq_true rfl⟩ (aft_I (fun f26 hF27 => ?_))
        rw [hF27]
        exact hret f18 ((shd (bth (wds (cur s) z.toNat) (wds (cur s) y.toNat)) ((wds (cur s) z.toNat).1) : Nat) : Int) _ _ dX3_inside_77 (by unfold aIns; rw [if_pos (by omega), if_pos (by omega)]) (⟨hx7, fun q hq => (ow9 _ (by omega))⟩)
      by_cases s28 : (w) = 1
      · refine r_tin (tgt := 78) C ⟨by omega, by omega⟩ dX3_inside_38 (by omega) (by omega) (by rw [s28]; rfl) (by decide) ?_
        refine r_aload C dX3_inside_78 rfl ?_
        refine r_iload C dX3_inside_80 rfl ?_
        refine r_callV (As := [.int (iI (((cur s).1 1 : Nat) : Int))]) (rest := []) (na := 1) C (c_X0_leastCommon G tc l ad N _ (wds (cur s) z.toNat) (wds (cur s) y.toNat) (wds_le ho.1 (by omega)) (wds_le ho.1 (by omega)) (wds_lt _ _) (wds_lt _ _) hN hp8 ((cur s).1 1) a3 a4) gX3_inside_X0_leastCommon rfl rfl rfl (by decide +kernel) ⟨Nat.le_of_ble_eq_true rfl, Nat.le_of_ble_eq_true rfl⟩ (by omega) p13 (show vwCl[0]? = some (RX0, TX0, 7) from rfl) rfl rfl (Nat.le_of_ble_eq_true rfl) dX3_inside_82 ⟨Nat.le_of_ble_eq_true rfl, Nat.le_of_ble_eq_true rfl⟩ (aft_I (fun f29 hF30 => ?_))
        rw [hF30]
        refine r_aload C dX3_inside_85 rfl ?_
        refine r_get (v := .int (iI (((wds (cur s) z.toNat).1 : Nat) : Int))) C (by omega) p13 (show vwCl[0]? = some (RX0, TX0, 7) from rfl) m5 3 (by decide) m6 rfl rfl dX3_inside_87 ?_
        refine r_callS (As := [.int (iI ((lcw (wds (cur s) z.toNat) (wds (cur s) y.toNat) ((cur s).1 1) : Nat) : Int)), .int (iI (((wds (cur s) z.toNat).1 : Nat) : Int))]) (rest := []) (na := 2) C (c_X3_shareDown G tc l ad N _ (lcw (wds (cur s) z.toNat) (wds (cur s) y.toNat) ((cur s).1 1)) ((wds (cur s) z.toNat).1) (by omega) (by omega)) gX3_inside_X3_shareDown rfl rfl rfl (by decide +kernel) ⟨Nat.le_of_ble_eq_true rfl, Nat.le_of_ble_eq_true rfl⟩ rfl rfl (Nat.le_of_ble_eq_true rfl) dX3_inside_90 ⟨Nat.le_of_ble_eq_true rfl, Nat.le_of_ble_eq_true rfl⟩ (aft_I (fun f31 hF32 => ?_))
        rw [hF32]
        exact hret f18 ((shd (lcw (wds (cur s) z.toNat) (wds (cur s) y.toNat) ((cur s).1 1)) ((wds (cur s) z.toNat).1) : Nat) : Int) _ _ dX3_inside_93 (by unfold aIns; rw [if_pos (by omega), if_neg (by omega), if_pos (by omega)]) (⟨hx7, fun q hq => (ow9 _ (by omega))⟩)
      by_cases s33 : (w) = 2
      · refine r_tin (tgt := 94) C ⟨by omega, by omega⟩ dX3_inside_38 (by omega) (by omega) (by rw [s33]; rfl) (by decide) ?_
        refine r_aload C dX3_inside_94 rfl ?_
        refine r_iload C dX3_inside_96 rfl ?_
        refine r_callV (As := [.int (iI (((cur s).1 1 : Nat) : Int))]) (rest := []) (na := 1) C (c_X0_mostCommon G tc l ad N _ (wds (cur s) z.toNat) (wds (cur s) y.toNat) (wds_le ho.1 (by omega)) (wds_le ho.1 (by omega)) (wds_lt _ _) (wds_lt _ _) hN hp8 ((cur s).1 1) a3 a4) gX3_inside_X0_mostCommon rfl rfl rfl (by decide +kernel) ⟨Nat.le_of_ble_eq_true rfl, Nat.le_of_ble_eq_true rfl⟩ (by omega) p13 (show vwCl[0]? = some (RX0, TX0, 7) from rfl) rfl rfl (Nat.le_of_ble_eq_true rfl) dX3_inside_98 ⟨Nat.le_of_ble_eq_true rfl, Nat.le_of_ble_eq_true rfl⟩ (aft_I (fun f34 hF35 => ?_))
        rw [hF35]
        refine r_aload C dX3_inside_101 rfl ?_
        refine r_get (v := .int (iI (((wds (cur s) z.toNat).1 : Nat) : Int))) C (by omega) p13 (show vwCl[0]? = some (RX0, TX0, 7) from rfl) m5 3 (by decide) m6 rfl rfl dX3_inside_103 ?_
        refine r_callS (As := [.int (iI ((mcw (wds (cur s) z.toNat) (wds (cur s) y.toNat) ((cur s).1 1) : Nat) : Int)), .int (iI (((wds (cur s) z.toNat).1 : Nat) : Int))]) (rest := []) (na := 2) C (c_X3_shareUp G tc l ad N _ (mcw (wds (cur s) z.toNat) (wds (cur s) y.toNat) ((cur s).1 1)) ((wds (cur s) z.toNat).1) (by omega) (by omega)) gX3_inside_X3_shareUp rfl rfl rfl (by decide +kernel) ⟨Nat.le_of_ble_eq_true rfl, Nat.le_of_ble_eq_true rfl⟩ rfl rfl (Nat.le_of_ble_eq_true rfl) dX3_inside_106 ⟨Nat.le_of_ble_eq_true rfl, Nat.le_of_ble_eq_true rfl⟩ (aft_I (fun f36 hF37 => ?_))
        rw [hF37]
        exact hret f18 ((shu (mcw (wds (cur s) z.toNat) (wds (cur s) y.toNat) ((cur s).1 1)) ((wds (cur s) z.toNat).1) : Nat) : Int) _ _ dX3_inside_109 (by unfold aIns; rw [if_pos (by omega), if_neg (by omega), if_neg (by omega), if_pos (by omega)]) (⟨hx7, fun q hq => (ow9 _ (by omega))⟩)
      refine r_tout (tgt := 110) C ⟨by omega, by omega⟩ dX3_inside_38 (by omega) (by decide) ?_
      refine r_bipush C ((-2)) (by decide) dX3_inside_110 ?_
      exact hret f18 ((-2)) _ _ dX3_inside_112 (by unfold aIns; rw [if_pos (by omega), if_neg (by omega), if_neg (by omega), if_neg (by omega)]) (⟨hx7, fun q hq => (ow9 _ (by omega))⟩)
    · refine r_iconst C ((-1)) (by decide) dX3_inside_16 ?_
      exact hret f ((-1)) _ _ dX3_inside_17 (by unfold aIns; rw [if_neg (by omega)]) (⟨hX, fun _ _ => rfl⟩)
end XT1
