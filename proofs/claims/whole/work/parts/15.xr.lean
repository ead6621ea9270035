section XR1
def smp (n : NS) (r : Nat) : Nat := min (wds n r).1 (n.1 1)
theorem smp_le (n : NS) (r : Nat) : smp n r ≤ (wds n r).1 ∧ smp n r ≤ n.1 1 := by
  unfold smp
  omega
def grt (n : NS) (r : Nat) : Int := if smp n r = 0 then -6 else (((wds n r).2.1 (smp n r - 1) : Nat) : Int)
def aOfr (s : SG) (z w : Int) : Int := if isR s z then (if w = 0 then (((cur s).2.1 z.toNat : Nat) : Int) else if w = 1 then (((wds (cur s) z.toNat).1 : Nat) : Int) else if w = 2 then ((smp (cur s) z.toNat : Nat) : Int) else if w = 3 then grt (cur s) z.toNat else -2) else -1
def aSmp (s : SG) (z p w : Int) : Int := if isR s z ∧ 0 ≤ p ∧ p < ((smp (cur s) z.toNat : Nat) : Int) then (if w = 0 then (((wds (cur s) z.toNat).2.1 p.toNat : Nat) : Int) else if w = 1 then (((wds (cur s) z.toNat).2.2.1 p.toNat : Nat) : Int) else if w = 2 then (((wds (cur s) z.toNat).2.2.2 p.toNat : Nat) : Int) else -2) else -1
def shd (p w : Nat) : Nat := if w = 0 then 0 else p * 10000 / w
def shu (p w : Nat) : Nat := if w = 0 then 0 else (p * 10000 + w - 1) / w
abbrev oP (ad : Nat → Nat) (n m e b : Nat) : va_E := eO 0 [.ref (ad (84)), .ref (ad (85)), .ref (ad (86)), .int (iI ((n : Nat) : Int)), .int (iI ((m : Nat) : Int)), .int (iI ((e : Nat) : Int)), .int (iI ((b : Nat) : Int))]
def isPr (tc : Nat → ClassId) (ad : Nat → Nat) (f : Nat → va_E) (a b : WW) : Prop := ∃ d1 d2 d3 : Nat → Int32, f 83 = oP ad a.1 b.1 (eit a b) (bth a b) ∧ f 84 = eI tc 33 d1 ∧ f 85 = eI tc 33 d2 ∧ f 86 = eI tc 33 d3 ∧
  ∀ t, t ≤ 32 → t ≤ eit a b → d1 t = iI (((mg a b t).2.2 : Nat) : Int) ∧ d2 t = iI (((mg a b t).1 : Nat) : Int) ∧ d3 t = iI (((mg a b t).2.1 : Nat) : Int)
theorem isPr.iPr {tc : Nat → ClassId} {ad : Nat → Nat} {f : Nat → va_E} {a b : WW} (h : isPr tc ad f a b) : iPr tc ad f := by
  obtain ⟨d1, d2, d3, h1, h2, h3, h4, h5⟩ := h
  obtain ⟨q1, q2, q3⟩ := h5 0 (by omega) (Nat.zero_le _)
  exact ⟨_, _, _, _, d1, d2, d3, h1, h2, h3, h4, q1, q2, q3⟩
theorem mg_step (a b : WW) (k : Nat) (h : ¬ (vatN a (mg a b k).1 = 1000003 ∧ vatN b (mg a b k).2.1 = 1000003)) : ((vatN a (mg a b k).1 ≤ vatN b (mg a b k).2.1 ∧ (mg a b (k + 1)).1 = (mg a b k).1 + 1) ∨ (¬ vatN a (mg a b k).1 ≤ vatN b (mg a b k).2.1 ∧ (mg a b (k + 1)).1 = (mg a b k).1)) ∧
    ((vatN b (mg a b k).2.1 ≤ vatN a (mg a b k).1 ∧ (mg a b (k + 1)).2.1 = (mg a b k).2.1 + 1) ∨ (¬ vatN b (mg a b k).2.1 ≤ vatN a (mg a b k).1 ∧ (mg a b (k + 1)).2.1 = (mg a b k).2.1)) ∧
    ((vatN a (mg a b k).1 = vatN b (mg a b k).2.1 ∧ (mg a b (k + 1)).2.2 = (mg a b k).2.2 + 1) ∨ (¬ vatN a (mg a b k).1 = vatN b (mg a b k).2.1 ∧ (mg a b (k + 1)).2.2 = (mg a b k).2.2)) := by
  rw [mg, if_neg h]
  refine ⟨?_, ?_, ?_⟩
  · by_cases q : vatN a (mg a b k).1 ≤ vatN b (mg a b k).2.1
    · exact Or.inl ⟨q, by dsimp only; rw [if_pos q]⟩
    · exact Or.inr ⟨q, by dsimp only; rw [if_neg q]; rfl⟩
  · by_cases q : vatN b (mg a b k).2.1 ≤ vatN a (mg a b k).1
    · exact Or.inl ⟨q, by dsimp only; rw [if_pos q]⟩
    · exact Or.inr ⟨q, by dsimp only; rw [if_neg q]; rfl⟩
  · by_cases q : vatN a (mg a b k).1 = vatN b (mg a b k).2.1
    · exact Or.inl ⟨q, by dsimp only; rw [if_pos q]⟩
    · exact Or.inr ⟨q, by dsimp only; rw [if_neg q]; rfl⟩
set_option maxHeartbeats 4000000 in
set_option maxRecDepth 100000 in
/-- sampleSize(r) -/
theorem c_X3_sampleSize (G : va_G) (tc : Nat → ClassId) (l : Launch) (ad : Nat → Nat) (N : Nat) (f : Nat → va_E) (s : SG) (hX : XI tc ad f s) (ho : okS s) (hN : 98 ≤ N) (r : Nat) (hr : r < (cur s).2.2.2)   : Ct G tc l yX3_sampleSize wsX3_sampleSize { frames := 4, cells := 0, slots := 0, locals := 94 } 0 0 [.ref (ad (0)), .int (iI ((r : Nat) : Int))] ad N f (poI ad N (((smp (cur s) r : Nat) : Int)) (fun f' => XI tc ad f' s ∧ ∀ q, 88 ≤ q → f' q = f q)) := by
  obtain ⟨h0, ⟨h1, h2, h3, h4⟩, hHis, hSlo, h40, hWds, hPr, hHd⟩ := id hX
  obtain ⟨⟨⟨a1, a2⟩, ⟨a3, a4⟩, ⟨a5, a6⟩, a7, a8, a9, a10⟩, o2, o3, o4, o5, o6⟩ := id ho
  refine stI (cc := cX3_sampleSize) (maxL := 2) (lv := [(0, .ref (ad (0))), (1, .int (iI ((r : Nat) : Int)))]) (by decide) rfl (Nat.le_of_ble_eq_true rfl) rfl (fun X C hret => ?_)
  have m0 : Cond.fieldLink RX3 105 "WordSamples$Words" "size" "I" ∈ wsX3_sampleSize := by decide +kernel
  have m1 : ∀ w ∈ wsX20, w ∈ wsX3_sampleSize := by decide +kernel
  have m2 : Cond.fieldLink RX3 10 "WordSamples" "now" "LWordSamples$State;" ∈ wsX3_sampleSize := by decide +kernel
  have m3 : ∀ w ∈ wsX30, w ∈ wsX3_sampleSize := by decide +kernel
  have m4 : Cond.fieldLink RX3 67 "WordSamples$State" "settings" "[I" ∈ wsX3_sampleSize := by decide +kernel
  have m5 : ∀ w ∈ wsX10, w ∈ wsX3_sampleSize := by decide +kernel
  have m6 : Cond.methodLink RX3 208 Lib.Math.min.name ∈ wsX3_sampleSize := by decide +kernel
  have m7 : Cond.static Lib.Math.min.name ∈ wsX3_sampleSize := by decide +kernel
  have m8 : Cond.initialized "java/lang/Math" ∈ wsX3_sampleSize := by decide +kernel
  have m9 : Cond.code Lib.Math.min.name Lib.Math.min.code 2 (some .int) ∈ wsX3_sampleSize := by decide +kernel
  refine r_aload_n C dX3_sampleSize_0 rfl rfl ?_
  refine r_iload_n C dX3_sampleSize_1 rfl rfl ?_
  have q64 := wds_le ho.1 (r := r) (by omega)
  refine r_callV (As := [.int (iI ((r : Nat) : Int))]) (rest := []) (na := 1) C (c_X3_wordsOf G tc l ad N _ s hX ho hN r (by omega)) gX3_sampleSize_X3_wordsOf rfl rfl rfl (by decide +kernel) ⟨Nat.le_of_ble_eq_true rfl, Nat.le_of_ble_eq_true rfl⟩ (by omega) h0 (show vwCl[3]? = some (RX3, TX3, 11) from rfl) rfl rfl (Nat.le_of_ble_eq_true rfl) dX3_sampleSize_2 ⟨Nat.le_of_ble_eq_true rfl, Nat.le_of_ble_eq_true rfl⟩ (aft_A (fun f12 hF13 => ?_))
  obtain ⟨hx1, hw2, ow3⟩ := hF13
  obtain ⟨wv4, wc5, wt6, y7, y8, y9, y10, yw11⟩ := id hw2
  refine r_get (v := .int (iI (((wds (cur s) r).1 : Nat) : Int))) C (by omega) y7 (show vwCl[2]? = some (RX2, TX2, 4) from rfl) m1 3 (by decide) m0 rfl rfl dX3_sampleSize_5 ?_
  refine r_aload_n C dX3_sampleSize_8 rfl rfl ?_
  have c14 : f12 (0) = eO 3 [.ref (ad (1)), .ref (ad (5)), .int (iI ((kno s : Nat) : Int)), .ref (ad (30)), .ref (ad (39)), .ref (ad (40)), .int (iI ((pln s : Nat) : Int)), .ref (ad (41)), .ref (ad (82)), .ref (ad (83)), .ref (ad (87))] := (ow3 _ (by omega)).trans h0
  refine r_get (v := .ref (ad (1))) C (by omega) c14 (show vwCl[3]? = some (RX3, TX3, 11) from rfl) m3 0 (by decide) m2 rfl rfl dX3_sampleSize_9 ?_
  have c15 : f12 (1) = eO 1 [.ref (ad (2)), .ref (ad (3)), .ref (ad (4)), .int (iI (((cur s).2.2.2 : Nat) : Int))] := (ow3 _ (by omega)).trans h1
  refine r_get (v := .ref (ad (2))) C (by omega) c15 (show vwCl[1]? = some (RX1, TX1, 4) from rfl) m5 0 (by decide) m4 rfl rfl dX3_sampleSize_12 ?_
  refine r_iconst C ((1 : Nat) : Int) (by decide) dX3_sampleSize_15 ?_
  have c16 : f12 (2) = eI tc 4 (fun j => iI (((cur s).1 j : Nat) : Int)) := (ow3 _ (by omega)).trans h2
  refine r_iald (x := (iI (((cur s).1 1 : Nat) : Int))) C (by omega) c16 (1) rfl (by omega) (Nat.le_of_ble_eq_true rfl) (rfl) dX3_sampleSize_16 ?_
  refine r_min C ⟨m6, m7, m8, m9⟩ (Nat.le_of_ble_eq_true rfl) (Nat.le_of_ble_eq_true rfl) ⟨Nat.le_of_ble_eq_true rfl, Nat.le_of_ble_eq_true rfl⟩ ⟨by omega, by omega⟩ ⟨by omega, by omega⟩ dX3_sampleSize_17 ?_
  rw [show (.int (iI (min (((wds (cur s) r).1 : Nat) : Int) (((cur s).1 1 : Nat) : Int))) : Value) = .int (iI ((smp (cur s) r : Nat) : Int)) from by rw [show min _ _ = ((smp (cur s) r : Nat) : Int) from by unfold smp; omega]]
  exact hret f12 ((smp (cur s) r : Nat) : Int) _ _ dX3_sampleSize_20 rfl (⟨hx1, fun q hq => (ow3 _ (by omega))⟩)
set_option maxHeartbeats 4000000 in
set_option maxRecDepth 100000 in
/-- greatestOfSample(r) -/
theorem c_X3_greatestOfSample (G : va_G) (tc : Nat → ClassId) (l : Launch) (ad : Nat → Nat) (N : Nat) (f : Nat → va_E) (s : SG) (hX : XI tc ad f s) (ho : okS s) (hN : 98 ≤ N) (r : Nat) (hr : r < (cur s).2.2.2)   : Ct G tc l yX3_greatestOfSample wsX3_greatestOfSample { frames := 5, cells := 0, slots := 0, locals := 115 } 0 0 [.ref (ad (0)), .int (iI ((r : Nat) : Int))] ad N f (poI ad N (grt (cur s) r) (fun f' => XI tc ad f' s ∧ ∀ q, 88 ≤ q → f' q = f q)) := by
  obtain ⟨h0, ⟨h1, h2, h3, h4⟩, hHis, hSlo, h40, hWds, hPr, hHd⟩ := id hX
  obtain ⟨⟨⟨a1, a2⟩, ⟨a3, a4⟩, ⟨a5, a6⟩, a7, a8, a9, a10⟩, o2, o3, o4, o5, o6⟩ := id ho
  refine stI (cc := cX3_greatestOfSample) (maxL := 3) (lv := [(0, .ref (ad (0))), (1, .int (iI ((r : Nat) : Int)))]) (by decide) rfl (Nat.le_of_ble_eq_true rfl) rfl (fun X C hret => ?_)
  refine r_aload_n C dX3_greatestOfSample_0 rfl rfl ?_
  refine r_iload_n C dX3_greatestOfSample_1 rfl rfl ?_
  have q64 := wds_le ho.1 (r := r) (by omega)
  have qsm := smp_le (cur s) r
  refine r_callV (As := [.int (iI ((r : Nat) : Int))]) (rest := []) (na := 1) C (c_X3_sampleSize G tc l ad N _ s hX ho hN r (by omega)) gX3_greatestOfSample_X3_sampleSize rfl rfl rfl (by decide +kernel) ⟨Nat.le_of_ble_eq_true rfl, Nat.le_of_ble_eq_true rfl⟩ (by omega) h0 (show vwCl[3]? = some (RX3, TX3, 11) from rfl) rfl rfl (Nat.le_of_ble_eq_true rfl) dX3_greatestOfSample_2 ⟨Nat.le_of_ble_eq_true rfl, Nat.le_of_ble_eq_true rfl⟩ (aft_I (fun f3 hF4 => ?_))
  obtain ⟨hx1, ow2⟩ := hF4
  obtain ⟨x5, ⟨x6, x7, x8, x9⟩, -⟩ := id hx1
  refine r_istore_n (lv' := [(0, .ref (ad (0))), (1, .int (iI ((r : Nat) : Int))), (2, .int (iI ((smp (cur s) r : Nat) : Int)))]) C dX3_greatestOfSample_5 rfl (by decide) rfl ?_
  refine r_iload_n C dX3_greatestOfSample_6 rfl rfl ?_
  refine r_if_ne (tgt := 15) C ⟨by omega, by omega⟩ dX3_greatestOfSample_7 (by decide) (fun b10 => ?_) (fun b10 => ?_)
  · refine r_aload_n C dX3_greatestOfSample_15 rfl rfl ?_
    refine r_iload_n C dX3_greatestOfSample_16 rfl rfl ?_
    refine r_callV (As := [.int (iI ((r : Nat) : Int))]) (rest := []) (na := 1) C (c_X3_wordsOf G tc l ad N _ s hx1 ho hN r (by omega)) gX3_greatestOfSample_X3_wordsOf rfl rfl rfl (by decide +kernel) ⟨Nat.le_of_ble_eq_true rfl, Nat.le_of_ble_eq_true rfl⟩ (by omega) x5 (show vwCl[3]? = some (RX3, TX3, 11) from rfl) rfl rfl (Nat.le_of_ble_eq_true rfl) dX3_greatestOfSample_17 ⟨Nat.le_of_ble_eq_true rfl, Nat.le_of_ble_eq_true rfl⟩ (aft_A (fun f22 hF23 => ?_))
    obtain ⟨hx11, hw12, ow13⟩ := hF23
    obtain ⟨wv14, wc15, wt16, y17, y18, y19, y20, yw21⟩ := id hw12
    refine r_iload_n C dX3_greatestOfSample_20 rfl rfl ?_
    refine r_iconst C ((1 : Nat) : Int) (by decide) dX3_greatestOfSample_21 ?_
    refine r_isub C ((smp (cur s) r - 1 : Nat) : Int) (by omega) dX3_greatestOfSample_22 ?_
    refine r_callV (As := [.int (iI ((smp (cur s) r - 1 : Nat) : Int))]) (rest := []) (na := 1) C (c_X2_valueAt G tc l ad N _ (42 + 4 * r) (wds (cur s) r) hw12 (by omega) (wds_le ho.1 (by omega)) (wds_lt _ _) ((smp (cur s) r - 1 : Nat) : Int) ⟨by omega, by omega⟩) gX3_greatestOfSample_X2_valueAt rfl rfl rfl (by decide +kernel) ⟨Nat.le_of_ble_eq_true rfl, Nat.le_of_ble_eq_true rfl⟩ (by omega) y17 (show vwCl[2]? = some (RX2, TX2, 4) from rfl) rfl rfl (Nat.le_of_ble_eq_true rfl) dX3_greatestOfSample_23 ⟨Nat.le_of_ble_eq_true rfl, Nat.le_of_ble_eq_true rfl⟩ (aft_I (fun f24 hF25 => ?_))
    rw [hF25]
    exact hret f22 (vat (wds (cur s) r) ((smp (cur s) r - 1 : Nat) : Int)) _ _ dX3_greatestOfSample_26 (by unfold grt; rw [if_neg (by omega), vat_N, vatN, if_pos (by omega)]) (⟨hx11, fun q hq => ((ow13 _ (by omega))).trans (ow2 _ (by omega))⟩)
  · refine r_bipush C ((-6)) (by decide) dX3_greatestOfSample_10 ?_
    refine r_goto (tgt := 26) C dX3_greatestOfSample_12 (by decide) ?_
    exact hret f3 ((-6)) _ _ dX3_greatestOfSample_26 (by unfold grt; rw [if_pos (by omega)]) (⟨hx1, fun q hq => (ow2 _ (by omega))⟩)
set_option maxHeartbeats 4000000 in
set_option maxRecDepth 100000 in
/-- ofRow -/
theorem c_X3_ofRow (G : va_G) (tc : Nat → ClassId) (l : Launch) (ad : Nat → Nat) (N : Nat) (f : Nat → va_E) (s : SG) (hX : XI tc ad f s) (ho : okS s) (hN : 98 ≤ N) (z w : Int) (hz : inR z) (hw : inR w)   : Ct G tc l yX3_ofRow wsX3_ofRow { frames := 6, cells := 0, slots := 0, locals := 137 } 0 0 [.ref (ad (0)), .int (iI (z)), .int (iI (w))] ad N f (poI ad N (aOfr s z w) (fun f' => XI tc ad f' s ∧ ∀ q, 88 ≤ q → f' q = f q)) := by
  obtain ⟨h0, ⟨h1, h2, h3, h4⟩, hHis, hSlo, h40, hWds, hPr, hHd⟩ := id hX
  obtain ⟨⟨⟨a1, a2⟩, ⟨a3, a4⟩, ⟨a5, a6⟩, a7, a8, a9, a10⟩, o2, o3, o4, o5, o6⟩ := id ho
  refine stI (cc := cX3_ofRow) (maxL := 3) (lv := [(0, .ref (ad (0))), (1, .int (iI (z))), (2, .int (iI (w)))]) (by decide) rfl (Nat.le_of_ble_eq_true rfl) rfl (fun X C hret => ?_)
  have m0 : Cond.fieldLink RX3 10 "WordSamples" "now" "LWordSamples$State;" ∈ wsX3_ofRow := by decide +kernel
  have m1 : ∀ w ∈ wsX30, w ∈ wsX3_ofRow := by decide +kernel
  have m2 : Cond.fieldLink RX3 77 "WordSamples$State" "lengths" "[I" ∈ wsX3_ofRow := by decide +kernel
  have m3 : ∀ w ∈ wsX10, w ∈ wsX3_ofRow := by decide +kernel
  have m4 : Cond.fieldLink RX3 105 "WordSamples$Words" "size" "I" ∈ wsX3_ofRow := by decide +kernel
  have m5 : ∀ w ∈ wsX20, w ∈ wsX3_ofRow := by decide +kernel
  refine r_aload_n C dX3_ofRow_0 rfl rfl ?_
  refine r_iload_n C dX3_ofRow_1 rfl rfl ?_
  refine r_callV (As := [.int (iI (z))]) (rest := []) (na := 1) C (c_X3_noRow G tc l ad N _ s hX ho hN z hz) gX3_ofRow_X3_noRow rfl rfl rfl (by decide +kernel) ⟨Nat.le_of_ble_eq_true rfl, Nat.le_of_ble_eq_true rfl⟩ (by omega) h0 (show vwCl[3]? = some (RX3, TX3, 11) from rfl) rfl rfl (Nat.le_of_ble_eq_true rfl) dX3_ofRow_2 ⟨Nat.le_of_ble_eq_true rfl, Nat.le_of_ble_eq_true rfl⟩ (aft_I (fun f1 hF2 => ?_))
  rw [hF2]
  refine r_if_eq (tgt := 10) C ⟨by omega, by omega⟩ dX3_ofRow_5 (by decide) (fun b3 => ?_) (fun b3 => ?_)
  · refine r_iload_n C dX3_ofRow_10 rfl rfl ?_
    by_cases s4 : (w) = 0
    · refine r_tin (tgt := 40) C ⟨by omega, by omega⟩ dX3_ofRow_11 (by omega) (by omega) (by rw [s4]; rfl) (by decide) ?_
      refine r_aload_n C dX3_ofRow_40 rfl rfl ?_
      refine r_get (v := .ref (ad (1))) C (by omega) h0 (show vwCl[3]? = some (RX3, TX3, 11) from rfl) m1 0 (by decide) m0 rfl rfl dX3_ofRow_41 ?_
      refine r_get (v := .ref (ad (3))) C (by omega) h1 (show vwCl[1]? = some (RX1, TX1, 4) from rfl) m3 1 (by decide) m2 rfl rfl dX3_ofRow_44 ?_
      refine r_iload_n C dX3_ofRow_47 rfl rfl ?_
      rw [show (.int (iI (z)) : Value) = .int (iI ((z.toNat : Nat) : Int)) from by rw [Int.toNat_of_nonneg (by omega)]]
      refine r_iald (x := (iI (((cur s).2.1 z.toNat : Nat) : Int))) C (by omega) h3 (z.toNat) rfl (by omega) (Nat.le_of_ble_eq_true rfl) (rfl) dX3_ofRow_48 ?_
      exact hret f (((cur s).2.1 z.toNat : Nat) : Int) _ _ dX3_ofRow_49 (by unfold aOfr; rw [if_pos (by omega), if_pos (by omega)]) (⟨hX, fun _ _ => rfl⟩)
    by_cases s5 : (w) = 1
    · refine r_tin (tgt := 50) C ⟨by omega, by omega⟩ dX3_ofRow_11 (by omega) (by omega) (by rw [s5]; rfl) (by decide) ?_
      refine r_aload_n C dX3_ofRow_50 rfl rfl ?_
      refine r_iload_n C dX3_ofRow_51 rfl rfl ?_
      rw [show (.int (iI (z)) : Value) = .int (iI ((z.toNat : Nat) : Int)) from by rw [Int.toNat_of_nonneg (by omega)]]
      refine r_callV (As := [.int (iI ((z.toNat : Nat) : Int))]) (rest := []) (na := 1) C (c_X3_wordsOf G tc l ad N _ s hX ho hN z.toNat (by omega)) gX3_ofRow_X3_wordsOf rfl rfl rfl (by decide +kernel) ⟨Nat.le_of_ble_eq_true rfl, Nat.le_of_ble_eq_true rfl⟩ (by omega) h0 (show vwCl[3]? = some (RX3, TX3, 11) from rfl) rfl rfl (Nat.le_of_ble_eq_true rfl) dX3_ofRow_52 ⟨Nat.le_of_ble_eq_true rfl, Nat.le_of_ble_eq_true rfl⟩ (aft_A (fun f17 hF18 => ?_))
      obtain ⟨hx6, hw7, ow8⟩ := hF18
      obtain ⟨wv9, wc10, wt11, y12, y13, y14, y15, yw16⟩ := id hw7
      refine r_get (v := .int (iI (((wds (cur s) z.toNat).1 : Nat) : Int))) C (by omega) y12 (show vwCl[2]? = some (RX2, TX2, 4) from rfl) m5 3 (by decide) m4 rfl rfl dX3_ofRow_55 ?_
      exact hret f17 (((wds (cur s) z.toNat).1 : Nat) : Int) _ _ dX3_ofRow_58 (by unfold aOfr; rw [if_pos (by omega), if_neg (by omega), if_pos (by omega)]) (⟨hx6, fun q hq => (ow8 _ (by omega))⟩)
    by_cases s19 : (w) = 2
    · refine r_tin (tgt := 59) C ⟨by omega, by omega⟩ dX3_ofRow_11 (by omega) (by omega) (by rw [s19]; rfl) (by decide) ?_
      refine r_aload_n C dX3_ofRow_59 rfl rfl ?_
      refine r_iload_n C dX3_ofRow_60 rfl rfl ?_
      rw [show (.int (iI (z)) : Value) = .int (iI ((z.toNat : Nat) : Int)) from by rw [Int.toNat_of_nonneg (by omega)]]
      refine r_callV (As := [.int (iI ((z.toNat : Nat) : Int))]) (rest := []) (na := 1) C (c_X3_sampleSize G tc l ad N _ s hX ho hN z.toNat (by omega)) gX3_ofRow_X3_sampleSize rfl rfl rfl (by decide +kernel) ⟨Nat.le_of_ble_eq_true rfl, Nat.le_of_ble_eq_true rfl⟩ (by omega) h0 (show vwCl[3]? = some (RX3, TX3, 11) from rfl) rfl rfl (Nat.le_of_ble_eq_true rfl) dX3_ofRow_61 ⟨Nat.le_of_ble_eq_true rfl, Nat.le_of_ble_eq_true rfl⟩ (aft_I (fun f22 hF23 => ?_))
      obtain ⟨hx20, ow21⟩ := hF23
      exact hret f22 ((smp (cur s) z.toNat : Nat) : Int) _ _ dX3_ofRow_64 (by unfold aOfr; rw [if_pos (by omega), if_neg (by omega), if_neg (by omega), if_pos (by omega)]) (⟨hx20, fun q hq => (ow21 _ (by omega))⟩)
    by_cases s24 : (w) = 3
    · refine r_tin (tgt := 65) C ⟨by omega, by omega⟩ dX3_ofRow_11 (by omega) (by omega) (by rw [s24]; rfl) (by decide) ?_
      refine r_aload_n C dX3_ofRow_65 rfl rfl ?_
      refine r_iload_n C dX3_ofRow_66 rfl rfl ?_
      rw [show (.int (iI (z)) : Value) = .int (iI ((z.toNat : Nat) : Int)) from by rw [Int.toNat_of_nonneg (by omega)]]
      refine r_callV (As := [.int (iI ((z.toNat : Nat) : Int))]) (rest := []) (na := 1) C (c_X3_greatestOfSample G tc l ad N _ s hX ho hN z.toNat (by omega)) gX3_ofRow_X3_greatestOfSample rfl rfl rfl (by decide +kernel) ⟨Nat.le_of_ble_eq_true rfl, Nat.le_of_ble_eq_true rfl⟩ (by omega) h0 (show vwCl[3]? = some (RX3, TX3, 11) from rfl) rfl rfl (Nat.le_of_ble_eq_true rfl) dX3_ofRow_67 ⟨Nat.le_of_ble_eq_true rfl, Nat.le_of_ble_eq_true rfl⟩ (aft_I (fun f27 hF28 => ?_))
      obtain ⟨hx25, ow26⟩ := hF28
      exact hret f27 (grt (cur s) z.toNat) _ _ dX3_ofRow_70 (by unfold aOfr; rw [if_pos (by omega), if_neg (by omega), if_neg (by omega), if_neg (by omega), if_pos (by omega)]) (⟨hx25, fun q hq => (ow26 _ (by omega))⟩)
    refine r_tout (tgt := 71) C ⟨by omega, by omega⟩ dX3_ofRow_11 (by omega) (by decide) ?_
    refine r_bipush C ((-2)) (by decide) dX3_ofRow_71 ?_
    exact hret f ((-2)) _ _ dX3_ofRow_73 (by unfold aOfr; rw [if_pos (by omega), if_neg (by omega), if_neg (by omega), if_neg (by omega), if_neg (by omega)]) (⟨hX, fun _ _ => rfl⟩)
  · refine r_iconst C ((-1)) (by decide) dX3_ofRow_8 ?_
    exact hret f ((-1)) _ _ dX3_ofRow_9 (by unfold aOfr; rw [if_neg (by omega)]) (⟨hX, fun _ _ => rfl⟩)
set_option maxHeartbeats 4000000 in
set_option maxRecDepth 100000 in
/-- sample -/
theorem c_X3_sample (G : va_G) (tc : Nat → ClassId) (l : Launch) (ad : Nat → Nat) (N : Nat) (f : Nat → va_E) (s : SG) (hX : XI tc ad f s) (ho : okS s) (hN : 98 ≤ N) (z p w : Int) (hz : inR z) (hp : inR p) (hw : inR w)   : Ct G tc l yX3_sample wsX3_sample { frames := 5, cells := 0, slots := 0, locals := 115 } 0 0 [.ref (ad (0)), .int (iI (z)), .int (iI (p)), .int (iI (w))] ad N f (poI ad N (aSmp s z p w) (fun f' => XI tc ad f' s ∧ ∀ q, 88 ≤ q → f' q = f q)) := by
  obtain ⟨h0, ⟨h1, h2, h3, h4⟩, hHis, hSlo, h40, hWds, hPr, hHd⟩ := id hX
  obtain ⟨⟨⟨a1, a2⟩, ⟨a3, a4⟩, ⟨a5, a6⟩, a7, a8, a9, a10⟩, o2, o3, o4, o5, o6⟩ := id ho
  refine stI (cc := cX3_sample) (maxL := 4) (lv := [(0, .ref (ad (0))), (1, .int (iI (z))), (2, .int (iI (p))), (3, .int (iI (w)))]) (by decide) rfl (Nat.le_of_ble_eq_true rfl) rfl (fun X C hret => ?_)
  have m0 : Cond.fieldLink RX3 115 "WordSamples$Words" "values" "[I" ∈ wsX3_sample := by decide +kernel
  have m1 : ∀ w ∈ wsX20, w ∈ wsX3_sample := by decide +kernel
  have m2 : Cond.fieldLink RX3 118 "WordSamples$Words" "codes" "[I" ∈ wsX3_sample := by decide +kernel
  have m3 : Cond.fieldLink RX3 121 "WordSamples$Words" "times" "[I" ∈ wsX3_sample := by decide +kernel
  refine r_aload_n C dX3_sample_0 rfl rfl ?_
  refine r_iload_n C dX3_sample_1 rfl rfl ?_
  refine r_callV (As := [.int (iI (z))]) (rest := []) (na := 1) C (c_X3_noRow G tc l ad N _ s hX ho hN z hz) gX3_sample_X3_noRow rfl rfl rfl (by decide +kernel) ⟨Nat.le_of_ble_eq_true rfl, Nat.le_of_ble_eq_true rfl⟩ (by omega) h0 (show vwCl[3]? = some (RX3, TX3, 11) from rfl) rfl rfl (Nat.le_of_ble_eq_true rfl) dX3_sample_2 ⟨Nat.le_of_ble_eq_true rfl, Nat.le_of_ble_eq_true rfl⟩ (aft_I (fun f1 hF2 => ?_))
  rw [hF2]
  refine r_if_ne (tgt := 21) C ⟨by omega, by omega⟩ dX3_sample_5 (by decide) (fun b3 => ?_) (fun b3 => ?_)
  · refine r_iconst C ((-1)) (by decide) dX3_sample_21 ?_
    exact hret f ((-1)) _ _ dX3_sample_22 (by unfold aSmp; rw [if_neg (by omega)]) (⟨hX, fun _ _ => rfl⟩)
  · refine r_iload_n C dX3_sample_8 rfl rfl ?_
    refine r_if_lt (tgt := 21) C ⟨by omega, by omega⟩ dX3_sample_9 (by decide) (fun b4 => ?_) (fun b4 => ?_)
    · refine r_iconst C ((-1)) (by decide) dX3_sample_21 ?_
      exact hret f ((-1)) _ _ dX3_sample_22 (by unfold aSmp; rw [if_neg (by omega)]) (⟨hX, fun _ _ => rfl⟩)
    · refine r_iload_n C dX3_sample_12 rfl rfl ?_
      refine r_aload_n C dX3_sample_13 rfl rfl ?_
      have qsm := smp_le (cur s) z.toNat
      have q64 := wds_le ho.1 (r := z.toNat) (by omega)
      refine r_iload_n C dX3_sample_14 rfl rfl ?_
      rw [show (.int (iI (z)) : Value) = .int (iI ((z.toNat : Nat) : Int)) from by rw [Int.toNat_of_nonneg (by omega)]]
      refine r_callV (As := [.int (iI ((z.toNat : Nat) : Int))]) (rest := [.int (iI (p))]) (na := 1) C (c_X3_sampleSize G tc l ad N _ s hX ho hN z.toNat (by omega)) gX3_sample_X3_sampleSize rfl rfl rfl (by decide +kernel) ⟨Nat.le_of_ble_eq_true rfl, Nat.le_of_ble_eq_true rfl⟩ (by omega) h0 (show vwCl[3]? = some (RX3, TX3, 11) from rfl) rfl rfl (Nat.le_of_ble_eq_true rfl) dX3_sample_15 ⟨Nat.le_of_ble_eq_true rfl, Nat.le_of_ble_eq_true rfl⟩ (aft_I (fun f7 hF8 => ?_))
      obtain ⟨hx5, ow6⟩ := hF8
      refine r_icmp_lt (tgt := 23) C ⟨by omega, by omega⟩ ⟨by omega, by omega⟩ dX3_sample_18 (by decide) (fun b9 => ?_) (fun b9 => ?_)
      · obtain ⟨x10, ⟨x11, x12, x13, x14⟩, -⟩ := id hx5
        refine r_iload_n C dX3_sample_23 rfl rfl ?_
        by_cases s15 : (w) = 0
        · refine r_tin (tgt := 52) C ⟨by omega, by omega⟩ dX3_sample_24 (by omega) (by omega) (by rw [s15]; rfl) (by decide) ?_
          refine r_aload_n C dX3_sample_52 rfl rfl ?_
          refine r_iload_n C dX3_sample_53 rfl rfl ?_
          refine r_callV (As := [.int (iI ((z.toNat : Nat) : Int))]) (rest := []) (na := 1) C (c_X3_wordsOf G tc l ad N _ s hx5 ho hN z.toNat (by omega)) gX3_sample_X3_wordsOf rfl rfl rfl (by decide +kernel) ⟨Nat.le_of_ble_eq_true rfl, Nat.le_of_ble_eq_true rfl⟩ (by omega) x10 (show vwCl[3]? = some (RX3, TX3, 11) from rfl) rfl rfl (Nat.le_of_ble_eq_true rfl) dX3_sample_54 ⟨Nat.le_of_ble_eq_true rfl, Nat.le_of_ble_eq_true rfl⟩ (aft_A (fun f27 hF28 => ?_))
          obtain ⟨hx16, hw17, ow18⟩ := hF28
          obtain ⟨wv19, wc20, wt21, y22, y23, y24, y25, yw26⟩ := id hw17
          refine r_get (v := .ref (ad (42 + 4 * z.toNat + 1))) C (by omega) y22 (show vwCl[2]? = some (RX2, TX2, 4) from rfl) m1 0 (by decide) m0 rfl rfl dX3_sample_57 ?_
          refine r_iload_n C dX3_sample_60 rfl rfl ?_
          refine r_iald (x := (iI (((wds (cur s) z.toNat).2.1 p.toNat : Nat) : Int))) C (by omega) y23 (p.toNat) (by omega) (by omega) (Nat.le_of_ble_eq_true rfl) ((yw26 _ (by omega)).1) dX3_sample_61 ?_
          exact hret f27 (((wds (cur s) z.toNat).2.1 p.toNat : Nat) : Int) _ _ dX3_sample_62 (by unfold aSmp; rw [if_pos (by omega), if_pos (by omega)]) (⟨hx16, fun q hq => ((ow18 _ (by omega))).trans (ow6 _ (by omega))⟩)
        by_cases s29 : (w) = 1
        · refine r_tin (tgt := 63) C ⟨by omega, by omega⟩ dX3_sample_24 (by omega) (by omega) (by rw [s29]; rfl) (by decide) ?_
          refine r_aload_n C dX3_sample_63 rfl rfl ?_
          refine r_iload_n C dX3_sample_64 rfl rfl ?_
          refine r_callV (As := [.int (iI ((z.toNat : Nat) : Int))]) (rest := []) (na := 1) C (c_X3_wordsOf G tc l ad N _ s hx5 ho hN z.toNat (by omega)) gX3_sample_X3_wordsOf rfl rfl rfl (by decide +kernel) ⟨Nat.le_of_ble_eq_true rfl, Nat.le_of_ble_eq_true rfl⟩ (by omega) x10 (show vwCl[3]? = some (RX3, TX3, 11) from rfl) rfl rfl (Nat.le_of_ble_eq_true rfl) dX3_sample_65 ⟨Nat.le_of_ble_eq_true rfl, Nat.le_of_ble_eq_true rfl⟩ (aft_A (fun f41 hF42 => ?_))
          obtain ⟨hx30, hw31, ow32⟩ := hF42
          obtain ⟨wv33, wc34, wt35, y36, y37, y38, y39, yw40⟩ := id hw31
          refine r_get (v := .ref (ad (42 + 4 * z.toNat + 2))) C (by omega) y36 (show vwCl[2]? = some (RX2, TX2, 4) from rfl) m1 1 (by decide) m2 rfl rfl dX3_sample_68 ?_
          refine r_iload_n C dX3_sample_71 rfl rfl ?_
          refine r_iald (x := (iI (((wds (cur s) z.toNat).2.2.1 p.toNat : Nat) : Int))) C (by omega) y38 (p.toNat) (by omega) (by omega) (Nat.le_of_ble_eq_true rfl) ((yw40 _ (by omega)).2.1) dX3_sample_72 ?_
          exact hret f41 (((wds (cur s) z.toNat).2.2.1 p.toNat : Nat) : Int) _ _ dX3_sample_73 (by unfold aSmp; rw [if_pos (by omega), if_neg (by omega), if_pos (by omega)]) (⟨hx30, fun q hq => ((ow32 _ (by omega))).trans (ow6 _ (by omega))⟩)
        by_cases s43 : (w) = 2
        · refine r_tin (tgt := 74) C ⟨by omega, by omega⟩ dX3_sample_24 (by omega) (by omega) (by rw [s43]; rfl) (by decide) ?_
          refine r_aload_n C dX3_sample_74 rfl rfl ?_
          refine r_iload_n C dX3_sample_75 rfl rfl ?_
          refine r_callV (As := [.int (iI ((z.toNat : Nat) : Int))]) (rest := []) (na := 1) C (c_X3_wordsOf G tc l ad N _ s hx5 ho hN z.toNat (by omega)) gX3_sample_X3_wordsOf rfl rfl rfl (by decide +kernel) ⟨Nat.le_of_ble_eq_true rfl, Nat.le_of_ble_eq_true rfl⟩ (by omega) x10 (show vwCl[3]? = some (RX3, TX3, 11) from rfl) rfl rfl (Nat.le_of_ble_eq_true rfl) dX3_sample_76 ⟨Nat.le_of_ble_eq_true rfl, Nat.le_of_ble_eq_true rfl⟩ (aft_A (fun f55 hF56 => ?_))
          obtain ⟨hx44, hw45, ow46⟩ := hF56
          obtain ⟨wv47, wc48, wt49, y50, y51, y52, y53, yw54⟩ := id hw45
          refine r_get (v := .ref (ad (42 + 4 * z.toNat + 3))) C (by omega) y50 (show vwCl[2]? = some (RX2, TX2, 4) from rfl) m1 2 (by decide) m3 rfl rfl dX3_sample_79 ?_
          refine r_iload_n C dX3_sample_82 rfl rfl ?_
          refine r_iald (x := (iI (((wds (cur s) z.toNat).2.2.2 p.toNat : Nat) : Int))) C (by omega) y53 (p.toNat) (by omega) (by omega) (Nat.le_of_ble_eq_true rfl) ((yw54 _ (by omega)).2.2) dX3_sample_83 ?_
          exact hret f55 (((wds (cur s) z.toNat).2.2.2 p.toNat : Nat) : Int) _ _ dX3_sample_84 (by unfold aSmp; rw [if_pos (by omega), if_neg (by omega), if_neg (by omega), if_pos (by omega)]) (⟨hx44, fun q hq => ((ow46 _ (by omega))).trans (ow6 _ (by omega))⟩)
        refine r_tout (tgt := 85) C ⟨by omega, by omega⟩ dX3_sample_24 (by omega) (by decide) ?_
        refine r_bipush C ((-2)) (by decide) dX3_sample_85 ?_
        exact hret f7 ((-2)) _ _ dX3_sample_87 (by unfold aSmp; rw [if_pos (by omega), if_neg (by omega), if_neg (by omega), if_neg (by omega)]) (⟨hx5, fun q hq => (ow6 _ (by omega))⟩)
      · refine r_iconst C ((-1)) (by decide) dX3_sample_21 ?_
        exact hret f7 ((-1)) _ _ dX3_sample_22 (by unfold aSmp; rw [if_neg (by omega)]) (⟨hx5, fun q hq => (ow6 _ (by omega))⟩)
set_option maxHeartbeats 4000000 in
set_option maxRecDepth 100000 in
/-- shareDown -/
theorem c_X3_shareDown (G : va_G) (tc : Nat → ClassId) (l : Launch) (ad : Nat → Nat) (N : Nat) (f : Nat → va_E) (p w : Nat) (hp : p ≤ 1000) (hw : w ≤ 1000)   : Ct G tc l yX3_shareDown wsX3_shareDown { frames := 0, cells := 0, slots := 0, locals := 0 } 0 0 [.int (iI ((p : Nat) : Int)), .int (iI ((w : Nat) : Int))] ad N f (poI ad N (((shd p w : Nat) : Int)) (fun f' => f' = f)) := by
  refine stI (cc := cX3_shareDown) (maxL := 2) (lv := [(0, .int (iI ((p : Nat) : Int))), (1, .int (iI ((w : Nat) : Int)))]) (by decide) rfl (Nat.le_of_ble_eq_true rfl) rfl (fun X C hret => ?_)
  refine r_iload_n C dX3_shareDown_0 rfl rfl ?_
  refine r_if_gt (tgt := 8) C ⟨by omega, by omega⟩ dX3_shareDown_1 (by decide) (fun b1 => ?_) (fun b1 => ?_)
  · refine r_iload_n C dX3_shareDown_8 rfl rfl ?_
    refine r_sipush C ((10000 : Nat) : Int) (by decide) dX3_shareDown_9 ?_
    refine r_imul C ((p * 10000 : Nat) : Int) (by omega) dX3_shareDown_12 ?_
    refine r_iload_n C dX3_shareDown_13 rfl rfl ?_
    refine r_idiv C ((p * 10000 / w : Nat) : Int) (Int.natCast_ediv _ _).symm ⟨by omega, by omega⟩ (by omega) ⟨by omega, by omega⟩ (by omega) dX3_shareDown_14 ?_
    exact hret f ((p * 10000 / w : Nat) : Int) _ _ dX3_shareDown_15 (by unfold shd; rw [if_neg (by omega)]) rfl
  · refine r_iconst C ((0 : Nat) : Int) (by decide) dX3_shareDown_4 ?_
    refine r_goto (tgt := 15) C dX3_shareDown_5 (by decide) ?_
    exact hret f ((0 : Nat) : Int) _ _ dX3_shareDown_15 (by unfold shd; rw [if_pos (by omega)]) rfl
set_option maxHeartbeats 4000000 in
set_option maxRecDepth 100000 in
/-- shareUp -/
theorem c_X3_shareUp (G : va_G) (tc : Nat → ClassId) (l : Launch) (ad : Nat → Nat) (N : Nat) (f : Nat → va_E) (p w : Nat) (hp : p ≤ 1000) (hw : w ≤ 1000)   : Ct G tc l yX3_shareUp wsX3_shareUp { frames := 0, cells := 0, slots := 0, locals := 0 } 0 0 [.int (iI ((p : Nat) : Int)), .int (iI ((w : Nat) : Int))] ad N f (poI ad N (((shu p w : Nat) : Int)) (fun f' => f' = f)) := by
  refine stI (cc := cX3_shareUp) (maxL := 2) (lv := [(0, .int (iI ((p : Nat) : Int))), (1, .int (iI ((w : Nat) : Int)))]) (by decide) rfl (Nat.le_of_ble_eq_true rfl) rfl (fun X C hret => ?_)
  refine r_iload_n C dX3_shareUp_0 rfl rfl ?_
  refine r_if_gt (tgt := 8) C ⟨by omega, by omega⟩ dX3_shareUp_1 (by decide) (fun b1 => ?_) (fun b1 => ?_)
  · refine r_iload_n C dX3_shareUp_8 rfl rfl ?_
    refine r_sipush C ((10000 : Nat) : Int) (by decide) dX3_shareUp_9 ?_
    refine r_imul C ((p * 10000 : Nat) : Int) (by omega) dX3_shareUp_12 ?_
    refine r_iload_n C dX3_shareUp_13 rfl rfl ?_
    refine r_iadd C ((p * 10000 + w : Nat) : Int) (by omega) dX3_shareUp_14 ?_
    refine r_iconst C ((1 : Nat) : Int) (by decide) dX3_shareUp_15 ?_
    refine r_isub C ((p * 10000 + w - 1 : Nat) : Int) (by omega) dX3_shareUp_16 ?_
    refine r_iload_n C dX3_shareUp_17 rfl rfl ?_
    refine r_idiv C (((p * 10000 + w - 1) / w : Nat) : Int) (Int.natCast_ediv _ _).symm ⟨by omega, by omega⟩ (by omega) ⟨by omega, by omega⟩ (by omega) dX3_shareUp_18 ?_
    exact hret f (((p * 10000 + w - 1) / w : Nat) : Int) _ _ dX3_shareUp_19 (by unfold shu; rw [if_neg (by omega)]) rfl
  · refine r_iconst C ((0 : Nat) : Int) (by decide) dX3_shareUp_4 ?_
    refine r_goto (tgt := 19) C dX3_shareUp_5 (by decide) ?_
    exact hret f ((0 : Nat) : Int) _ _ dX3_shareUp_19 (by unfold shu; rw [if_pos (by omega)]) rfl
set_option maxHeartbeats 4000000 in
set_option maxRecDepth 100000 in
/-- measure: two rows are run through together -/
theorem c_X0_measure (G : va_G) (tc : Nat → ClassId) (l : Launch) (ad : Nat → Nat) (N : Nat) (f : Nat → va_E) (a b : WW) (ha64 : a.1 ≤ 64) (hb64 : b.1 ≤ 64) (ha : ∀ j, j < a.1 → a.2.1 j < 1000003) (hb : ∀ j, j < b.1 → b.2.1 j < 1000003) (ia ib : Nat) (hN : 98 ≤ N) (hia : ia + 4 ≤ 83) (hib : ib + 4 ≤ 83) (hwa : isWd tc ad f ia a) (hwb : isWd tc ad f ib b) (hpr : iPr tc ad f)   : Ct G tc l yX0_measure wsX0_measure { frames := 1, cells := 0, slots := 0, locals := 21 } 0 0 [.ref (ad (83)), .ref (ad (ia)), .ref (ad (ib))] ad N f (poV ad N (fun f' => isPr tc ad f' a b ∧ ∀ q, (q < 83 ∨ 87 ≤ q) → f' q = f q)) := by
  obtain ⟨x1, x2, x3, x4, e1, e2, e3, p0, p1, p2, p3, z1, z2, z3⟩ := id hpr
  obtain ⟨av, ac, at_, ya0, ya1, ya2, ya3, yaw⟩ := id hwa
  obtain ⟨bv, bc, bt_, yb0, yb1, yb2, yb3, ybw⟩ := id hwb
  refine stV (cc := cX0_measure) (maxL := 8) (lv := [(0, .ref (ad (83))), (1, .ref (ad (ia))), (2, .ref (ad (ib)))]) (by decide) rfl (Nat.le_of_ble_eq_true rfl) rfl (fun X C hret => ?_)
  have m0 : Cond.fieldLink RX0 34 "WordSamples$Words" "size" "I" ∈ wsX0_measure := by decide +kernel
  have m1 : ∀ w ∈ wsX20, w ∈ wsX0_measure := by decide +kernel
  have m2 : Cond.fieldLink RX0 21 "WordSamples$Pair" "firstWords" "I" ∈ wsX0_measure := by decide +kernel
  have m3 : ∀ w ∈ wsX00, w ∈ wsX0_measure := by decide +kernel
  have m4 : Cond.fieldLink RX0 25 "WordSamples$Pair" "secondWords" "I" ∈ wsX0_measure := by decide +kernel
  have m5 : Cond.fieldLink RX0 28 "WordSamples$Pair" "inEither" "I" ∈ wsX0_measure := by decide +kernel
  have m6 : Cond.fieldLink RX0 31 "WordSamples$Pair" "inBoth" "I" ∈ wsX0_measure := by decide +kernel
  have m7 : Cond.fieldLink RX0 15 "WordSamples$Pair" "firstAmong" "[I" ∈ wsX0_measure := by decide +kernel
  have m8 : Cond.fieldLink RX0 18 "WordSamples$Pair" "secondAmong" "[I" ∈ wsX0_measure := by decide +kernel
  have m9 : Cond.fieldLink RX0 9 "WordSamples$Pair" "bothAmong" "[I" ∈ wsX0_measure := by decide +kernel
  have m10 : Cond.constant RX0 43 (1000003) ∈ wsX0_measure := by decide +kernel
  refine r_aload_n C dX0_measure_0 rfl rfl ?_
  refine r_aload_n C dX0_measure_1 rfl rfl ?_
  refine r_get (v := .int (iI ((a.1 : Nat) : Int))) C (by omega) ya0 (show vwCl[2]? = some (RX2, TX2, 4) from rfl) m1 3 (by decide) m0 rfl rfl dX0_measure_2 ?_
  refine r_put (ty := .int) C (by omega) p0 (show vwCl[0]? = some (RX0, TX0, 7) from rfl) m3 tyX0_ok nmX0 3 (by decide) m2 rfl rfl (by decide +kernel) rfl rfl (Nat.le_of_ble_eq_true rfl) dX0_measure_5 (fun f1 hs2 ho3 => ?_)
  have c4 : f1 (83) = eO 0 [.ref (ad (84)), .ref (ad (85)), .ref (ad (86)), .int (iI ((a.1 : Nat) : Int)), .int (x2), .int (x3), .int (x4)] := hs2
  refine r_aload_n C dX0_measure_8 rfl rfl ?_
  refine r_aload_n C dX0_measure_9 rfl rfl ?_
  have c5 : f1 (ib) = eO 2 [.ref (ad (ib + 1)), .ref (ad (ib + 2)), .ref (ad (ib + 3)), .int (iI ((b.1 : Nat) : Int))] := (ho3 _ (by omega)).trans yb0
  refine r_get (v := .int (iI ((b.1 : Nat) : Int))) C (by omega) c5 (show vwCl[2]? = some (RX2, TX2, 4) from rfl) m1 3 (by decide) m0 rfl rfl dX0_measure_10 ?_
  refine r_put (ty := .int) C (by omega) c4 (show vwCl[0]? = some (RX0, TX0, 7) from rfl) m3 tyX0_ok nmX0 4 (by decide) m4 rfl rfl (by decide +kernel) rfl rfl (Nat.le_of_ble_eq_true rfl) dX0_measure_13 (fun f6 hs7 ho8 => ?_)
  have c9 : f6 (83) = eO 0 [.ref (ad (84)), .ref (ad (85)), .ref (ad (86)), .int (iI ((a.1 : Nat) : Int)), .int (iI ((b.1 : Nat) : Int)), .int (x3), .int (x4)] := hs7
  refine r_aload_n C dX0_measure_16 rfl rfl ?_
  refine r_iconst C ((0 : Nat) : Int) (by decide) dX0_measure_17 ?_
  refine r_put (ty := .int) C (by omega) c9 (show vwCl[0]? = some (RX0, TX0, 7) from rfl) m3 tyX0_ok nmX0 5 (by decide) m5 rfl rfl (by decide +kernel) rfl rfl (Nat.le_of_ble_eq_true rfl) dX0_measure_18 (fun f10 hs11 ho12 => ?_)
  have c13 : f10 (83) = eO 0 [.ref (ad (84)), .ref (ad (85)), .ref (ad (86)), .int (iI ((a.1 : Nat) : Int)), .int (iI ((b.1 : Nat) : Int)), .int (iI ((0 : Nat) : Int)), .int (x4)] := hs11
  refine r_aload_n C dX0_measure_21 rfl rfl ?_
  refine r_iconst C ((0 : Nat) : Int) (by decide) dX0_measure_22 ?_
  refine r_put (ty := .int) C (by omega) c13 (show vwCl[0]? = some (RX0, TX0, 7) from rfl) m3 tyX0_ok nmX0 6 (by decide) m6 rfl rfl (by decide +kernel) rfl rfl (Nat.le_of_ble_eq_true rfl) dX0_measure_23 (fun f14 hs15 ho16 => ?_)
  have c17 : f14 (83) = eO 0 [.ref (ad (84)), .ref (ad (85)), .ref (ad (86)), .int (iI ((a.1 : Nat) : Int)), .int (iI ((b.1 : Nat) : Int)), .int (iI ((0 : Nat) : Int)), .int (iI ((0 : Nat) : Int))] := hs15
  refine r_iconst C ((0 : Nat) : Int) (by decide) dX0_measure_26 ?_
  refine r_istore_n (lv' := [(0, .ref (ad (83))), (1, .ref (ad (ia))), (2, .ref (ad (ib))), (3, .int (iI ((0 : Nat) : Int)))]) C dX0_measure_27 rfl (by decide) rfl ?_
  refine r_iconst C ((0 : Nat) : Int) (by decide) dX0_measure_28 ?_
  refine r_istore (lv' := [(0, .ref (ad (83))), (1, .ref (ad (ia))), (2, .ref (ad (ib))), (3, .int (iI ((0 : Nat) : Int))), (4, .int (iI ((0 : Nat) : Int)))]) C dX0_measure_29 (by decide) rfl ?_
  refine r_iconst C ((0 : Nat) : Int) (by decide) dX0_measure_31 ?_
  refine r_istore (lv' := [(0, .ref (ad (83))), (1, .ref (ad (ia))), (2, .ref (ad (ib))), (3, .int (iI ((0 : Nat) : Int))), (4, .int (iI ((0 : Nat) : Int))), (5, .int (iI ((0 : Nat) : Int)))]) C dX0_measure_32 (by decide) rfl ?_
  have hL24 : ∀ (m_25 : Nat) (k : Nat) (d1 : Nat → Int32) (d2 : Nat → Int32) (d3 : Nat → Int32) (f18 : Nat → va_E) (hm19 : f18 (83) = eO 0 [.ref (ad (84)), .ref (ad (85)), .ref (ad (86)), .int (iI ((a.1 : Nat) : Int)), .int (iI ((b.1 : Nat) : Int)), .int (iI ((k : Nat) : Int)), .int (iI (((mg a b (k)).2.2 : Nat) : Int))]) (hm20 : f18 (84) = eI tc 33 (d1)) (hm21 : f18 (85) = eI tc 33 (d2)) (hm22 : f18 (86) = eI tc 33 (d3)) (ho23 : ∀ q, (q < 83 ∨ 87 ≤ q) → f18 q = f14 q) (hk : k ≤ a.1 + b.1) (hinv : (mg a b (k)).1 + (mg a b (k)).2.1 = k + (mg a b (k)).2.2) (hd : ∀ t, t ≤ 32 → t ≤ k → d1 t = iI (((mg a b (t)).2.2 : Nat) : Int) ∧ d2 t = iI (((mg a b (t)).1 : Nat) : Int) ∧ d3 t = iI (((mg a b (t)).2.1 : Nat) : Int)), a.1 + b.1 - k < m_25 → VV X ad N f18 0 0 34 [(0, .ref (ad (83))), (1, .ref (ad (ia))), (2, .ref (ad (ib))), (3, .int (iI (((mg a b (k)).1 : Nat) : Int))), (4, .int (iI (((mg a b (k)).2.1 : Nat) : Int))), (5, .int (iI ((k : Nat) : Int)))] [] := by
    intro m_25
    induction m_25 with
    | zero => intros; omega
    | succ m_25 ih26 =>
      intro k d1 d2 d3 f18 hm19 hm20 hm21 hm22 ho23 hk hinv hd hm27
      refine r_iload C dX0_measure_34 rfl ?_
      have hmi0 := mg_in ha hb k
      refine r_aload_n C dX0_measure_36 rfl rfl ?_
      refine r_get (v := .int (iI ((a.1 : Nat) : Int))) C (by omega) hm19 (show vwCl[0]? = some (RX0, TX0, 7) from rfl) m3 3 (by decide) m2 rfl rfl dX0_measure_37 ?_
      refine r_aload_n C dX0_measure_40 rfl rfl ?_
      refine r_get (v := .int (iI ((b.1 : Nat) : Int))) C (by omega) hm19 (show vwCl[0]? = some (RX0, TX0, 7) from rfl) m3 4 (by decide) m4 rfl rfl dX0_measure_41 ?_
      refine r_iadd C ((a.1 + b.1 : Nat) : Int) (by omega) dX0_measure_44 ?_
      refine r_icmp_ge (tgt := 192) C ⟨by omega, by omega⟩ ⟨by omega, by omega⟩ dX0_measure_45 (by decide) (fun b28 => ?_) (fun b28 => ?_)
      · have hfin := mg_fin ha hb (k := k) (by omega) (by omega) hinv
        have hisP : isPr tc ad f18 a b := ⟨_, _, _, by rw [← hfin.1, ← hfin.2]; exact hm19, hm20, hm21, hm22, fun t h1 h2 => hd t h1 (by omega)⟩
        exact hret f18 _ _ dX0_measure_192 (⟨hisP, fun q hq => (((((ho23 _ (by omega))).trans (ho16 _ (by omega))).trans (ho12 _ (by omega))).trans (ho8 _ (by omega))).trans (ho3 _ (by omega))⟩)
      · have hmi := mg_in ha hb k
        refine r_aload_n C dX0_measure_48 rfl rfl ?_
        refine r_iload_n C dX0_measure_49 rfl rfl ?_
        have c31 : f1 (ia) = eO 2 [.ref (ad (ia + 1)), .ref (ad (ia + 2)), .ref (ad (ia + 3)), .int (iI ((a.1 : Nat) : Int))] := (ho3 _ (by omega)).trans ya0
        have c32 : f6 (ia) = eO 2 [.ref (ad (ia + 1)), .ref (ad (ia + 2)), .ref (ad (ia + 3)), .int (iI ((a.1 : Nat) : Int))] := (ho8 _ (by omega)).trans c31
        have c33 : f10 (ia) = eO 2 [.ref (ad (ia + 1)), .ref (ad (ia + 2)), .ref (ad (ia + 3)), .int (iI ((a.1 : Nat) : Int))] := (ho12 _ (by omega)).trans c32
        have c34 : f14 (ia) = eO 2 [.ref (ad (ia + 1)), .ref (ad (ia + 2)), .ref (ad (ia + 3)), .int (iI ((a.1 : Nat) : Int))] := (ho16 _ (by omega)).trans c33
        have c35 : f18 (ia) = eO 2 [.ref (ad (ia + 1)), .ref (ad (ia + 2)), .ref (ad (ia + 3)), .int (iI ((a.1 : Nat) : Int))] := (ho23 _ (by omega)).trans c34
        refine r_callV (As := [.int (iI (((mg a b (k)).1 : Nat) : Int))]) (rest := []) (na := 1) C (c_X2_valueAt G tc l ad N _ ia a ((hwa).fr (fun q g1 g2 => (((((ho23 _ (by omega))).trans (ho16 _ (by omega))).trans (ho12 _ (by omega))).trans (ho8 _ (by omega))).trans (ho3 _ (by omega)))) (by omega) ha64 ha (((mg a b (k)).1 : Nat) : Int) ⟨by omega, by omega⟩) gX0_measure_X2_valueAt rfl rfl rfl (by decide +kernel) ⟨Nat.le_of_ble_eq_true rfl, Nat.le_of_ble_eq_true rfl⟩ (by omega) c35 (show vwCl[2]? = some (RX2, TX2, 4) from rfl) rfl rfl (Nat.le_of_ble_eq_true rfl) dX0_measure_50 ⟨Nat.le_of_ble_eq_true rfl, Nat.le_of_ble_eq_true rfl⟩ (aft_I (fun f29 hF30 => ?_))
        rw [hF30]
        rw [show (.int (iI (vat a (((mg a b (k)).1 : Nat) : Int))) : Value) = .int (iI ((vatN a (mg a b (k)).1 : Nat) : Int)) from by rw [vat_N]]
        refine r_istore (lv' := [(0, .ref (ad (83))), (1, .ref (ad (ia))), (2, .ref (ad (ib))), (3, .int (iI (((mg a b (k)).1 : Nat) : Int))), (4, .int (iI (((mg a b (k)).2.1 : Nat) : Int))), (5, .int (iI ((k : Nat) : Int))), (6, .int (iI ((vatN a (mg a b (k)).1 : Nat) : Int)))]) C dX0_measure_53 (by decide) rfl ?_
        refine r_aload_n C dX0_measure_55 rfl rfl ?_
        refine r_iload C dX0_measure_56 rfl ?_
        have c38 : f6 (ib) = eO 2 [.ref (ad (ib + 1)), .ref (ad (ib + 2)), .ref (ad (ib + 3)), .int (iI ((b.1 : Nat) : Int))] := (ho8 _ (by omega)).trans c5
        have c39 : f10 (ib) = eO 2 [.ref (ad (ib + 1)), .ref (ad (ib + 2)), .ref (ad (ib + 3)), .int (iI ((b.1 : Nat) : Int))] := (ho12 _ (by omega)).trans c38
        have c40 : f14 (ib) = eO 2 [.ref (ad (ib + 1)), .ref (ad (ib + 2)), .ref (ad (ib + 3)), .int (iI ((b.1 : Nat) : Int))] := (ho16 _ (by omega)).trans c39
        have c41 : f18 (ib) = eO 2 [.ref (ad (ib + 1)), .ref (ad (ib + 2)), .ref (ad (ib + 3)), .int (iI ((b.1 : Nat) : Int))] := (ho23 _ (by omega)).trans c40
        refine r_callV (As := [.int (iI (((mg a b (k)).2.1 : Nat) : Int))]) (rest := []) (na := 1) C (c_X2_valueAt G tc l ad N _ ib b ((hwb).fr (fun q g1 g2 => (((((ho23 _ (by omega))).trans (ho16 _ (by omega))).trans (ho12 _ (by omega))).trans (ho8 _ (by omega))).trans (ho3 _ (by omega)))) (by omega) hb64 hb (((mg a b (k)).2.1 : Nat) : Int) ⟨by omega, by omega⟩) gX0_measure_X2_valueAt rfl rfl rfl (by decide +kernel) ⟨Nat.le_of_ble_eq_true rfl, Nat.le_of_ble_eq_true rfl⟩ (by omega) c41 (show vwCl[2]? = some (RX2, TX2, 4) from rfl) rfl rfl (Nat.le_of_ble_eq_true rfl) dX0_measure_58 ⟨Nat.le_of_ble_eq_true rfl, Nat.le_of_ble_eq_true rfl⟩ (aft_I (fun f36 hF37 => ?_))
        rw [hF37]
        rw [show (.int (iI (vat b (((mg a b (k)).2.1 : Nat) : Int))) : Value) = .int (iI ((vatN b (mg a b (k)).2.1 : Nat) : Int)) from by rw [vat_N]]
        refine r_istore (lv' := [(0, .ref (ad (83))), (1, .ref (ad (ia))), (2, .ref (ad (ib))), (3, .int (iI (((mg a b (k)).1 : Nat) : Int))), (4, .int (iI (((mg a b (k)).2.1 : Nat) : Int))), (5, .int (iI ((k : Nat) : Int))), (6, .int (iI ((vatN a (mg a b (k)).1 : Nat) : Int))), (7, .int (iI ((vatN b (mg a b (k)).2.1 : Nat) : Int)))]) C dX0_measure_61 (by decide) rfl ?_
        have l1 := vatN_le ha (mg a b (k)).1
        have l2 := vatN_le hb (mg a b (k)).2.1
        have n1 := vatN_end ha (mg a b (k)).1
        have n2 := vatN_end hb (mg a b (k)).2.1
        have hJ42 : ∀  (hnot : ¬ (vatN a (mg a b (k)).1 = 1000003 ∧ vatN b (mg a b (k)).2.1 = 1000003)), VV X ad N f18 0 0 80 [(0, .ref (ad (83))), (1, .ref (ad (ia))), (2, .ref (ad (ib))), (3, .int (iI (((mg a b (k)).1 : Nat) : Int))), (4, .int (iI (((mg a b (k)).2.1 : Nat) : Int))), (5, .int (iI ((k : Nat) : Int))), (6, .int (iI ((vatN a (mg a b (k)).1 : Nat) : Int))), (7, .int (iI ((vatN b (mg a b (k)).2.1 : Nat) : Int)))] [] := by
          intro hnot
          obtain ⟨s1, s2, s3⟩ := mg_step a b k hnot
          have hmi2 := mg_in ha hb (k + 1)
          have hJ43 : ∀ (t1 : Nat) (ht1 : (vatN a (mg a b (k)).1 ≤ vatN b (mg a b (k)).2.1 ∧ t1 = 1) ∨ (¬ vatN a (mg a b (k)).1 ≤ vatN b (mg a b (k)).2.1 ∧ t1 = 0)), VV X ad N f18 0 0 93 [(0, .ref (ad (83))), (1, .ref (ad (ia))), (2, .ref (ad (ib))), (3, .int (iI (((mg a b (k)).1 : Nat) : Int))), (4, .int (iI (((mg a b (k)).2.1 : Nat) : Int))), (5, .int (iI ((k : Nat) : Int))), (6, .int (iI ((vatN a (mg a b (k)).1 : Nat) : Int))), (7, .int (iI ((vatN b (mg a b (k)).2.1 : Nat) : Int)))] [.int (iI ((t1 : Nat) : Int)), .int (iI (((mg a b (k)).1 : Nat) : Int))] := by
            intro t1 ht1
            refine r_iadd C (((mg a b (k + 1)).1 : Nat) : Int) (by omega) dX0_measure_93 ?_
            refine r_istore_n (lv' := [(0, .ref (ad (83))), (1, .ref (ad (ia))), (2, .ref (ad (ib))), (3, .int (iI (((mg a b (k + 1)).1 : Nat) : Int))), (4, .int (iI (((mg a b (k)).2.1 : Nat) : Int))), (5, .int (iI ((k : Nat) : Int))), (6, .int (iI ((vatN a (mg a b (k)).1 : Nat) : Int))), (7, .int (iI ((vatN b (mg a b (k)).2.1 : Nat) : Int)))]) C dX0_measure_94 rfl (by decide) rfl ?_
            have hJ44 : ∀ (t2 : Nat) (ht2 : (vatN b (mg a b (k)).2.1 ≤ vatN a (mg a b (k)).1 ∧ t2 = 1) ∨ (¬ vatN b (mg a b (k)).2.1 ≤ vatN a (mg a b (k)).1 ∧ t2 = 0)), VV X ad N f18 0 0 109 [(0, .ref (ad (83))), (1, .ref (ad (ia))), (2, .ref (ad (ib))), (3, .int (iI (((mg a b (k + 1)).1 : Nat) : Int))), (4, .int (iI (((mg a b (k)).2.1 : Nat) : Int))), (5, .int (iI ((k : Nat) : Int))), (6, .int (iI ((vatN a (mg a b (k)).1 : Nat) : Int))), (7, .int (iI ((vatN b (mg a b (k)).2.1 : Nat) : Int)))] [.int (iI ((t2 : Nat) : Int)), .int (iI (((mg a b (k)).2.1 : Nat) : Int))] := by
              intro t2 ht2
              refine r_iadd C (((mg a b (k + 1)).2.1 : Nat) : Int) (by omega) dX0_measure_109 ?_
              refine r_istore (lv' := [(0, .ref (ad (83))), (1, .ref (ad (ia))), (2, .ref (ad (ib))), (3, .int (iI (((mg a b (k + 1)).1 : Nat) : Int))), (4, .int (iI (((mg a b (k + 1)).2.1 : Nat) : Int))), (5, .int (iI ((k : Nat) : Int))), (6, .int (iI ((vatN a (mg a b (k)).1 : Nat) : Int))), (7, .int (iI ((vatN b (mg a b (k)).2.1 : Nat) : Int)))]) C dX0_measure_110 (by decide) rfl ?_
              refine r_aload_n C dX0_measure_112 rfl rfl ?_
              refine r_dup C dX0_measure_113 rfl ?_
              refine r_get (v := .int (iI (((mg a b (k)).2.2 : Nat) : Int))) C (by omega) hm19 (show vwCl[0]? = some (RX0, TX0, 7) from rfl) m3 6 (by decide) m6 rfl rfl dX0_measure_114 ?_
              have hJ45 : ∀ (t3 : Nat) (ht3 : (vatN a (mg a b (k)).1 = vatN b (mg a b (k)).2.1 ∧ t3 = 1) ∨ (¬ vatN a (mg a b (k)).1 = vatN b (mg a b (k)).2.1 ∧ t3 = 0)), VV X ad N f18 0 0 129 [(0, .ref (ad (83))), (1, .ref (ad (ia))), (2, .ref (ad (ib))), (3, .int (iI (((mg a b (k + 1)).1 : Nat) : Int))), (4, .int (iI (((mg a b (k + 1)).2.1 : Nat) : Int))), (5, .int (iI ((k : Nat) : Int))), (6, .int (iI ((vatN a (mg a b (k)).1 : Nat) : Int))), (7, .int (iI ((vatN b (mg a b (k)).2.1 : Nat) : Int)))] [.int (iI ((t3 : Nat) : Int)), .int (iI (((mg a b (k)).2.2 : Nat) : Int)), .ref (ad (83))] := by
                intro t3 ht3
                refine r_iadd C (((mg a b (k + 1)).2.2 : Nat) : Int) (by omega) dX0_measure_129 ?_
                refine r_put (ty := .int) C (by omega) hm19 (show vwCl[0]? = some (RX0, TX0, 7) from rfl) m3 tyX0_ok nmX0 6 (by decide) m6 rfl rfl (by decide +kernel) rfl rfl (Nat.le_of_ble_eq_true rfl) dX0_measure_130 (fun f46 hs47 ho48 => ?_)
                have c49 : f46 (83) = eO 0 [.ref (ad (84)), .ref (ad (85)), .ref (ad (86)), .int (iI ((a.1 : Nat) : Int)), .int (iI ((b.1 : Nat) : Int)), .int (iI ((k : Nat) : Int)), .int (iI (((mg a b (k + 1)).2.2 : Nat) : Int))] := hs47
                refine r_aload_n C dX0_measure_133 rfl rfl ?_
                refine r_dup C dX0_measure_134 rfl ?_
                refine r_get (v := .int (iI ((k : Nat) : Int))) C (by omega) c49 (show vwCl[0]? = some (RX0, TX0, 7) from rfl) m3 5 (by decide) m5 rfl rfl dX0_measure_135 ?_
                refine r_iconst C ((1 : Nat) : Int) (by decide) dX0_measure_138 ?_
                refine r_iadd C ((k + 1 : Nat) : Int) (by omega) dX0_measure_139 ?_
                refine r_put (ty := .int) C (by omega) c49 (show vwCl[0]? = some (RX0, TX0, 7) from rfl) m3 tyX0_ok nmX0 5 (by decide) m5 rfl rfl (by decide +kernel) rfl rfl (Nat.le_of_ble_eq_true rfl) dX0_measure_140 (fun f50 hs51 ho52 => ?_)
                have c53 : f50 (83) = eO 0 [.ref (ad (84)), .ref (ad (85)), .ref (ad (86)), .int (iI ((a.1 : Nat) : Int)), .int (iI ((b.1 : Nat) : Int)), .int (iI ((k + 1 : Nat) : Int)), .int (iI (((mg a b (k + 1)).2.2 : Nat) : Int))] := hs51
                refine r_aload_n C dX0_measure_143 rfl rfl ?_
                refine r_get (v := .int (iI ((k + 1 : Nat) : Int))) C (by omega) c53 (show vwCl[0]? = some (RX0, TX0, 7) from rfl) m3 5 (by decide) m5 rfl rfl dX0_measure_144 ?_
                refine r_bipush C ((32 : Nat) : Int) (by decide) dX0_measure_147 ?_
                refine r_icmp_gt (tgt := 186) C ⟨by omega, by omega⟩ ⟨by omega, by omega⟩ dX0_measure_149 (by decide) (fun b54 => ?_) (fun b54 => ?_)
                · refine r_iinc (lv' := [(0, .ref (ad (83))), (1, .ref (ad (ia))), (2, .ref (ad (ib))), (3, .int (iI (((mg a b (k + 1)).1 : Nat) : Int))), (4, .int (iI (((mg a b (k + 1)).2.1 : Nat) : Int))), (5, .int (iI ((k + 1 : Nat) : Int))), (6, .int (iI ((vatN a (mg a b (k)).1 : Nat) : Int))), (7, .int (iI ((vatN b (mg a b (k)).2.1 : Nat) : Int)))]) C ((k + 1 : Nat) : Int) (by omega) dX0_measure_186 rfl (by decide) rfl ?_
                  refine r_goto (tgt := 34) C dX0_measure_189 (by decide) ?_
                  refine r_sub (ks := [0, 1, 2, 3, 4, 5]) (lv' := [(0, .ref (ad (83))), (1, .ref (ad (ia))), (2, .ref (ad (ib))), (3, .int (iI (((mg a b (k + 1)).1 : Nat) : Int))), (4, .int (iI (((mg a b (k + 1)).2.1 : Nat) : Int))), (5, .int (iI ((k + 1 : Nat) : Int)))]) rfl ?_
                  have c55 : f46 (84) = eI tc 33 (d1) := (ho48 _ (by omega)).trans hm20
                  have c56 : f50 (84) = eI tc 33 (d1) := (ho52 _ (by omega)).trans c55
                  have c57 : f46 (85) = eI tc 33 (d2) := (ho48 _ (by omega)).trans hm21
                  have c58 : f50 (85) = eI tc 33 (d2) := (ho52 _ (by omega)).trans c57
                  have c59 : f46 (86) = eI tc 33 (d3) := (ho48 _ (by omega)).trans hm22
                  have c60 : f50 (86) = eI tc 33 (d3) := (ho52 _ (by omega)).trans c59
                  exact ih26 (k + 1) d1 d2 d3 f50 c53 c56 c58 c60 (fun q hq => (((ho52 _ (by omega))).trans (ho48 _ (by omega))).trans (ho23 _ (by omega))) (by omega) (by omega) (fun t h1 h2 => hd t h1 (by omega)) (by omega)
                · refine r_aload_n C dX0_measure_152 rfl rfl ?_
                  refine r_get (v := .ref (ad (85))) C (by omega) c53 (show vwCl[0]? = some (RX0, TX0, 7) from rfl) m3 1 (by decide) m7 rfl rfl dX0_measure_153 ?_
                  refine r_aload_n C dX0_measure_156 rfl rfl ?_
                  refine r_get (v := .int (iI ((k + 1 : Nat) : Int))) C (by omega) c53 (show vwCl[0]? = some (RX0, TX0, 7) from rfl) m3 5 (by decide) m5 rfl rfl dX0_measure_157 ?_
                  refine r_iload_n C dX0_measure_160 rfl rfl ?_
                  have c61 : f46 (85) = eI tc 33 (d2) := (ho48 _ (by omega)).trans hm21
                  have c62 : f50 (85) = eI tc 33 (d2) := (ho52 _ (by omega)).trans c61
                  refine r_iast C (by omega) c62 (k + 1) rfl (by omega) (Nat.le_of_ble_eq_true rfl) dX0_measure_161 (fun f63 hs64 ho65 => ?_)
                  refine r_aload_n C dX0_measure_162 rfl rfl ?_
                  have c66 : f63 (83) = eO 0 [.ref (ad (84)), .ref (ad (85)), .ref (ad (86)), .int (iI ((a.1 : Nat) : Int)), .int (iI ((b.1 : Nat) : Int)), .int (iI ((k + 1 : Nat) : Int)), .int (iI (((mg a b (k + 1)).2.2 : Nat) : Int))] := (ho65 _ (by omega)).trans c53
                  refine r_get (v := .ref (ad (86))) C (by omega) c66 (show vwCl[0]? = some (RX0, TX0, 7) from rfl) m3 2 (by decide) m8 rfl rfl dX0_measure_163 ?_
                  refine r_aload_n C dX0_measure_166 rfl rfl ?_
                  refine r_get (v := .int (iI ((k + 1 : Nat) : Int))) C (by omega) c66 (show vwCl[0]? = some (RX0, TX0, 7) from rfl) m3 5 (by decide) m5 rfl rfl dX0_measure_167 ?_
                  refine r_iload C dX0_measure_170 rfl ?_
                  have c67 : f46 (86) = eI tc 33 (d3) := (ho48 _ (by omega)).trans hm22
                  have c68 : f50 (86) = eI tc 33 (d3) := (ho52 _ (by omega)).trans c67
                  have c69 : f63 (86) = eI tc 33 (d3) := (ho65 _ (by omega)).trans c68
                  refine r_iast C (by omega) c69 (k + 1) rfl (by omega) (Nat.le_of_ble_eq_true rfl) dX0_measure_172 (fun f70 hs71 ho72 => ?_)
                  refine r_aload_n C dX0_measure_173 rfl rfl ?_
                  have c73 : f70 (83) = eO 0 [.ref (ad (84)), .ref (ad (85)), .ref (ad (86)), .int (iI ((a.1 : Nat) : Int)), .int (iI ((b.1 : Nat) : Int)), .int (iI ((k + 1 : Nat) : Int)), .int (iI (((mg a b (k + 1)).2.2 : Nat) : Int))] := (ho72 _ (by omega)).trans c66
                  refine r_get (v := .ref (ad (84))) C (by omega) c73 (show vwCl[0]? = some (RX0, TX0, 7) from rfl) m3 0 (by decide) m9 rfl rfl dX0_measure_174 ?_
                  refine r_aload_n C dX0_measure_177 rfl rfl ?_
                  refine r_get (v := .int (iI ((k + 1 : Nat) : Int))) C (by omega) c73 (show vwCl[0]? = some (RX0, TX0, 7) from rfl) m3 5 (by decide) m5 rfl rfl dX0_measure_178 ?_
                  refine r_aload_n C dX0_measure_181 rfl rfl ?_
                  refine r_get (v := .int (iI (((mg a b (k + 1)).2.2 : Nat) : Int))) C (by omega) c73 (show vwCl[0]? = some (RX0, TX0, 7) from rfl) m3 6 (by decide) m6 rfl rfl dX0_measure_182 ?_
                  have c74 : f46 (84) = eI tc 33 (d1) := (ho48 _ (by omega)).trans hm20
                  have c75 : f50 (84) = eI tc 33 (d1) := (ho52 _ (by omega)).trans c74
                  have c76 : f63 (84) = eI tc 33 (d1) := (ho65 _ (by omega)).trans c75
                  have c77 : f70 (84) = eI tc 33 (d1) := (ho72 _ (by omega)).trans c76
                  refine r_iast C (by omega) c77 (k + 1) rfl (by omega) (Nat.le_of_ble_eq_true rfl) dX0_measure_185 (fun f78 hs79 ho80 => ?_)
                  refine r_iinc (lv' := [(0, .ref (ad (83))), (1, .ref (ad (ia))), (2, .ref (ad (ib))), (3, .int (iI (((mg a b (k + 1)).1 : Nat) : Int))), (4, .int (iI (((mg a b (k + 1)).2.1 : Nat) : Int))), (5, .int (iI ((k + 1 : Nat) : Int))), (6, .int (iI ((vatN a (mg a b (k)).1 : Nat) : Int))), (7, .int (iI ((vatN b (mg a b (k)).2.1 : Nat) : Int)))]) C ((k + 1 : Nat) : Int) (by omega) dX0_measure_186 rfl (by decide) rfl ?_
                  refine r_goto (tgt := 34) C dX0_measure_189 (by decide) ?_
                  refine r_sub (ks := [0, 1, 2, 3, 4, 5]) (lv' := [(0, .ref (ad (83))), (1, .ref (ad (ia))), (2, .ref (ad (ib))), (3, .int (iI (((mg a b (k + 1)).1 : Nat) : Int))), (4, .int (iI (((mg a b (k + 1)).2.1 : Nat) : Int))), (5, .int (iI ((k + 1 : Nat) : Int)))]) rfl ?_
                  have c81 : f78 (83) = eO 0 [.ref (ad (84)), .ref (ad (85)), .ref (ad (86)), .int (iI ((a.1 : Nat) : Int)), .int (iI ((b.1 : Nat) : Int)), .int (iI ((k + 1 : Nat) : Int)), .int (iI (((mg a b (k + 1)).2.2 : Nat) : Int))] := (ho80 _ (by omega)).trans c73
                  have c82 : f70 (85) = eI tc 33 (upd (d2) (k + 1) ((iI (((mg a b (k + 1)).1 : Nat) : Int)))) := (ho72 _ (by omega)).trans hs64
                  have c83 : f78 (85) = eI tc 33 (upd (d2) (k + 1) ((iI (((mg a b (k + 1)).1 : Nat) : Int)))) := (ho80 _ (by omega)).trans c82
                  have c84 : f78 (86) = eI tc 33 (upd (d3) (k + 1) ((iI (((mg a b (k + 1)).2.1 : Nat) : Int)))) := (ho80 _ (by omega)).trans hs71
                  exact ih26 (k + 1) (upd (d1) (k + 1) ((iI (((mg a b (k + 1)).2.2 : Nat) : Int)))) (upd (d2) (k + 1) ((iI (((mg a b (k + 1)).1 : Nat) : Int)))) (upd (d3) (k + 1) ((iI (((mg a b (k + 1)).2.1 : Nat) : Int)))) f78 c81 hs79 c83 c84 (fun q hq => ((((((ho80 _ (by omega))).trans (ho72 _ (by omega))).trans (ho65 _ (by omega))).trans (ho52 _ (by omega))).trans (ho48 _ (by omega))).trans (ho23 _ (by omega))) (by omega) (by omega) (fun t h1 h2 => if h : t = k + 1 then (by unfold upd; rw [if_pos h, if_pos h, if_pos h, h]; exact ⟨rfl, rfl, rfl⟩) else (by unfold upd; rw [if_neg h, if_neg h, if_neg h]; exact hd t h1 (by omega))) (by omega)
              refine r_iload C dX0_measure_117 rfl ?_
              refine r_iload C dX0_measure_119 rfl ?_
              refine r_icmp_ne (tgt := 128) C ⟨by omega, by omega⟩ ⟨by omega, by omega⟩ dX0_measure_121 (by decide) (fun b85 => ?_) (fun b85 => ?_)
              · refine r_iconst C ((0 : Nat) : Int) (by decide) dX0_measure_128 ?_
                exact hJ45 0 (by omega)
              · refine r_iconst C ((1 : Nat) : Int) (by decide) dX0_measure_124 ?_
                refine r_goto (tgt := 129) C dX0_measure_125 (by decide) ?_
                exact hJ45 1 (by omega)
            refine r_iload C dX0_measure_95 rfl ?_
            refine r_iload C dX0_measure_97 rfl ?_
            refine r_iload C dX0_measure_99 rfl ?_
            refine r_icmp_gt (tgt := 108) C ⟨by omega, by omega⟩ ⟨by omega, by omega⟩ dX0_measure_101 (by decide) (fun b86 => ?_) (fun b86 => ?_)
            · refine r_iconst C ((0 : Nat) : Int) (by decide) dX0_measure_108 ?_
              exact hJ44 0 (by omega)
            · refine r_iconst C ((1 : Nat) : Int) (by decide) dX0_measure_104 ?_
              refine r_goto (tgt := 109) C dX0_measure_105 (by decide) ?_
              exact hJ44 1 (by omega)
          refine r_iload_n C dX0_measure_80 rfl rfl ?_
          refine r_iload C dX0_measure_81 rfl ?_
          refine r_iload C dX0_measure_83 rfl ?_
          refine r_icmp_gt (tgt := 92) C ⟨by omega, by omega⟩ ⟨by omega, by omega⟩ dX0_measure_85 (by decide) (fun b87 => ?_) (fun b87 => ?_)
          · refine r_iconst C ((0 : Nat) : Int) (by decide) dX0_measure_92 ?_
            exact hJ43 0 (by omega)
          · refine r_iconst C ((1 : Nat) : Int) (by decide) dX0_measure_88 ?_
            refine r_goto (tgt := 93) C dX0_measure_89 (by decide) ?_
            exact hJ43 1 (by omega)
        refine r_iload C dX0_measure_63 rfl ?_
        refine r_ldc C ((1000003 : Nat) : Int) (by decide) m10 dX0_measure_65 ?_
        refine r_icmp_ne (tgt := 80) C ⟨by omega, by omega⟩ ⟨by omega, by omega⟩ dX0_measure_67 (by decide) (fun b88 => ?_) (fun b88 => ?_)
        · exact hJ42 (by omega)
        · refine r_iload C dX0_measure_70 rfl ?_
          refine r_ldc C ((1000003 : Nat) : Int) (by decide) m10 dX0_measure_72 ?_
          refine r_icmp_ne (tgt := 80) C ⟨by omega, by omega⟩ ⟨by omega, by omega⟩ dX0_measure_74 (by decide) (fun b89 => ?_) (fun b89 => ?_)
          · exact hJ42 (by omega)
          · refine r_goto (tgt := 192) C dX0_measure_77 (by decide) ?_
            have hfin := mg_fin ha hb (k := k) (by omega) (by omega) hinv
            have hisP : isPr tc ad f18 a b := ⟨_, _, _, by rw [← hfin.1, ← hfin.2]; exact hm19, hm20, hm21, hm22, fun t h1 h2 => hd t h1 (by omega)⟩
            exact hret f18 _ _ dX0_measure_192 (⟨hisP, fun q hq => (((((ho23 _ (by omega))).trans (ho16 _ (by omega))).trans (ho12 _ (by omega))).trans (ho8 _ (by omega))).trans (ho3 _ (by omega))⟩)
  have c90 : f1 (84) = eI tc 33 (e1) := (ho3 _ (by omega)).trans p1
  have c91 : f6 (84) = eI tc 33 (e1) := (ho8 _ (by omega)).trans c90
  have c92 : f10 (84) = eI tc 33 (e1) := (ho12 _ (by omega)).trans c91
  have c93 : f14 (84) = eI tc 33 (e1) := (ho16 _ (by omega)).trans c92
  have c94 : f1 (85) = eI tc 33 (e2) := (ho3 _ (by omega)).trans p2
  have c95 : f6 (85) = eI tc 33 (e2) := (ho8 _ (by omega)).trans c94
  have c96 : f10 (85) = eI tc 33 (e2) := (ho12 _ (by omega)).trans c95
  have c97 : f14 (85) = eI tc 33 (e2) := (ho16 _ (by omega)).trans c96
  have c98 : f1 (86) = eI tc 33 (e3) := (ho3 _ (by omega)).trans p3
  have c99 : f6 (86) = eI tc 33 (e3) := (ho8 _ (by omega)).trans c98
  have c100 : f10 (86) = eI tc 33 (e3) := (ho12 _ (by omega)).trans c99
  have c101 : f14 (86) = eI tc 33 (e3) := (ho16 _ (by omega)).trans c100
  exact hL24 _ 0 e1 e2 e3 f14 c17 c93 c97 c101 (fun _ _ => rfl) (by omega) rfl (fun t h1 h2 => by have e : t = 0 := (by omega); rw [e]; exact ⟨z1, z2, z3⟩) (Nat.lt_succ_self _)
end XR1
