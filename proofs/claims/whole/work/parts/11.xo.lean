section XO1
theorem fau_rng (p : Nat → Nat) {n : Nat} (h : n ≤ 64) : -6 ≤ fau p n ∧ fau p n ≤ 64 := by
  have h0 := frst_le (fun j => !okc (p j)) n
  unfold fau faN
  split
  · omega
  · split <;> omega
theorem updNz (a : Nat → Nat) (k : Nat) {v : Int} (h : 0 ≤ v) : upd (fun j => iI ((a j : Nat) : Int)) k (iI v) = fun j => iI ((upN a k v.toNat j : Nat) : Int) := by
  rw [← updN, Int.toNat_of_nonneg h]
theorem J_set {tc : Nat → ClassId} {ad : Nat → Nat} {s : SG} {f1 f' : Nat → va_E} {n : NS} {pl : Nat} (hJ : XJ tc ad f1 s) (hs : isSt tc ad f' 1 n) (h0 : f' 0 = oX ad (kno s) pl) (hfr : ∀ q, 5 ≤ q → q < 88 → f' q = f1 q) : XI tc ad f' (n, hst s, kno s, slo s, sav s, pad s, pl) := by
  obtain ⟨-, -, jH, jS, j40, jW, jP, jD⟩ := hJ
  exact ⟨h0, hs, jH.fr (fun q _ _ => hfr q (by omega) (by omega)), jS.fr (fun q _ _ => hfr q (by omega) (by omega)), j40.fr (hfr _ (by omega) (by omega)), (jW n).fr (fun q _ _ => hfr q (by omega) (by omega)), jP.fr (fun q _ _ => hfr q (by omega) (by omega)), jD.fr (hfr _ (by omega) (by omega))⟩
set_option maxHeartbeats 4000000 in
set_option maxRecDepth 100000 in
/-- beginChange(): one more state is known, no words are gathered -/
theorem c_X3_beginChange (G : va_G) (tc : Nat → ClassId) (l : Launch) (ad : Nat → Nat) (N : Nat) (f : Nat → va_E) (s : SG) (hX : XI tc ad f s) (ho : okS s) (hN : 98 ≤ N)    : Ct G tc l yX3_beginChange wsX3_beginChange { frames := 2, cells := 0, slots := 0, locals := 41 } 0 0 [.ref (ad (0))] ad N f (poV ad N (fun f' => XJ tc ad f' (knowS s) ∧ ∀ q, 88 ≤ q → f' q = f q)) := by
  obtain ⟨h0, ⟨h1, h2, h3, h4⟩, hHis, hSlo, h40, hWds, hPr, hHd⟩ := id hX
  obtain ⟨⟨⟨a1, a2⟩, ⟨a3, a4⟩, ⟨a5, a6⟩, a7, a8, a9, a10⟩, o2, o3, o4, o5, o6⟩ := id ho
  obtain ⟨pi, hs, h5, hpi, hpj, hss, hhv⟩ := id hHis
  obtain ⟨gt, wd, w41, w82, wst, wv⟩ := id hWds
  refine stV (cc := cX3_beginChange) (maxL := 1) (lv := [(0, .ref (ad (0)))]) (by decide) rfl (Nat.le_of_ble_eq_true rfl) rfl (fun X C hret => ?_)
  have m0 : Cond.fieldLink RX3 20 "WordSamples" "undoable" "I" ∈ wsX3_beginChange := by decide +kernel
  have m1 : ∀ w ∈ wsX30, w ∈ wsX3_beginChange := by decide +kernel
  have m2 : Cond.fieldLink RX3 16 "WordSamples" "history" "[LWordSamples$State;" ∈ wsX3_beginChange := by decide +kernel
  have m3 : Cond.fieldLink RX3 10 "WordSamples" "now" "LWordSamples$State;" ∈ wsX3_beginChange := by decide +kernel
  refine r_aload_n C dX3_beginChange_0 rfl rfl ?_
  refine r_get (v := .int (iI ((kno s : Nat) : Int))) C (by omega) h0 (show vwCl[3]? = some (RX3, TX3, 11) from rfl) m1 2 (by decide) m0 rfl rfl dX3_beginChange_1 ?_
  refine r_bipush C ((6 : Nat) : Int) (by decide) dX3_beginChange_4 ?_
  refine r_icmp_lt (tgt := 13) C ⟨by omega, by omega⟩ ⟨by omega, by omega⟩ dX3_beginChange_6 (by decide) (fun b1 => ?_) (fun b1 => ?_)
  · refine r_aload_n C dX3_beginChange_13 rfl rfl ?_
    refine r_get (v := .ref (ad (5))) C (by omega) h0 (show vwCl[3]? = some (RX3, TX3, 11) from rfl) m1 1 (by decide) m2 rfl rfl dX3_beginChange_14 ?_
    refine r_aload_n C dX3_beginChange_17 rfl rfl ?_
    refine r_get (v := .int (iI ((kno s : Nat) : Int))) C (by omega) h0 (show vwCl[3]? = some (RX3, TX3, 11) from rfl) m1 2 (by decide) m0 rfl rfl dX3_beginChange_18 ?_
    refine r_aaldS (a := ad (6 + 4 * pi (kno s))) C (by omega) h5 (kno s) rfl (by omega) (Nat.le_of_ble_eq_true rfl) (rfl) dX3_beginChange_21 ?_
    refine r_aload_n C dX3_beginChange_22 rfl rfl ?_
    refine r_get (v := .ref (ad (1))) C (by omega) h0 (show vwCl[3]? = some (RX3, TX3, 11) from rfl) m1 0 (by decide) m3 rfl rfl dX3_beginChange_23 ?_
    have hq2 := hpi (kno s) (by omega)
    have hcs := (hss _ hq2).fr (f' := f) (fun q g1 g2 => rfl)
    have hcc := (show isSt tc ad f 1 (cur s) from ⟨h1, h2, h3, h4⟩).fr (f' := f) (fun q g1 g2 => rfl)
    refine r_callV (As := [.ref (ad (1))]) (rest := []) (na := 1) C (c_X1_copyFrom G tc l ad N _ (6 + 4 * pi (kno s)) 1 (by omega) (by omega) (by omega) (cur s) _ hcs hcc) gX3_beginChange_X1_copyFrom rfl rfl rfl (by decide +kernel) ⟨Nat.le_of_ble_eq_true rfl, Nat.le_of_ble_eq_true rfl⟩ (by omega) hcs.1 (show vwCl[1]? = some (RX1, TX1, 4) from rfl) rfl rfl (Nat.le_of_ble_eq_true rfl) dX3_beginChange_26 ⟨Nat.le_of_ble_eq_true rfl, Nat.le_of_ble_eq_true rfl⟩ (aft_V (fun f2 hF3 => ?_))
    obtain ⟨hcp, hoC⟩ := hF3
    refine r_aload_n C dX3_beginChange_29 rfl rfl ?_
    refine r_dup C dX3_beginChange_30 rfl ?_
    have c4 : f2 (0) = eO 3 [.ref (ad (1)), .ref (ad (5)), .int (iI ((kno s : Nat) : Int)), .ref (ad (30)), .ref (ad (39)), .ref (ad (40)), .int (iI ((pln s : Nat) : Int)), .ref (ad (41)), .ref (ad (82)), .ref (ad (83)), .ref (ad (87))] := (hoC _ (by omega)).trans h0
    refine r_get (v := .int (iI ((kno s : Nat) : Int))) C (by omega) c4 (show vwCl[3]? = some (RX3, TX3, 11) from rfl) m1 2 (by decide) m0 rfl rfl dX3_beginChange_31 ?_
    refine r_iconst C ((1 : Nat) : Int) (by decide) dX3_beginChange_34 ?_
    refine r_iadd C ((kno s + 1 : Nat) : Int) (by omega) dX3_beginChange_35 ?_
    refine r_put (ty := .int) C (by omega) c4 (show vwCl[3]? = some (RX3, TX3, 11) from rfl) m1 tyX3_ok nmX3 2 (by decide) m0 rfl rfl (by decide +kernel) rfl rfl (Nat.le_of_ble_eq_true rfl) dX3_beginChange_36 (fun f5 hs6 ho7 => ?_)
    have c8 : f5 (0) = eO 3 [.ref (ad (1)), .ref (ad (5)), .int (iI ((kno s + 1 : Nat) : Int)), .ref (ad (30)), .ref (ad (39)), .ref (ad (40)), .int (iI ((pln s : Nat) : Int)), .ref (ad (41)), .ref (ad (82)), .ref (ad (83)), .ref (ad (87))] := hs6
    refine r_aload_n C dX3_beginChange_39 rfl rfl ?_
    have c9 : f2 (82) = eB tc 10 (gt) := (hoC _ (by omega)).trans w82
    have c10 : f5 (82) = eB tc 10 (gt) := (ho7 _ (by omega)).trans c9
    refine r_callV (As := []) (rest := []) (na := 0) C (c_X3_forgetWords G tc l ad N _ (kno s + 1) (pln s) gt hN c8 c10) gX3_beginChange_X3_forgetWords rfl rfl rfl (by decide +kernel) ⟨Nat.le_of_ble_eq_true rfl, Nat.le_of_ble_eq_true rfl⟩ (by omega) c8 (show vwCl[3]? = some (RX3, TX3, 11) from rfl) rfl rfl (Nat.le_of_ble_eq_true rfl) dX3_beginChange_40 ⟨Nat.le_of_ble_eq_true rfl, Nat.le_of_ble_eq_true rfl⟩ (aft_V (fun f11 hF12 => ?_))
    obtain ⟨h82, hoW⟩ := hF12
    have c13 : f11 (0) = eO 3 [.ref (ad (1)), .ref (ad (5)), .int (iI ((kno s + 1 : Nat) : Int)), .ref (ad (30)), .ref (ad (39)), .ref (ad (40)), .int (iI ((pln s : Nat) : Int)), .ref (ad (41)), .ref (ad (82)), .ref (ad (83)), .ref (ad (87))] := (hoW _ (by omega)).trans c8
    have c14 : f2 (5) = eS tc 6 (fun k => some (ad (6 + 4 * pi k))) := (hoC _ (by omega)).trans h5
    have c15 : f5 (5) = eS tc 6 (fun k => some (ad (6 + 4 * pi k))) := (ho7 _ (by omega)).trans c14
    have c16 : f11 (5) = eS tc 6 (fun k => some (ad (6 + 4 * pi k))) := (hoW _ (by omega)).trans c15
    have hcq := hcp.fr (f' := f11) (fun q g1 g2 => ((hoW _ (by omega))).trans (ho7 _ (by omega)))
    have e1 : kpush (kno s) = kno s + 1 := if_pos (by omega)
    have e2 : hpush (hst s) (kno s) (cur s) = fun k => if k = kno s then cur s else hst s k := if_pos (by omega)
    have hH : iHis tc ad f11 (kno s + 1) (fun k => if k = kno s then cur s else hst s k) := his_upd c16 hpi hpj hss hhv (by omega) hcq (fun q g1 g2 g3 => (((hoW _ (by omega))).trans (ho7 _ (by omega))).trans (hoC _ (by omega)))
    exact hret f11 _ _ dX3_beginChange_43 (⟨begin_XJ hX (by rw [e1]; exact c13) (by rw [e1, e2]; exact hH) h82 (fun q g1 g2 g3 => (((hoW _ (by omega))).trans (ho7 _ (by omega))).trans (hoC _ (by omega))), fun q hq => (((hoW _ (by omega))).trans (ho7 _ (by omega))).trans (hoC _ (by omega))⟩)
  · refine r_aload_n C dX3_beginChange_9 rfl rfl ?_
    refine r_callV (As := []) (rest := []) (na := 0) C (c_X3_dropOldestChange G tc l ad N _ (kno s) (pln s) pi hs hN hpi hss h0 h5) gX3_beginChange_X3_dropOldestChange rfl rfl rfl (by decide +kernel) ⟨Nat.le_of_ble_eq_true rfl, Nat.le_of_ble_eq_true rfl⟩ (by omega) h0 (show vwCl[3]? = some (RX3, TX3, 11) from rfl) rfl rfl (Nat.le_of_ble_eq_true rfl) dX3_beginChange_10 ⟨Nat.le_of_ble_eq_true rfl, Nat.le_of_ble_eq_true rfl⟩ (aft_V (fun f17 hF18 => ?_))
    obtain ⟨d0, d5, hoD⟩ := hF18
    refine r_aload_n C dX3_beginChange_13 rfl rfl ?_
    refine r_get (v := .ref (ad (5))) C (by omega) d0 (show vwCl[3]? = some (RX3, TX3, 11) from rfl) m1 1 (by decide) m2 rfl rfl dX3_beginChange_14 ?_
    refine r_aload_n C dX3_beginChange_17 rfl rfl ?_
    refine r_get (v := .int (iI ((5 : Nat) : Int))) C (by omega) d0 (show vwCl[3]? = some (RX3, TX3, 11) from rfl) m1 2 (by decide) m0 rfl rfl dX3_beginChange_18 ?_
    refine r_aaldS (a := ad (6 + 4 * rotF pi 5)) C (by omega) d5 (5) rfl (by omega) (Nat.le_of_ble_eq_true rfl) (rfl) dX3_beginChange_21 ?_
    refine r_aload_n C dX3_beginChange_22 rfl rfl ?_
    refine r_get (v := .ref (ad (1))) C (by omega) d0 (show vwCl[3]? = some (RX3, TX3, 11) from rfl) m1 0 (by decide) m3 rfl rfl dX3_beginChange_23 ?_
    have hq2 := rotF_lt hpi 5 (by omega)
    have hcs := (hss _ hq2).fr (f' := f17) (fun q g1 g2 => (hoD _ (by omega)))
    have hcc := (show isSt tc ad f 1 (cur s) from ⟨h1, h2, h3, h4⟩).fr (f' := f17) (fun q g1 g2 => (hoD _ (by omega)))
    refine r_callV (As := [.ref (ad (1))]) (rest := []) (na := 1) C (c_X1_copyFrom G tc l ad N _ (6 + 4 * rotF pi 5) 1 (by omega) (by omega) (by omega) (cur s) _ hcs hcc) gX3_beginChange_X1_copyFrom rfl rfl rfl (by decide +kernel) ⟨Nat.le_of_ble_eq_true rfl, Nat.le_of_ble_eq_true rfl⟩ (by omega) hcs.1 (show vwCl[1]? = some (RX1, TX1, 4) from rfl) rfl rfl (Nat.le_of_ble_eq_true rfl) dX3_beginChange_26 ⟨Nat.le_of_ble_eq_true rfl, Nat.le_of_ble_eq_true rfl⟩ (aft_V (fun f19 hF20 => ?_))
    obtain ⟨hcp, hoC⟩ := hF20
    refine r_aload_n C dX3_beginChange_29 rfl rfl ?_
    refine r_dup C dX3_beginChange_30 rfl ?_
    have c21 : f19 (0) = eO 3 [.ref (ad (1)), .ref (ad (5)), .int (iI ((5 : Nat) : Int)), .ref (ad (30)), .ref (ad (39)), .ref (ad (40)), .int (iI ((pln s : Nat) : Int)), .ref (ad (41)), .ref (ad (82)), .ref (ad (83)), .ref (ad (87))] := (hoC _ (by omega)).trans d0
    refine r_get (v := .int (iI ((5 : Nat) : Int))) C (by omega) c21 (show vwCl[3]? = some (RX3, TX3, 11) from rfl) m1 2 (by decide) m0 rfl rfl dX3_beginChange_31 ?_
    refine r_iconst C ((1 : Nat) : Int) (by decide) dX3_beginChange_34 ?_
    refine r_iadd C ((6 : Nat) : Int) rfl dX3_beginChange_35 ?_
    refine r_put (ty := .int) C (by omega) c21 (show vwCl[3]? = some (RX3, TX3, 11) from rfl) m1 tyX3_ok nmX3 2 (by decide) m0 rfl rfl (by decide +kernel) rfl rfl (Nat.le_of_ble_eq_true rfl) dX3_beginChange_36 (fun f22 hs23 ho24 => ?_)
    have c25 : f22 (0) = eO 3 [.ref (ad (1)), .ref (ad (5)), .int (iI ((6 : Nat) : Int)), .ref (ad (30)), .ref (ad (39)), .ref (ad (40)), .int (iI ((pln s : Nat) : Int)), .ref (ad (41)), .ref (ad (82)), .ref (ad (83)), .ref (ad (87))] := hs23
    refine r_aload_n C dX3_beginChange_39 rfl rfl ?_
    have c26 : f17 (82) = eB tc 10 (gt) := (hoD _ (by omega)).trans w82
    have c27 : f19 (82) = eB tc 10 (gt) := (hoC _ (by omega)).trans c26
    have c28 : f22 (82) = eB tc 10 (gt) := (ho24 _ (by omega)).trans c27
    refine r_callV (As := []) (rest := []) (na := 0) C (c_X3_forgetWords G tc l ad N _ (6) (pln s) gt hN c25 c28) gX3_beginChange_X3_forgetWords rfl rfl rfl (by decide +kernel) ⟨Nat.le_of_ble_eq_true rfl, Nat.le_of_ble_eq_true rfl⟩ (by omega) c25 (show vwCl[3]? = some (RX3, TX3, 11) from rfl) rfl rfl (Nat.le_of_ble_eq_true rfl) dX3_beginChange_40 ⟨Nat.le_of_ble_eq_true rfl, Nat.le_of_ble_eq_true rfl⟩ (aft_V (fun f29 hF30 => ?_))
    obtain ⟨h82, hoW⟩ := hF30
    have c31 : f29 (0) = eO 3 [.ref (ad (1)), .ref (ad (5)), .int (iI ((6 : Nat) : Int)), .ref (ad (30)), .ref (ad (39)), .ref (ad (40)), .int (iI ((pln s : Nat) : Int)), .ref (ad (41)), .ref (ad (82)), .ref (ad (83)), .ref (ad (87))] := (hoW _ (by omega)).trans c25
    have c32 : f19 (5) = eS tc 6 (fun k => some (ad (6 + 4 * rotF pi k))) := (hoC _ (by omega)).trans d5
    have c33 : f22 (5) = eS tc 6 (fun k => some (ad (6 + 4 * rotF pi k))) := (ho24 _ (by omega)).trans c32
    have c34 : f29 (5) = eS tc 6 (fun k => some (ad (6 + 4 * rotF pi k))) := (hoW _ (by omega)).trans c33
    have hcq := hcp.fr (f' := f29) (fun q g1 g2 => ((hoW _ (by omega))).trans (ho24 _ (by omega)))
    have e1 : kpush (kno s) = 6 := if_neg (by omega)
    have e2 : hpush (hst s) (kno s) (cur s) = fun k => if k = 5 then cur s else hst s (k + 1) := if_neg (by omega)
    have hH : iHis tc ad f29 (5 + 1) (fun k => if k = 5 then cur s else hst s (k + 1)) := his_upd (h := fun k => hst s (k + 1)) c34 (rotF_lt hpi) (rotF_inj hpj) hss (fun k hk => by unfold rotF; rw [if_pos hk]; exact hhv _ (by omega)) (by omega) hcq (fun q g1 g2 g3 => ((((hoW _ (by omega))).trans (ho24 _ (by omega))).trans (hoC _ (by omega))).trans (hoD _ (by omega)))
    exact hret f29 _ _ dX3_beginChange_43 (⟨begin_XJ hX (by rw [e1]; exact c31) (by rw [e1, e2]; exact hH) h82 (fun q g1 g2 g3 => ((((hoW _ (by omega))).trans (ho24 _ (by omega))).trans (hoC _ (by omega))).trans (hoD _ (by omega))), fun q hq => ((((hoW _ (by omega))).trans (ho24 _ (by omega))).trans (hoC _ (by omega))).trans (hoD _ (by omega))⟩)
set_option maxHeartbeats 4000000 in
set_option maxRecDepth 100000 in
/-- set -/
theorem c_X3_set (G : va_G) (tc : Nat → ClassId) (l : Launch) (ad : Nat → Nat) (N : Nat) (f : Nat → va_E) (s : SG) (hX : XI tc ad f s) (ho : okS s) (hN : 98 ≤ N) (z v : Int) (hz : inR z) (hv : inR v)   : Ct G tc l yX3_set wsX3_set { frames := 3, cells := 0, slots := 0, locals := 61 } 0 0 [.ref (ad (0)), .int (iI (z)), .int (iI (v))] ad N f (poI ad N (aSet s z v) (fun f' => XI tc ad f' (nSet s z v) ∧ ∀ q, 88 ≤ q → f' q = f q)) := by
  obtain ⟨h0, ⟨h1, h2, h3, h4⟩, hHis, hSlo, h40, hWds, hPr, hHd⟩ := id hX
  obtain ⟨⟨⟨a1, a2⟩, ⟨a3, a4⟩, ⟨a5, a6⟩, a7, a8, a9, a10⟩, o2, o3, o4, o5, o6⟩ := id ho
  refine stI (cc := cX3_set) (maxL := 4) (lv := [(0, .ref (ad (0))), (1, .int (iI (z))), (2, .int (iI (v)))]) (by decide) rfl (Nat.le_of_ble_eq_true rfl) rfl (fun X C hret => ?_)
  have m0 : Cond.fieldLink RX3 58 "WordSamples" "LEAST_SETTING" "[I" ∈ wsX3_set := by decide +kernel
  have m1 : Cond.fieldLink RX3 61 "WordSamples" "MOST_SETTING" "[I" ∈ wsX3_set := by decide +kernel
  have m2 : Cond.fieldLink RX3 10 "WordSamples" "now" "LWordSamples$State;" ∈ wsX3_set := by decide +kernel
  have m3 : ∀ w ∈ wsX30, w ∈ wsX3_set := by decide +kernel
  have m4 : Cond.fieldLink RX3 67 "WordSamples$State" "settings" "[I" ∈ wsX3_set := by decide +kernel
  have m5 : ∀ w ∈ wsX10, w ∈ wsX3_set := by decide +kernel
  refine r_iload_n C dX3_set_0 rfl rfl ?_
  refine r_if_lt (tgt := 9) C ⟨by omega, by omega⟩ dX3_set_1 (by decide) (fun b1 => ?_) (fun b1 => ?_)
  · refine r_bipush C ((-2)) (by decide) dX3_set_9 ?_
    exact hret f ((-2)) _ _ dX3_set_11 (by unfold aSet; rw [if_neg (by omega)]) (⟨by unfold nSet; rw [if_neg (by omega)]; exact hX, fun _ _ => rfl⟩)
  · refine r_iload_n C dX3_set_4 rfl rfl ?_
    refine r_iconst C ((4 : Nat) : Int) (by decide) dX3_set_5 ?_
    refine r_icmp_lt (tgt := 12) C ⟨by omega, by omega⟩ ⟨by omega, by omega⟩ dX3_set_6 (by decide) (fun b2 => ?_) (fun b2 => ?_)
    · refine r_iload_n C dX3_set_12 rfl rfl ?_
      obtain ⟨t1, t1Z, t1X, t1l, t1A⟩ := C.2.2.2.1.1.1
      refine r_gets C t1Z m0 dX3_set_13 ?_
      refine r_iload_n C dX3_set_16 rfl rfl ?_
      refine r_tld C t1X t1l t1A (z.toNat) (by omega) (by omega) dX3_set_17 ?_
      have q1 : lS z.toNat ≤ 1 ∧ 0 ≤ lS z.toNat := by unfold lS; omega
      refine r_icmp_lt (tgt := 30) C ⟨by omega, by omega⟩ ⟨by omega, by omega⟩ dX3_set_18 (by decide) (fun b3 => ?_) (fun b3 => ?_)
      · refine r_bipush C ((-2)) (by decide) dX3_set_30 ?_
        exact hret f ((-2)) _ _ dX3_set_32 (by unfold aSet; rw [if_neg (by omega)]) (⟨by unfold nSet; rw [if_neg (by omega)]; exact hX, fun _ _ => rfl⟩)
      · refine r_iload_n C dX3_set_21 rfl rfl ?_
        obtain ⟨t2, t2Z, t2X, t2l, t2A⟩ := C.2.2.2.1.1.2.1
        refine r_gets C t2Z m1 dX3_set_22 ?_
        refine r_iload_n C dX3_set_25 rfl rfl ?_
        refine r_tld C t2X t2l t2A (z.toNat) (by omega) (by omega) dX3_set_26 ?_
        have q2 : mS z.toNat ≤ 1000002 ∧ 4 ≤ mS z.toNat := by unfold mS; omega
        refine r_icmp_le (tgt := 33) C ⟨by omega, by omega⟩ ⟨by omega, by omega⟩ dX3_set_27 (by decide) (fun b4 => ?_) (fun b4 => ?_)
        · refine r_aload_n C dX3_set_33 rfl rfl ?_
          refine r_callV (As := []) (rest := []) (na := 0) C (c_X3_beginChange G tc l ad N _ s hX ho hN) gX3_set_X3_beginChange rfl rfl rfl (by decide +kernel) ⟨Nat.le_of_ble_eq_true rfl, Nat.le_of_ble_eq_true rfl⟩ (by omega) h0 (show vwCl[3]? = some (RX3, TX3, 11) from rfl) rfl rfl (Nat.le_of_ble_eq_true rfl) dX3_set_34 ⟨Nat.le_of_ble_eq_true rfl, Nat.le_of_ble_eq_true rfl⟩ (aft_V (fun f5 hF6 => ?_))
          obtain ⟨hJ, hoB⟩ := hF6
          obtain ⟨j0, ⟨j1, j2, j3, j4⟩, jH, jS, j40, jW, jP, jD⟩ := id hJ
          refine r_aload_n C dX3_set_37 rfl rfl ?_
          refine r_get (v := .ref (ad (1))) C (by omega) j0 (show vwCl[3]? = some (RX3, TX3, 11) from rfl) m3 0 (by decide) m2 rfl rfl dX3_set_38 ?_
          refine r_get (v := .ref (ad (2))) C (by omega) j1 (show vwCl[1]? = some (RX1, TX1, 4) from rfl) m5 0 (by decide) m4 rfl rfl dX3_set_41 ?_
          refine r_iload_n C dX3_set_44 rfl rfl ?_
          refine r_iald (x := (iI (((cur s).1 z.toNat : Nat) : Int))) C (by omega) j2 (z.toNat) (by omega) (by omega) (Nat.le_of_ble_eq_true rfl) (rfl) dX3_set_45 ?_
          refine r_istore_n (lv' := [(0, .ref (ad (0))), (1, .int (iI (z))), (2, .int (iI (v))), (3, .int (iI (((cur s).1 z.toNat : Nat) : Int)))]) C dX3_set_46 rfl (by decide) rfl ?_
          refine r_aload_n C dX3_set_47 rfl rfl ?_
          refine r_get (v := .ref (ad (1))) C (by omega) j0 (show vwCl[3]? = some (RX3, TX3, 11) from rfl) m3 0 (by decide) m2 rfl rfl dX3_set_48 ?_
          refine r_get (v := .ref (ad (2))) C (by omega) j1 (show vwCl[1]? = some (RX1, TX1, 4) from rfl) m5 0 (by decide) m4 rfl rfl dX3_set_51 ?_
          refine r_iload_n C dX3_set_54 rfl rfl ?_
          refine r_iload_n C dX3_set_55 rfl rfl ?_
          refine r_iast C (by omega) j2 (z.toNat) (by omega) (by omega) (Nat.le_of_ble_eq_true rfl) dX3_set_56 (fun f7 hs8 ho9 => ?_)
          have c10 : f7 (2) = eI tc 4 (fun j => iI (((upN (cur s).1 z.toNat v.toNat) j : Nat) : Int)) := hs8.trans (congrArg (fun g => eI tc 4 g) (updNz _ _ (by omega)))
          refine r_iload_n C dX3_set_57 rfl rfl ?_
          have c11 : f7 (0) = eO 3 [.ref (ad (1)), .ref (ad (5)), .int (iI ((kpush (kno s) : Nat) : Int)), .ref (ad (30)), .ref (ad (39)), .ref (ad (40)), .int (iI ((pln s : Nat) : Int)), .ref (ad (41)), .ref (ad (82)), .ref (ad (83)), .ref (ad (87))] := (ho9 _ (by omega)).trans j0
          have c12 : f7 (1) = eO 1 [.ref (ad (2)), .ref (ad (3)), .ref (ad (4)), .int (iI (((cur s).2.2.2 : Nat) : Int))] := (ho9 _ (by omega)).trans j1
          have c13 : f7 (3) = eI tc 10 (fun j => iI (((cur s).2.1 j : Nat) : Int)) := (ho9 _ (by omega)).trans j3
          have c14 : f7 (4) = eI tc 640 (fun j => iI (((cur s).2.2.1 j : Nat) : Int)) := (ho9 _ (by omega)).trans j4
          exact hret f7 (((cur s).1 z.toNat : Nat) : Int) _ _ dX3_set_58 (by unfold aSet; rw [if_pos (by omega)]) (⟨by unfold nSet; rw [if_pos (by omega)]; exact J_set (s := knowS s) hJ ⟨c12, c10, c13, c14⟩ c11 (fun q g1 g2 => (ho9 _ (by omega))), fun q hq => ((ho9 _ (by omega))).trans (hoB _ (by omega))⟩)
        · refine r_bipush C ((-2)) (by decide) dX3_set_30 ?_
          exact hret f ((-2)) _ _ dX3_set_32 (by unfold aSet; rw [if_neg (by omega)]) (⟨by unfold nSet; rw [if_neg (by omega)]; exact hX, fun _ _ => rfl⟩)
    · refine r_bipush C ((-2)) (by decide) dX3_set_9 ?_
      exact hret f ((-2)) _ _ dX3_set_11 (by unfold aSet; rw [if_neg (by omega)]) (⟨by unfold nSet; rw [if_neg (by omega)]; exact hX, fun _ _ => rfl⟩)
set_option maxHeartbeats 4000000 in
set_option maxRecDepth 100000 in
/-- add -/
theorem c_X3_add (G : va_G) (tc : Nat → ClassId) (l : Launch) (ad : Nat → Nat) (N : Nat) (f : Nat → va_E) (s : SG) (hX : XI tc ad f s) (ho : okS s) (hN : 98 ≤ N)    : Ct G tc l yX3_add wsX3_add { frames := 3, cells := 0, slots := 0, locals := 61 } 0 0 [.ref (ad (0))] ad N f (poI ad N (aAdd s) (fun f' => XI tc ad f' (nAdd s) ∧ ∀ q, 88 ≤ q → f' q = f q)) := by
  obtain ⟨h0, ⟨h1, h2, h3, h4⟩, hHis, hSlo, h40, hWds, hPr, hHd⟩ := id hX
  obtain ⟨⟨⟨a1, a2⟩, ⟨a3, a4⟩, ⟨a5, a6⟩, a7, a8, a9, a10⟩, o2, o3, o4, o5, o6⟩ := id ho
  refine stI (cc := cX3_add) (maxL := 2) (lv := [(0, .ref (ad (0)))]) (by decide) rfl (Nat.le_of_ble_eq_true rfl) rfl (fun X C hret => ?_)
  have m0 : Cond.fieldLink RX3 10 "WordSamples" "now" "LWordSamples$State;" ∈ wsX3_add := by decide +kernel
  have m1 : ∀ w ∈ wsX30, w ∈ wsX3_add := by decide +kernel
  have m2 : Cond.fieldLink RX3 74 "WordSamples$State" "rows" "I" ∈ wsX3_add := by decide +kernel
  have m3 : ∀ w ∈ wsX10, w ∈ wsX3_add := by decide +kernel
  have m4 : Cond.fieldLink RX3 77 "WordSamples$State" "lengths" "[I" ∈ wsX3_add := by decide +kernel
  refine r_aload_n C dX3_add_0 rfl rfl ?_
  refine r_callV (As := []) (rest := []) (na := 0) C (c_X3_padFault G tc l ad N _ s hX ho hN) gX3_add_X3_padFault rfl rfl rfl (by decide +kernel) ⟨Nat.le_of_ble_eq_true rfl, Nat.le_of_ble_eq_true rfl⟩ (by omega) h0 (show vwCl[3]? = some (RX3, TX3, 11) from rfl) rfl rfl (Nat.le_of_ble_eq_true rfl) dX3_add_1 ⟨Nat.le_of_ble_eq_true rfl, Nat.le_of_ble_eq_true rfl⟩ (aft_I (fun f1 hF2 => ?_))
  rw [hF2]
  have hfr := fau_rng (pad s) (n := pln s) o5
  refine r_bipush C ((-6)) (by decide) dX3_add_4 ?_
  refine r_icmp_eq (tgt := 12) C ⟨by omega, by omega⟩ ⟨by omega, by omega⟩ dX3_add_6 (by decide) (fun b3 => ?_) (fun b3 => ?_)
  · have hfo := fau_ok (p := pad s) (n := pln s) (by omega)
    refine r_aload_n C dX3_add_12 rfl rfl ?_
    refine r_get (v := .ref (ad (1))) C (by omega) h0 (show vwCl[3]? = some (RX3, TX3, 11) from rfl) m1 0 (by decide) m0 rfl rfl dX3_add_13 ?_
    refine r_get (v := .int (iI (((cur s).2.2.2 : Nat) : Int))) C (by omega) h1 (show vwCl[1]? = some (RX1, TX1, 4) from rfl) m3 3 (by decide) m2 rfl rfl dX3_add_16 ?_
    refine r_bipush C ((10 : Nat) : Int) (by decide) dX3_add_19 ?_
    refine r_icmp_lt (tgt := 27) C ⟨by omega, by omega⟩ ⟨by omega, by omega⟩ dX3_add_21 (by decide) (fun b4 => ?_) (fun b4 => ?_)
    · refine r_aload_n C dX3_add_27 rfl rfl ?_
      refine r_callV (As := []) (rest := []) (na := 0) C (c_X3_beginChange G tc l ad N _ s hX ho hN) gX3_add_X3_beginChange rfl rfl rfl (by decide +kernel) ⟨Nat.le_of_ble_eq_true rfl, Nat.le_of_ble_eq_true rfl⟩ (by omega) h0 (show vwCl[3]? = some (RX3, TX3, 11) from rfl) rfl rfl (Nat.le_of_ble_eq_true rfl) dX3_add_28 ⟨Nat.le_of_ble_eq_true rfl, Nat.le_of_ble_eq_true rfl⟩ (aft_V (fun f5 hF6 => ?_))
      obtain ⟨hJ, hoB⟩ := hF6
      obtain ⟨j0, ⟨j1, j2, j3, j4⟩, jH, jS, j40, jW, jP, jD⟩ := id hJ
      refine r_aload_n C dX3_add_31 rfl rfl ?_
      refine r_get (v := .ref (ad (1))) C (by omega) j0 (show vwCl[3]? = some (RX3, TX3, 11) from rfl) m1 0 (by decide) m0 rfl rfl dX3_add_32 ?_
      refine r_get (v := .int (iI (((cur s).2.2.2 : Nat) : Int))) C (by omega) j1 (show vwCl[1]? = some (RX1, TX1, 4) from rfl) m3 3 (by decide) m2 rfl rfl dX3_add_35 ?_
      refine r_istore_n (lv' := [(0, .ref (ad (0))), (1, .int (iI (((cur s).2.2.2 : Nat) : Int)))]) C dX3_add_38 rfl (by decide) rfl ?_
      refine r_aload_n C dX3_add_39 rfl rfl ?_
      refine r_get (v := .ref (ad (1))) C (by omega) j0 (show vwCl[3]? = some (RX3, TX3, 11) from rfl) m1 0 (by decide) m0 rfl rfl dX3_add_40 ?_
      refine r_dup C dX3_add_43 rfl ?_
      refine r_get (v := .int (iI (((cur s).2.2.2 : Nat) : Int))) C (by omega) j1 (show vwCl[1]? = some (RX1, TX1, 4) from rfl) m3 3 (by decide) m2 rfl rfl dX3_add_44 ?_
      refine r_iconst C ((1 : Nat) : Int) (by decide) dX3_add_47 ?_
      refine r_iadd C (((cur s).2.2.2 + 1 : Nat) : Int) (by omega) dX3_add_48 ?_
      refine r_put (ty := .int) C (by omega) j1 (show vwCl[1]? = some (RX1, TX1, 4) from rfl) m3 tyX1_ok nmX1 3 (by decide) m2 rfl rfl (by decide +kernel) rfl rfl (Nat.le_of_ble_eq_true rfl) dX3_add_49 (fun f7 hs8 ho9 => ?_)
      have c10 : f7 (1) = eO 1 [.ref (ad (2)), .ref (ad (3)), .ref (ad (4)), .int (iI (((cur s).2.2.2 + 1 : Nat) : Int))] := hs8
      refine r_aload_n C dX3_add_52 rfl rfl ?_
      have c11 : f7 (0) = eO 3 [.ref (ad (1)), .ref (ad (5)), .int (iI ((kpush (kno s) : Nat) : Int)), .ref (ad (30)), .ref (ad (39)), .ref (ad (40)), .int (iI ((pln s : Nat) : Int)), .ref (ad (41)), .ref (ad (82)), .ref (ad (83)), .ref (ad (87))] := (ho9 _ (by omega)).trans j0
      refine r_get (v := .ref (ad (1))) C (by omega) c11 (show vwCl[3]? = some (RX3, TX3, 11) from rfl) m1 0 (by decide) m0 rfl rfl dX3_add_53 ?_
      refine r_get (v := .ref (ad (3))) C (by omega) c10 (show vwCl[1]? = some (RX1, TX1, 4) from rfl) m3 1 (by decide) m4 rfl rfl dX3_add_56 ?_
      refine r_iload_n C dX3_add_59 rfl rfl ?_
      refine r_iconst C ((0 : Nat) : Int) (by decide) dX3_add_60 ?_
      have c12 : f7 (3) = eI tc 10 (fun j => iI (((cur s).2.1 j : Nat) : Int)) := (ho9 _ (by omega)).trans j3
      refine r_iast C (by omega) c12 ((cur s).2.2.2) rfl (by omega) (Nat.le_of_ble_eq_true rfl) dX3_add_61 (fun f13 hs14 ho15 => ?_)
      have c16 : f13 (3) = eI tc 10 (fun j => iI (((upN ((cur s).2.1) ((cur s).2.2.2) (0)) j : Nat) : Int)) := hs14.trans (congrArg (fun g => eI tc 10 g) (updN _ _ _))
      refine r_aload_n C dX3_add_62 rfl rfl ?_
      refine r_iload_n C dX3_add_63 rfl rfl ?_
      have c17 : f13 (0) = eO 3 [.ref (ad (1)), .ref (ad (5)), .int (iI ((kpush (kno s) : Nat) : Int)), .ref (ad (30)), .ref (ad (39)), .ref (ad (40)), .int (iI ((pln s : Nat) : Int)), .ref (ad (41)), .ref (ad (82)), .ref (ad (83)), .ref (ad (87))] := (ho15 _ (by omega)).trans c11
      have c18 : f13 (1) = eO 1 [.ref (ad (2)), .ref (ad (3)), .ref (ad (4)), .int (iI (((cur s).2.2.2 + 1 : Nat) : Int))] := (ho15 _ (by omega)).trans c10
      have c19 : f7 (4) = eI tc 640 (fun j => iI (((cur s).2.2.1 j : Nat) : Int)) := (ho9 _ (by omega)).trans j4
      have c20 : f13 (4) = eI tc 640 (fun j => iI (((cur s).2.2.1 j : Nat) : Int)) := (ho15 _ (by omega)).trans c19
      have c21 : f7 (40) = eI tc 64 (fun j => iI ((pad s j : Nat) : Int)) := (ho9 _ (by omega)).trans j40
      have c22 : f13 (40) = eI tc 64 (fun j => iI ((pad s j : Nat) : Int)) := (ho15 _ (by omega)).trans c21
      refine r_callV (As := [.int (iI (((cur s).2.2.2 : Nat) : Int))]) (rest := []) (na := 1) C (c_X3_movePadTo G tc l ad N _ (kpush (kno s)) (pln s) _ ((cur s).2.2.2) (upN (cur s).2.1 ((cur s).2.2.2) 0) (cur s).2.2.1 (pad s) hN (by omega) (by unfold upN; rw [if_pos rfl]; omega) (fun j hj => ⟨hfo.2 j hj, o6 j (by omega)⟩) c17 c18 c16 c20 c22) gX3_add_X3_movePadTo rfl rfl rfl (by decide +kernel) ⟨Nat.le_of_ble_eq_true rfl, Nat.le_of_ble_eq_true rfl⟩ (by omega) c17 (show vwCl[3]? = some (RX3, TX3, 11) from rfl) rfl rfl (Nat.le_of_ble_eq_true rfl) dX3_add_64 ⟨Nat.le_of_ble_eq_true rfl, Nat.le_of_ble_eq_true rfl⟩ (aft_V (fun f23 hF24 => ?_))
      obtain ⟨k0, k3, k4, hoM⟩ := hF24
      refine r_iload_n C dX3_add_67 rfl rfl ?_
      have c25 : f23 (1) = eO 1 [.ref (ad (2)), .ref (ad (3)), .ref (ad (4)), .int (iI (((cur s).2.2.2 + 1 : Nat) : Int))] := (hoM _ (by omega)).trans c18
      have c26 : f7 (2) = eI tc 4 (fun j => iI (((cur s).1 j : Nat) : Int)) := (ho9 _ (by omega)).trans j2
      have c27 : f13 (2) = eI tc 4 (fun j => iI (((cur s).1 j : Nat) : Int)) := (ho15 _ (by omega)).trans c26
      have c28 : f23 (2) = eI tc 4 (fun j => iI (((cur s).1 j : Nat) : Int)) := (hoM _ (by omega)).trans c27
      exact hret f23 (((cur s).2.2.2 : Nat) : Int) _ _ dX3_add_68 (by unfold aAdd; rw [if_pos (by omega), if_pos (by omega)]) (⟨by unfold nAdd; rw [if_pos (by omega)]; exact J_set (s := knowS s) hJ ⟨c25, c28, k3, k4⟩ k0 (fun q g1 g2 => (((hoM _ (by omega))).trans (ho15 _ (by omega))).trans (ho9 _ (by omega))), fun q hq => ((((hoM _ (by omega))).trans (ho15 _ (by omega))).trans (ho9 _ (by omega))).trans (hoB _ (by omega))⟩)
    · refine r_bipush C ((-4)) (by decide) dX3_add_24 ?_
      exact hret f ((-4)) _ _ dX3_add_26 (by unfold aAdd; rw [if_pos (by omega), if_neg (by omega)]) (⟨by unfold nAdd; rw [if_neg (by omega)]; exact hX, fun _ _ => rfl⟩)
  · refine r_bipush C ((-3)) (by decide) dX3_add_9 ?_
    exact hret f ((-3)) _ _ dX3_add_11 (by unfold aAdd; rw [if_neg (by omega)]) (⟨by unfold nAdd; rw [if_neg (by omega)]; exact hX, fun _ _ => rfl⟩)
set_option maxHeartbeats 4000000 in
set_option maxRecDepth 100000 in
/-- append -/
theorem c_X3_append (G : va_G) (tc : Nat → ClassId) (l : Launch) (ad : Nat → Nat) (N : Nat) (f : Nat → va_E) (s : SG) (hX : XI tc ad f s) (ho : okS s) (hN : 98 ≤ N) (z : Int) (hz : inR z)   : Ct G tc l yX3_append wsX3_append { frames := 3, cells := 0, slots := 0, locals := 61 } 0 0 [.ref (ad (0)), .int (iI (z))] ad N f (poI ad N (aApp s z) (fun f' => XI tc ad f' (nApp s z) ∧ ∀ q, 88 ≤ q → f' q = f q)) := by
  obtain ⟨h0, ⟨h1, h2, h3, h4⟩, hHis, hSlo, h40, hWds, hPr, hHd⟩ := id hX
  obtain ⟨⟨⟨a1, a2⟩, ⟨a3, a4⟩, ⟨a5, a6⟩, a7, a8, a9, a10⟩, o2, o3, o4, o5, o6⟩ := id ho
  refine stI (cc := cX3_append) (maxL := 2) (lv := [(0, .ref (ad (0))), (1, .int (iI (z)))]) (by decide) rfl (Nat.le_of_ble_eq_true rfl) rfl (fun X C hret => ?_)
  have m0 : Cond.fieldLink RX3 10 "WordSamples" "now" "LWordSamples$State;" ∈ wsX3_append := by decide +kernel
  have m1 : ∀ w ∈ wsX30, w ∈ wsX3_append := by decide +kernel
  have m2 : Cond.fieldLink RX3 77 "WordSamples$State" "lengths" "[I" ∈ wsX3_append := by decide +kernel
  have m3 : ∀ w ∈ wsX10, w ∈ wsX3_append := by decide +kernel
  have m4 : Cond.fieldLink RX3 35 "WordSamples" "padLength" "I" ∈ wsX3_append := by decide +kernel
  refine r_aload_n C dX3_append_0 rfl rfl ?_
  refine r_iload_n C dX3_append_1 rfl rfl ?_
  refine r_callV (As := [.int (iI (z))]) (rest := []) (na := 1) C (c_X3_noRow G tc l ad N _ s hX ho hN z hz) gX3_append_X3_noRow rfl rfl rfl (by decide +kernel) ⟨Nat.le_of_ble_eq_true rfl, Nat.le_of_ble_eq_true rfl⟩ (by omega) h0 (show vwCl[3]? = some (RX3, TX3, 11) from rfl) rfl rfl (Nat.le_of_ble_eq_true rfl) dX3_append_2 ⟨Nat.le_of_ble_eq_true rfl, Nat.le_of_ble_eq_true rfl⟩ (aft_I (fun f1 hF2 => ?_))
  rw [hF2]
  refine r_if_eq (tgt := 10) C ⟨by omega, by omega⟩ dX3_append_5 (by decide) (fun b3 => ?_) (fun b3 => ?_)
  · refine r_aload_n C dX3_append_10 rfl rfl ?_
    refine r_callV (As := []) (rest := []) (na := 0) C (c_X3_padFault G tc l ad N _ s hX ho hN) gX3_append_X3_padFault rfl rfl rfl (by decide +kernel) ⟨Nat.le_of_ble_eq_true rfl, Nat.le_of_ble_eq_true rfl⟩ (by omega) h0 (show vwCl[3]? = some (RX3, TX3, 11) from rfl) rfl rfl (Nat.le_of_ble_eq_true rfl) dX3_append_11 ⟨Nat.le_of_ble_eq_true rfl, Nat.le_of_ble_eq_true rfl⟩ (aft_I (fun f4 hF5 => ?_))
    rw [hF5]
    have hfr := fau_rng (pad s) (n := pln s) o5
    refine r_bipush C ((-6)) (by decide) dX3_append_14 ?_
    refine r_icmp_eq (tgt := 22) C ⟨by omega, by omega⟩ ⟨by omega, by omega⟩ dX3_append_16 (by decide) (fun b6 => ?_) (fun b6 => ?_)
    · have hfo := fau_ok (p := pad s) (n := pln s) (by omega)
      have q9 := a9 z.toNat (by omega)
      refine r_aload_n C dX3_append_22 rfl rfl ?_
      refine r_get (v := .ref (ad (1))) C (by omega) h0 (show vwCl[3]? = some (RX3, TX3, 11) from rfl) m1 0 (by decide) m0 rfl rfl dX3_append_23 ?_
      refine r_get (v := .ref (ad (3))) C (by omega) h1 (show vwCl[1]? = some (RX1, TX1, 4) from rfl) m3 1 (by decide) m2 rfl rfl dX3_append_26 ?_
      refine r_iload_n C dX3_append_29 rfl rfl ?_
      refine r_iald (x := (iI (((cur s).2.1 z.toNat : Nat) : Int))) C (by omega) h3 (z.toNat) (by omega) (by omega) (Nat.le_of_ble_eq_true rfl) (rfl) dX3_append_30 ?_
      refine r_aload_n C dX3_append_31 rfl rfl ?_
      refine r_get (v := .int (iI ((pln s : Nat) : Int))) C (by omega) h0 (show vwCl[3]? = some (RX3, TX3, 11) from rfl) m1 6 (by decide) m4 rfl rfl dX3_append_32 ?_
      refine r_iadd C (((cur s).2.1 z.toNat + (pln s) : Nat) : Int) (by omega) dX3_append_35 ?_
      refine r_bipush C ((64 : Nat) : Int) (by decide) dX3_append_36 ?_
      refine r_icmp_le (tgt := 44) C ⟨by omega, by omega⟩ ⟨by omega, by omega⟩ dX3_append_38 (by decide) (fun b7 => ?_) (fun b7 => ?_)
      · refine r_aload_n C dX3_append_44 rfl rfl ?_
        refine r_callV (As := []) (rest := []) (na := 0) C (c_X3_beginChange G tc l ad N _ s hX ho hN) gX3_append_X3_beginChange rfl rfl rfl (by decide +kernel) ⟨Nat.le_of_ble_eq_true rfl, Nat.le_of_ble_eq_true rfl⟩ (by omega) h0 (show vwCl[3]? = some (RX3, TX3, 11) from rfl) rfl rfl (Nat.le_of_ble_eq_true rfl) dX3_append_45 ⟨Nat.le_of_ble_eq_true rfl, Nat.le_of_ble_eq_true rfl⟩ (aft_V (fun f8 hF9 => ?_))
        obtain ⟨hJ, hoB⟩ := hF9
        obtain ⟨j0, ⟨j1, j2, j3, j4⟩, jH, jS, j40, jW, jP, jD⟩ := id hJ
        refine r_aload_n C dX3_append_48 rfl rfl ?_
        refine r_iload_n C dX3_append_49 rfl rfl ?_
        rw [show (.int (iI (z)) : Value) = .int (iI ((z.toNat : Nat) : Int)) from by rw [Int.toNat_of_nonneg (by omega)]]
        refine r_callV (As := [.int (iI ((z.toNat : Nat) : Int))]) (rest := []) (na := 1) C (c_X3_movePadTo G tc l ad N _ (kpush (kno s)) (pln s) _ z.toNat (cur s).2.1 (cur s).2.2.1 (pad s) hN (by omega) (by omega) (fun j hj => ⟨hfo.2 j hj, o6 j (by omega)⟩) j0 j1 j3 j4 j40) gX3_append_X3_movePadTo rfl rfl rfl (by decide +kernel) ⟨Nat.le_of_ble_eq_true rfl, Nat.le_of_ble_eq_true rfl⟩ (by omega) j0 (show vwCl[3]? = some (RX3, TX3, 11) from rfl) rfl rfl (Nat.le_of_ble_eq_true rfl) dX3_append_50 ⟨Nat.le_of_ble_eq_true rfl, Nat.le_of_ble_eq_true rfl⟩ (aft_V (fun f10 hF11 => ?_))
        obtain ⟨k0, k3, k4, hoM⟩ := hF11
        refine r_aload_n C dX3_append_53 rfl rfl ?_
        refine r_get (v := .ref (ad (1))) C (by omega) k0 (show vwCl[3]? = some (RX3, TX3, 11) from rfl) m1 0 (by decide) m0 rfl rfl dX3_append_54 ?_
        have c12 : f10 (1) = eO 1 [.ref (ad (2)), .ref (ad (3)), .ref (ad (4)), .int (iI (((cur s).2.2.2 : Nat) : Int))] := (hoM _ (by omega)).trans j1
        refine r_get (v := .ref (ad (3))) C (by omega) c12 (show vwCl[1]? = some (RX1, TX1, 4) from rfl) m3 1 (by decide) m2 rfl rfl dX3_append_57 ?_
        refine r_iload_n C dX3_append_60 rfl rfl ?_
        refine r_iald (x := (iI (((upN (cur s).2.1 z.toNat ((cur s).2.1 z.toNat + pln s)) z.toNat : Nat) : Int))) C (by omega) k3 (z.toNat) rfl (by omega) (Nat.le_of_ble_eq_true rfl) (rfl) dX3_append_61 ?_
        have qe : upN (cur s).2.1 z.toNat ((cur s).2.1 z.toNat + pln s) z.toNat = (cur s).2.1 z.toNat + pln s := by unfold upN; rw [if_pos rfl]
        have c13 : f10 (2) = eI tc 4 (fun j => iI (((cur s).1 j : Nat) : Int)) := (hoM _ (by omega)).trans j2
        exact hret f10 (((upN (cur s).2.1 z.toNat ((cur s).2.1 z.toNat + pln s)) z.toNat : Nat) : Int) _ _ dX3_append_62 (by unfold aApp; rw [if_pos (by omega), if_pos (by omega), if_pos (by omega), qe]) (⟨by unfold nApp; rw [if_pos (by omega)]; exact J_set (s := knowS s) hJ ⟨c12, c13, k3, k4⟩ k0 (fun q g1 g2 => (hoM _ (by omega))), fun q hq => ((hoM _ (by omega))).trans (hoB _ (by omega))⟩)
      · refine r_bipush C ((-4)) (by decide) dX3_append_41 ?_
        exact hret f ((-4)) _ _ dX3_append_43 (by unfold aApp; rw [if_pos (by omega), if_pos (by omega), if_neg (by omega)]) (⟨by unfold nApp; rw [if_neg (by omega)]; exact hX, fun _ _ => rfl⟩)
    · refine r_bipush C ((-3)) (by decide) dX3_append_19 ?_
      exact hret f ((-3)) _ _ dX3_append_21 (by unfold aApp; rw [if_pos (by omega), if_neg (by omega)]) (⟨by unfold nApp; rw [if_neg (by omega)]; exact hX, fun _ _ => rfl⟩)
  · refine r_iconst C ((-1)) (by decide) dX3_append_8 ?_
    exact hret f ((-1)) _ _ dX3_append_9 (by unfold aApp; rw [if_neg (by omega)]) (⟨by unfold nApp; rw [if_neg (by omega)]; exact hX, fun _ _ => rfl⟩)
set_option maxHeartbeats 4000000 in
set_option maxRecDepth 100000 in
/-- change -/
theorem c_X3_change (G : va_G) (tc : Nat → ClassId) (l : Launch) (ad : Nat → Nat) (N : Nat) (f : Nat → va_E) (s : SG) (hX : XI tc ad f s) (ho : okS s) (hN : 98 ≤ N) (z p v : Int) (hz : inR z) (hp : inR p) (hv : inR v)   : Ct G tc l yX3_change wsX3_change { frames := 3, cells := 0, slots := 0, locals := 61 } 0 0 [.ref (ad (0)), .int (iI (z)), .int (iI (p)), .int (iI (v))] ad N f (poI ad N (aChg s z p v) (fun f' => XI tc ad f' (nChg s z p v) ∧ ∀ q, 88 ≤ q → f' q = f q)) := by
  obtain ⟨h0, ⟨h1, h2, h3, h4⟩, hHis, hSlo, h40, hWds, hPr, hHd⟩ := id hX
  obtain ⟨⟨⟨a1, a2⟩, ⟨a3, a4⟩, ⟨a5, a6⟩, a7, a8, a9, a10⟩, o2, o3, o4, o5, o6⟩ := id ho
  refine stI (cc := cX3_change) (maxL := 6) (lv := [(0, .ref (ad (0))), (1, .int (iI (z))), (2, .int (iI (p))), (3, .int (iI (v)))]) (by decide) rfl (Nat.le_of_ble_eq_true rfl) rfl (fun X C hret => ?_)
  have m0 : Cond.fieldLink RX3 10 "WordSamples" "now" "LWordSamples$State;" ∈ wsX3_change := by decide +kernel
  have m1 : ∀ w ∈ wsX30, w ∈ wsX3_change := by decide +kernel
  have m2 : Cond.fieldLink RX3 92 "WordSamples$State" "signs" "[I" ∈ wsX3_change := by decide +kernel
  have m3 : ∀ w ∈ wsX10, w ∈ wsX3_change := by decide +kernel
  refine r_aload_n C dX3_change_0 rfl rfl ?_
  refine r_iload_n C dX3_change_1 rfl rfl ?_
  refine r_iload_n C dX3_change_2 rfl rfl ?_
  refine r_callV (As := [.int (iI (z)), .int (iI (p))]) (rest := []) (na := 2) C (c_X3_noPlace G tc l ad N _ s hX ho hN z p hz hp) gX3_change_X3_noPlace rfl rfl rfl (by decide +kernel) ⟨Nat.le_of_ble_eq_true rfl, Nat.le_of_ble_eq_true rfl⟩ (by omega) h0 (show vwCl[3]? = some (RX3, TX3, 11) from rfl) rfl rfl (Nat.le_of_ble_eq_true rfl) dX3_change_3 ⟨Nat.le_of_ble_eq_true rfl, Nat.le_of_ble_eq_true rfl⟩ (aft_I (fun f1 hF2 => ?_))
  rw [hF2]
  refine r_if_eq (tgt := 11) C ⟨by omega, by omega⟩ dX3_change_6 (by decide) (fun b3 => ?_) (fun b3 => ?_)
  · have q9 := a9 z.toNat (by omega)
    refine r_iload_n C dX3_change_11 rfl rfl ?_
    refine r_if_lt (tgt := 21) C ⟨by omega, by omega⟩ dX3_change_12 (by decide) (fun b4 => ?_) (fun b4 => ?_)
    · refine r_bipush C ((-2)) (by decide) dX3_change_21 ?_
      exact hret f ((-2)) _ _ dX3_change_23 (by unfold aChg; rw [if_pos (by omega), if_neg (by omega)]) (⟨by unfold nChg; rw [if_neg (by omega)]; exact hX, fun _ _ => rfl⟩)
    · refine r_iload_n C dX3_change_15 rfl rfl ?_
      refine r_bipush C ((26 : Nat) : Int) (by decide) dX3_change_16 ?_
      refine r_icmp_le (tgt := 24) C ⟨by omega, by omega⟩ ⟨by omega, by omega⟩ dX3_change_18 (by decide) (fun b5 => ?_) (fun b5 => ?_)
      · refine r_aload_n C dX3_change_24 rfl rfl ?_
        refine r_callV (As := []) (rest := []) (na := 0) C (c_X3_beginChange G tc l ad N _ s hX ho hN) gX3_change_X3_beginChange rfl rfl rfl (by decide +kernel) ⟨Nat.le_of_ble_eq_true rfl, Nat.le_of_ble_eq_true rfl⟩ (by omega) h0 (show vwCl[3]? = some (RX3, TX3, 11) from rfl) rfl rfl (Nat.le_of_ble_eq_true rfl) dX3_change_25 ⟨Nat.le_of_ble_eq_true rfl, Nat.le_of_ble_eq_true rfl⟩ (aft_V (fun f6 hF7 => ?_))
        obtain ⟨hJ, hoB⟩ := hF7
        obtain ⟨j0, ⟨j1, j2, j3, j4⟩, jH, jS, j40, jW, jP, jD⟩ := id hJ
        refine r_iload_n C dX3_change_28 rfl rfl ?_
        refine r_bipush C ((64 : Nat) : Int) (by decide) dX3_change_29 ?_
        refine r_imul C ((z) * ((64 : Nat) : Int)) rfl dX3_change_31 ?_
        refine r_iload_n C dX3_change_32 rfl rfl ?_
        refine r_iadd C (((z) * ((64 : Nat) : Int)) + (p)) rfl dX3_change_33 ?_
        refine r_istore (lv' := [(0, .ref (ad (0))), (1, .int (iI (z))), (2, .int (iI (p))), (3, .int (iI (v))), (4, .int (iI (((z) * ((64 : Nat) : Int)) + (p))))]) C dX3_change_34 (by decide) rfl ?_
        refine r_aload_n C dX3_change_36 rfl rfl ?_
        refine r_get (v := .ref (ad (1))) C (by omega) j0 (show vwCl[3]? = some (RX3, TX3, 11) from rfl) m1 0 (by decide) m0 rfl rfl dX3_change_37 ?_
        refine r_get (v := .ref (ad (4))) C (by omega) j1 (show vwCl[1]? = some (RX1, TX1, 4) from rfl) m3 2 (by decide) m2 rfl rfl dX3_change_40 ?_
        refine r_iload C dX3_change_43 rfl ?_
        refine r_iald (x := (iI (((cur s).2.2.1 (z.toNat * 64 + p.toNat) : Nat) : Int))) C (by omega) j4 (z.toNat * 64 + p.toNat) (by omega) (by omega) (Nat.le_of_ble_eq_true rfl) (rfl) dX3_change_45 ?_
        refine r_istore (lv' := [(0, .ref (ad (0))), (1, .int (iI (z))), (2, .int (iI (p))), (3, .int (iI (v))), (4, .int (iI (((z) * ((64 : Nat) : Int)) + (p)))), (5, .int (iI (((cur s).2.2.1 (z.toNat * 64 + p.toNat) : Nat) : Int)))]) C dX3_change_46 (by decide) rfl ?_
        refine r_aload_n C dX3_change_48 rfl rfl ?_
        refine r_get (v := .ref (ad (1))) C (by omega) j0 (show vwCl[3]? = some (RX3, TX3, 11) from rfl) m1 0 (by decide) m0 rfl rfl dX3_change_49 ?_
        refine r_get (v := .ref (ad (4))) C (by omega) j1 (show vwCl[1]? = some (RX1, TX1, 4) from rfl) m3 2 (by decide) m2 rfl rfl dX3_change_52 ?_
        refine r_iload C dX3_change_55 rfl ?_
        refine r_iload_n C dX3_change_57 rfl rfl ?_
        refine r_iast C (by omega) j4 (z.toNat * 64 + p.toNat) (by omega) (by omega) (Nat.le_of_ble_eq_true rfl) dX3_change_58 (fun f8 hs9 ho10 => ?_)
        have c11 : f8 (4) = eI tc 640 (fun j => iI (((upN (cur s).2.2.1 (z.toNat * 64 + p.toNat) v.toNat) j : Nat) : Int)) := hs9.trans (congrArg (fun g => eI tc 640 g) (updNz _ _ (by omega)))
        refine r_iload C dX3_change_59 rfl ?_
        have c12 : f8 (0) = eO 3 [.ref (ad (1)), .ref (ad (5)), .int (iI ((kpush (kno s) : Nat) : Int)), .ref (ad (30)), .ref (ad (39)), .ref (ad (40)), .int (iI ((pln s : Nat) : Int)), .ref (ad (41)), .ref (ad (82)), .ref (ad (83)), .ref (ad (87))] := (ho10 _ (by omega)).trans j0
        have c13 : f8 (1) = eO 1 [.ref (ad (2)), .ref (ad (3)), .ref (ad (4)), .int (iI (((cur s).2.2.2 : Nat) : Int))] := (ho10 _ (by omega)).trans j1
        have c14 : f8 (2) = eI tc 4 (fun j => iI (((cur s).1 j : Nat) : Int)) := (ho10 _ (by omega)).trans j2
        have c15 : f8 (3) = eI tc 10 (fun j => iI (((cur s).2.1 j : Nat) : Int)) := (ho10 _ (by omega)).trans j3
        exact hret f8 (((cur s).2.2.1 (z.toNat * 64 + p.toNat) : Nat) : Int) _ _ dX3_change_61 (by unfold aChg; rw [if_pos (by omega), if_pos (by omega)]) (⟨by unfold nChg; rw [if_pos (by omega)]; exact J_set (s := knowS s) hJ ⟨c13, c14, c15, c11⟩ c12 (fun q g1 g2 => (ho10 _ (by omega))), fun q hq => ((ho10 _ (by omega))).trans (hoB _ (by omega))⟩)
      · refine r_bipush C ((-2)) (by decide) dX3_change_21 ?_
        exact hret f ((-2)) _ _ dX3_change_23 (by unfold aChg; rw [if_pos (by omega), if_neg (by omega)]) (⟨by unfold nChg; rw [if_neg (by omega)]; exact hX, fun _ _ => rfl⟩)
  · refine r_iconst C ((-1)) (by decide) dX3_change_9 ?_
    exact hret f ((-1)) _ _ dX3_change_10 (by unfold aChg; rw [if_neg (by omega)]) (⟨by unfold nChg; rw [if_neg (by omega)]; exact hX, fun _ _ => rfl⟩)
set_option maxHeartbeats 4000000 in
set_option maxRecDepth 100000 in
/-- sign -/
theorem c_X3_sign (G : va_G) (tc : Nat → ClassId) (l : Launch) (ad : Nat → Nat) (N : Nat) (f : Nat → va_E) (s : SG) (hX : XI tc ad f s) (ho : okS s) (hN : 98 ≤ N) (z p : Int) (hz : inR z) (hp : inR p)   : Ct G tc l yX3_sign wsX3_sign { frames := 2, cells := 0, slots := 0, locals := 43 } 0 0 [.ref (ad (0)), .int (iI (z)), .int (iI (p))] ad N f (poI ad N (aSgn s z p) (fun f' => f' = f)) := by
  obtain ⟨h0, ⟨h1, h2, h3, h4⟩, hHis, hSlo, h40, hWds, hPr, hHd⟩ := id hX
  obtain ⟨⟨⟨a1, a2⟩, ⟨a3, a4⟩, ⟨a5, a6⟩, a7, a8, a9, a10⟩, o2, o3, o4, o5, o6⟩ := id ho
  refine stI (cc := cX3_sign) (maxL := 3) (lv := [(0, .ref (ad (0))), (1, .int (iI (z))), (2, .int (iI (p)))]) (by decide) rfl (Nat.le_of_ble_eq_true rfl) rfl (fun X C hret => ?_)
  have m0 : Cond.fieldLink RX3 10 "WordSamples" "now" "LWordSamples$State;" ∈ wsX3_sign := by decide +kernel
  have m1 : ∀ w ∈ wsX30, w ∈ wsX3_sign := by decide +kernel
  have m2 : Cond.fieldLink RX3 92 "WordSamples$State" "signs" "[I" ∈ wsX3_sign := by decide +kernel
  have m3 : ∀ w ∈ wsX10, w ∈ wsX3_sign := by decide +kernel
  refine r_aload_n C dX3_sign_0 rfl rfl ?_
  refine r_iload_n C dX3_sign_1 rfl rfl ?_
  refine r_iload_n C dX3_sign_2 rfl rfl ?_
  refine r_callV (As := [.int (iI (z)), .int (iI (p))]) (rest := []) (na := 2) C (c_X3_noPlace G tc l ad N _ s hX ho hN z p hz hp) gX3_sign_X3_noPlace rfl rfl rfl (by decide +kernel) ⟨Nat.le_of_ble_eq_true rfl, Nat.le_of_ble_eq_true rfl⟩ (by omega) h0 (show vwCl[3]? = some (RX3, TX3, 11) from rfl) rfl rfl (Nat.le_of_ble_eq_true rfl) dX3_sign_3 ⟨Nat.le_of_ble_eq_true rfl, Nat.le_of_ble_eq_true rfl⟩ (aft_I (fun f1 hF2 => ?_))
  rw [hF2]
  refine r_if_eq (tgt := 13) C ⟨by omega, by omega⟩ dX3_sign_6 (by decide) (fun b3 => ?_) (fun b3 => ?_)
  · have q9 := a9 z.toNat (by omega)
    refine r_aload_n C dX3_sign_13 rfl rfl ?_
    refine r_get (v := .ref (ad (1))) C (by omega) h0 (show vwCl[3]? = some (RX3, TX3, 11) from rfl) m1 0 (by decide) m0 rfl rfl dX3_sign_14 ?_
    refine r_get (v := .ref (ad (4))) C (by omega) h1 (show vwCl[1]? = some (RX1, TX1, 4) from rfl) m3 2 (by decide) m2 rfl rfl dX3_sign_17 ?_
    refine r_iload_n C dX3_sign_20 rfl rfl ?_
    refine r_bipush C ((64 : Nat) : Int) (by decide) dX3_sign_21 ?_
    refine r_imul C ((z) * ((64 : Nat) : Int)) rfl dX3_sign_23 ?_
    refine r_iload_n C dX3_sign_24 rfl rfl ?_
    refine r_iadd C (((z) * ((64 : Nat) : Int)) + (p)) rfl dX3_sign_25 ?_
    refine r_iald (x := (iI (((cur s).2.2.1 (z.toNat * 64 + p.toNat) : Nat) : Int))) C (by omega) h4 (z.toNat * 64 + p.toNat) (by omega) (by omega) (Nat.le_of_ble_eq_true rfl) (rfl) dX3_sign_26 ?_
    exact hret f (((cur s).2.2.1 (z.toNat * 64 + p.toNat) : Nat) : Int) _ _ dX3_sign_27 (by unfold aSgn; rw [if_pos (by omega)]) rfl
  · refine r_iconst C ((-1)) (by decide) dX3_sign_9 ?_
    refine r_goto (tgt := 27) C dX3_sign_10 (by decide) ?_
    exact hret f ((-1)) _ _ dX3_sign_27 (by unfold aSgn; rw [if_neg (by omega)]) rfl
set_option maxHeartbeats 4000000 in
set_option maxRecDepth 100000 in
/-- remove -/
theorem c_X3_remove (G : va_G) (tc : Nat → ClassId) (l : Launch) (ad : Nat → Nat) (N : Nat) (f : Nat → va_E) (s : SG) (hX : XI tc ad f s) (ho : okS s) (hN : 98 ≤ N) (z : Int) (hz : inR z)   : Ct G tc l yX3_remove wsX3_remove { frames := 3, cells := 0, slots := 0, locals := 61 } 0 0 [.ref (ad (0)), .int (iI (z))] ad N f (poI ad N (aRem s z) (fun f' => XI tc ad f' (nRem s z) ∧ ∀ q, 88 ≤ q → f' q = f q)) := by
  obtain ⟨h0, ⟨h1, h2, h3, h4⟩, hHis, hSlo, h40, hWds, hPr, hHd⟩ := id hX
  obtain ⟨⟨⟨a1, a2⟩, ⟨a3, a4⟩, ⟨a5, a6⟩, a7, a8, a9, a10⟩, o2, o3, o4, o5, o6⟩ := id ho
  refine stI (cc := cX3_remove) (maxL := 3) (lv := [(0, .ref (ad (0))), (1, .int (iI (z)))]) (by decide) rfl (Nat.le_of_ble_eq_true rfl) rfl (fun X C hret => ?_)
  have m0 : Cond.fieldLink RX3 10 "WordSamples" "now" "LWordSamples$State;" ∈ wsX3_remove := by decide +kernel
  have m1 : ∀ w ∈ wsX30, w ∈ wsX3_remove := by decide +kernel
  have m2 : Cond.fieldLink RX3 74 "WordSamples$State" "rows" "I" ∈ wsX3_remove := by decide +kernel
  have m3 : ∀ w ∈ wsX10, w ∈ wsX3_remove := by decide +kernel
  have m4 : Cond.fieldLink RX3 77 "WordSamples$State" "lengths" "[I" ∈ wsX3_remove := by decide +kernel
  have m5 : Cond.methodLink RX3 95 arraycopyName ∈ wsX3_remove := by decide +kernel
  have m6 : Cond.native arraycopyName ∈ wsX3_remove := by decide +kernel
  have m7 : Cond.static arraycopyName ∈ wsX3_remove := by decide +kernel
  have m8 : Cond.initialized "java/lang/System" ∈ wsX3_remove := by decide +kernel
  have m9 : Cond.fieldLink RX3 92 "WordSamples$State" "signs" "[I" ∈ wsX3_remove := by decide +kernel
  refine r_aload_n C dX3_remove_0 rfl rfl ?_
  refine r_iload_n C dX3_remove_1 rfl rfl ?_
  refine r_callV (As := [.int (iI (z))]) (rest := []) (na := 1) C (c_X3_noRow G tc l ad N _ s hX ho hN z hz) gX3_remove_X3_noRow rfl rfl rfl (by decide +kernel) ⟨Nat.le_of_ble_eq_true rfl, Nat.le_of_ble_eq_true rfl⟩ (by omega) h0 (show vwCl[3]? = some (RX3, TX3, 11) from rfl) rfl rfl (Nat.le_of_ble_eq_true rfl) dX3_remove_2 ⟨Nat.le_of_ble_eq_true rfl, Nat.le_of_ble_eq_true rfl⟩ (aft_I (fun f1 hF2 => ?_))
  rw [hF2]
  refine r_if_eq (tgt := 10) C ⟨by omega, by omega⟩ dX3_remove_5 (by decide) (fun b3 => ?_) (fun b3 => ?_)
  · refine r_aload_n C dX3_remove_10 rfl rfl ?_
    refine r_callV (As := []) (rest := []) (na := 0) C (c_X3_beginChange G tc l ad N _ s hX ho hN) gX3_remove_X3_beginChange rfl rfl rfl (by decide +kernel) ⟨Nat.le_of_ble_eq_true rfl, Nat.le_of_ble_eq_true rfl⟩ (by omega) h0 (show vwCl[3]? = some (RX3, TX3, 11) from rfl) rfl rfl (Nat.le_of_ble_eq_true rfl) dX3_remove_11 ⟨Nat.le_of_ble_eq_true rfl, Nat.le_of_ble_eq_true rfl⟩ (aft_V (fun f4 hF5 => ?_))
    obtain ⟨hJ, hoB⟩ := hF5
    obtain ⟨j0, ⟨j1, j2, j3, j4⟩, jH, jS, j40, jW, jP, jD⟩ := id hJ
    refine r_aload_n C dX3_remove_14 rfl rfl ?_
    refine r_get (v := .ref (ad (1))) C (by omega) j0 (show vwCl[3]? = some (RX3, TX3, 11) from rfl) m1 0 (by decide) m0 rfl rfl dX3_remove_15 ?_
    refine r_get (v := .int (iI (((cur s).2.2.2 : Nat) : Int))) C (by omega) j1 (show vwCl[1]? = some (RX1, TX1, 4) from rfl) m3 3 (by decide) m2 rfl rfl dX3_remove_18 ?_
    refine r_iconst C ((1 : Nat) : Int) (by decide) dX3_remove_21 ?_
    refine r_isub C (((cur s).2.2.2 - 1 : Nat) : Int) (by omega) dX3_remove_22 ?_
    refine r_iload_n C dX3_remove_23 rfl rfl ?_
    rw [show (.int (iI (z)) : Value) = .int (iI ((z.toNat : Nat) : Int)) from by rw [Int.toNat_of_nonneg (by omega)]]
    refine r_isub C (((cur s).2.2.2 - 1 - z.toNat : Nat) : Int) (by omega) dX3_remove_24 ?_
    refine r_istore_n (lv' := [(0, .ref (ad (0))), (1, .int (iI ((z.toNat : Nat) : Int))), (2, .int (iI (((cur s).2.2.2 - 1 - z.toNat : Nat) : Int)))]) C dX3_remove_25 rfl (by decide) rfl ?_
    refine r_aload_n C dX3_remove_26 rfl rfl ?_
    refine r_get (v := .ref (ad (1))) C (by omega) j0 (show vwCl[3]? = some (RX3, TX3, 11) from rfl) m1 0 (by decide) m0 rfl rfl dX3_remove_27 ?_
    refine r_get (v := .ref (ad (3))) C (by omega) j1 (show vwCl[1]? = some (RX1, TX1, 4) from rfl) m3 1 (by decide) m4 rfl rfl dX3_remove_30 ?_
    refine r_iload_n C dX3_remove_33 rfl rfl ?_
    rw [show (.int (iI ((z.toNat : Nat) : Int)) : Value) = .int (iI ((z.toNat : Nat) : Int)) from by rw [Int.toNat_of_nonneg (by omega)]]
    refine r_iconst C ((1 : Nat) : Int) (by decide) dX3_remove_34 ?_
    refine r_iadd C ((z.toNat + 1 : Nat) : Int) (by omega) dX3_remove_35 ?_
    refine r_aload_n C dX3_remove_36 rfl rfl ?_
    refine r_get (v := .ref (ad (1))) C (by omega) j0 (show vwCl[3]? = some (RX3, TX3, 11) from rfl) m1 0 (by decide) m0 rfl rfl dX3_remove_37 ?_
    refine r_get (v := .ref (ad (3))) C (by omega) j1 (show vwCl[1]? = some (RX1, TX1, 4) from rfl) m3 1 (by decide) m4 rfl rfl dX3_remove_40 ?_
    refine r_iload_n C dX3_remove_43 rfl rfl ?_
    rw [show (.int (iI ((z.toNat : Nat) : Int)) : Value) = .int (iI ((z.toNat : Nat) : Int)) from by rw [Int.toNat_of_nonneg (by omega)]]
    refine r_iload_n C dX3_remove_44 rfl rfl ?_
    refine r_acp C ⟨m5, m6, m7, m8⟩ (Nat.le_of_ble_eq_true rfl) (Nat.le_of_ble_eq_true rfl) (by omega) j3 (by omega) j3 (z.toNat + 1) (z.toNat) ((cur s).2.2.2 - 1 - z.toNat) rfl rfl rfl (by omega) (by omega) (Nat.le_of_ble_eq_true rfl) (Nat.le_of_ble_eq_true rfl) dX3_remove_45 (fun f6 hs7 ho8 => ?_)
    have c9 : f6 (3) = eI tc 10 (fun j => iI (((outL (cur s).2.1 z.toNat (cur s).2.2.2) j : Nat) : Int)) := hs7.trans (congrArg (fun g => eI tc 10 g) (cpyL _ (by omega)))
    refine r_aload_n C dX3_remove_48 rfl rfl ?_
    have c10 : f6 (0) = eO 3 [.ref (ad (1)), .ref (ad (5)), .int (iI ((kpush (kno s) : Nat) : Int)), .ref (ad (30)), .ref (ad (39)), .ref (ad (40)), .int (iI ((pln s : Nat) : Int)), .ref (ad (41)), .ref (ad (82)), .ref (ad (83)), .ref (ad (87))] := (ho8 _ (by omega)).trans j0
    refine r_get (v := .ref (ad (1))) C (by omega) c10 (show vwCl[3]? = some (RX3, TX3, 11) from rfl) m1 0 (by decide) m0 rfl rfl dX3_remove_49 ?_
    have c11 : f6 (1) = eO 1 [.ref (ad (2)), .ref (ad (3)), .ref (ad (4)), .int (iI (((cur s).2.2.2 : Nat) : Int))] := (ho8 _ (by omega)).trans j1
    refine r_get (v := .ref (ad (4))) C (by omega) c11 (show vwCl[1]? = some (RX1, TX1, 4) from rfl) m3 2 (by decide) m9 rfl rfl dX3_remove_52 ?_
    refine r_iload_n C dX3_remove_55 rfl rfl ?_
    rw [show (.int (iI ((z.toNat : Nat) : Int)) : Value) = .int (iI ((z.toNat : Nat) : Int)) from by rw [Int.toNat_of_nonneg (by omega)]]
    refine r_iconst C ((1 : Nat) : Int) (by decide) dX3_remove_56 ?_
    refine r_iadd C ((z.toNat + 1 : Nat) : Int) (by omega) dX3_remove_57 ?_
    refine r_bipush C ((64 : Nat) : Int) (by decide) dX3_remove_58 ?_
    refine r_imul C (((z.toNat + 1) * 64 : Nat) : Int) (by omega) dX3_remove_60 ?_
    refine r_aload_n C dX3_remove_61 rfl rfl ?_
    refine r_get (v := .ref (ad (1))) C (by omega) c10 (show vwCl[3]? = some (RX3, TX3, 11) from rfl) m1 0 (by decide) m0 rfl rfl dX3_remove_62 ?_
    refine r_get (v := .ref (ad (4))) C (by omega) c11 (show vwCl[1]? = some (RX1, TX1, 4) from rfl) m3 2 (by decide) m9 rfl rfl dX3_remove_65 ?_
    refine r_iload_n C dX3_remove_68 rfl rfl ?_
    rw [show (.int (iI ((z.toNat : Nat) : Int)) : Value) = .int (iI ((z.toNat : Nat) : Int)) from by rw [Int.toNat_of_nonneg (by omega)]]
    refine r_bipush C ((64 : Nat) : Int) (by decide) dX3_remove_69 ?_
    refine r_imul C ((z.toNat * 64 : Nat) : Int) (by omega) dX3_remove_71 ?_
    refine r_iload_n C dX3_remove_72 rfl rfl ?_
    refine r_bipush C ((64 : Nat) : Int) (by decide) dX3_remove_73 ?_
    refine r_imul C ((((cur s).2.2.2 - 1 - z.toNat) * 64 : Nat) : Int) (by omega) dX3_remove_75 ?_
    have c12 : f6 (4) = eI tc 640 (fun j => iI (((cur s).2.2.1 j : Nat) : Int)) := (ho8 _ (by omega)).trans j4
    refine r_acp C ⟨m5, m6, m7, m8⟩ (Nat.le_of_ble_eq_true rfl) (Nat.le_of_ble_eq_true rfl) (by omega) c12 (by omega) c12 ((z.toNat + 1) * 64) (z.toNat * 64) (((cur s).2.2.2 - 1 - z.toNat) * 64) rfl rfl rfl (by omega) (by omega) (Nat.le_of_ble_eq_true rfl) (Nat.le_of_ble_eq_true rfl) dX3_remove_76 (fun f13 hs14 ho15 => ?_)
    have c16 : f13 (4) = eI tc 640 (fun j => iI (((outG (cur s).2.2.1 z.toNat (cur s).2.2.2) j : Nat) : Int)) := hs14.trans (congrArg (fun g => eI tc 640 g) (cpyG _ (by omega)))
    refine r_aload_n C dX3_remove_79 rfl rfl ?_
    have c17 : f13 (0) = eO 3 [.ref (ad (1)), .ref (ad (5)), .int (iI ((kpush (kno s) : Nat) : Int)), .ref (ad (30)), .ref (ad (39)), .ref (ad (40)), .int (iI ((pln s : Nat) : Int)), .ref (ad (41)), .ref (ad (82)), .ref (ad (83)), .ref (ad (87))] := (ho15 _ (by omega)).trans c10
    refine r_get (v := .ref (ad (1))) C (by omega) c17 (show vwCl[3]? = some (RX3, TX3, 11) from rfl) m1 0 (by decide) m0 rfl rfl dX3_remove_80 ?_
    refine r_dup C dX3_remove_83 rfl ?_
    have c18 : f13 (1) = eO 1 [.ref (ad (2)), .ref (ad (3)), .ref (ad (4)), .int (iI (((cur s).2.2.2 : Nat) : Int))] := (ho15 _ (by omega)).trans c11
    refine r_get (v := .int (iI (((cur s).2.2.2 : Nat) : Int))) C (by omega) c18 (show vwCl[1]? = some (RX1, TX1, 4) from rfl) m3 3 (by decide) m2 rfl rfl dX3_remove_84 ?_
    refine r_iconst C ((1 : Nat) : Int) (by decide) dX3_remove_87 ?_
    refine r_isub C (((cur s).2.2.2 - 1 : Nat) : Int) (by omega) dX3_remove_88 ?_
    refine r_put (ty := .int) C (by omega) c18 (show vwCl[1]? = some (RX1, TX1, 4) from rfl) m3 tyX1_ok nmX1 3 (by decide) m2 rfl rfl (by decide +kernel) rfl rfl (Nat.le_of_ble_eq_true rfl) dX3_remove_89 (fun f19 hs20 ho21 => ?_)
    have c22 : f19 (1) = eO 1 [.ref (ad (2)), .ref (ad (3)), .ref (ad (4)), .int (iI (((cur s).2.2.2 - 1 : Nat) : Int))] := hs20
    refine r_aload_n C dX3_remove_92 rfl rfl ?_
    have c23 : f19 (0) = eO 3 [.ref (ad (1)), .ref (ad (5)), .int (iI ((kpush (kno s) : Nat) : Int)), .ref (ad (30)), .ref (ad (39)), .ref (ad (40)), .int (iI ((pln s : Nat) : Int)), .ref (ad (41)), .ref (ad (82)), .ref (ad (83)), .ref (ad (87))] := (ho21 _ (by omega)).trans c17
    refine r_get (v := .ref (ad (1))) C (by omega) c23 (show vwCl[3]? = some (RX3, TX3, 11) from rfl) m1 0 (by decide) m0 rfl rfl dX3_remove_93 ?_
    refine r_get (v := .int (iI (((cur s).2.2.2 - 1 : Nat) : Int))) C (by omega) c22 (show vwCl[1]? = some (RX1, TX1, 4) from rfl) m3 3 (by decide) m2 rfl rfl dX3_remove_96 ?_
    have c24 : f6 (2) = eI tc 4 (fun j => iI (((cur s).1 j : Nat) : Int)) := (ho8 _ (by omega)).trans j2
    have c25 : f13 (2) = eI tc 4 (fun j => iI (((cur s).1 j : Nat) : Int)) := (ho15 _ (by omega)).trans c24
    have c26 : f19 (2) = eI tc 4 (fun j => iI (((cur s).1 j : Nat) : Int)) := (ho21 _ (by omega)).trans c25
    have c27 : f13 (3) = eI tc 10 (fun j => iI (((outL (cur s).2.1 z.toNat (cur s).2.2.2) j : Nat) : Int)) := (ho15 _ (by omega)).trans c9
    have c28 : f19 (3) = eI tc 10 (fun j => iI (((outL (cur s).2.1 z.toNat (cur s).2.2.2) j : Nat) : Int)) := (ho21 _ (by omega)).trans c27
    have c29 : f19 (4) = eI tc 640 (fun j => iI (((outG (cur s).2.2.1 z.toNat (cur s).2.2.2) j : Nat) : Int)) := (ho21 _ (by omega)).trans c16
    exact hret f19 (((cur s).2.2.2 - 1 : Nat) : Int) _ _ dX3_remove_99 (by unfold aRem; rw [if_pos (by omega)]) (⟨by unfold nRem; rw [if_pos (by omega)]; exact J_set (s := knowS s) hJ ⟨c22, c26, c28, c29⟩ c23 (fun q g1 g2 => (((ho21 _ (by omega))).trans (ho15 _ (by omega))).trans (ho8 _ (by omega))), fun q hq => ((((ho21 _ (by omega))).trans (ho15 _ (by omega))).trans (ho8 _ (by omega))).trans (hoB _ (by omega))⟩)
  · refine r_iconst C ((-1)) (by decide) dX3_remove_8 ?_
    exact hret f ((-1)) _ _ dX3_remove_9 (by unfold aRem; rw [if_neg (by omega)]) (⟨by unfold nRem; rw [if_neg (by omega)]; exact hX, fun _ _ => rfl⟩)
end XO1
