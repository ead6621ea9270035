section XP1
theorem if_le1 (b : Bool) : (if b = true then 1 else 0 : Nat) ≤ 1 := by
  split <;> omega
theorem if_1 {b : Bool} (h : ¬ (((if b = true then 1 else 0 : Nat) : Nat) : Int) = 0) : b = true := by
  cases b
  · exact absurd rfl h
  · rfl
theorem if_0 {b : Bool} (h : (((if b = true then 1 else 0 : Nat) : Nat) : Int) = 0) : b = false := by
  cases b
  · rfl
  · exact absurd h (by decide)
theorem XI_pad {tc : Nat → ClassId} {ad : Nat → Nat} {s : SG} {f f' : Nat → va_E} {p : Nat → Nat} {pl : Nat} (hX : XI tc ad f s) (h0 : f' 0 = oX ad (kno s) pl) (h40 : f' 40 = eI tc 64 (fun j => iI ((p j : Nat) : Int))) (hfr : ∀ q, q ≠ 0 → q ≠ 40 → q < 88 → f' q = f q) : XI tc ad f' (setP s p pl) := by
  obtain ⟨-, hs, jH, jS, j40, jW, jP, jD⟩ := hX
  exact ⟨h0, hs.fr (fun q _ _ => hfr q (by omega) (by omega) (by omega)), jH.fr (fun q _ _ => hfr q (by omega) (by omega) (by omega)), jS.fr (fun q _ _ => hfr q (by omega) (by omega) (by omega)), h40, jW.fr (fun q _ _ => hfr q (by omega) (by omega) (by omega)), jP.fr (fun q _ _ => hfr q (by omega) (by omega) (by omega)), jD.fr (hfr _ (by omega) (by omega) (by omega))⟩
theorem undo_XI {tc : Nat → ClassId} {ad : Nat → Nat} {s : SG} {f f' : Nat → va_E} {n : NS} {kn : Nat} (hX : XI tc ad f s) (hk : kn ≤ kno s) (h0 : f' 0 = oX ad kn (pln s)) (h1 : isSt tc ad f' 1 n) (h82 : ∃ g : Nat → Int32, f' 82 = eB tc 10 g ∧ ∀ j, j < 10 → g j = iI ((0 : Nat) : Int)) (hfr : ∀ q, 5 ≤ q → q ≠ 82 → f' q = f q) : XI tc ad f' (n, hst s, kn, slo s, sav s, pad s, pln s) := by
  obtain ⟨-, hs, jH, jS, j40, ⟨gt, wd, w1, w2, w3, w4⟩, jP, jD⟩ := hX
  obtain ⟨g, g1, g2⟩ := h82
  have jH' := jH.fr (f' := f') (fun q _ _ => hfr q (by omega) (by omega))
  obtain ⟨pi, hs', a1, a2, a3, a4, a5⟩ := jH'
  exact ⟨h0, h1, ⟨pi, hs', a1, a2, a3, a4, fun k hk' => a5 k (by show k < kno s; have h : k < kn := hk'; omega)⟩, jS.fr (fun q _ _ => hfr q (by omega) (by omega)), j40.fr (hfr _ (by omega) (by omega)),
    ⟨g, wd, (hfr _ (by omega) (by omega)).trans w1, g1, fun k hk => (w3 k hk).fr (fun q _ _ => hfr q (by omega) (by omega)), fun k hk => Or.inl (g2 k hk)⟩, jP.fr (fun q _ _ => hfr q (by omega) (by omega)), jD.fr (hfr _ (by omega) (by omega))⟩
theorem save_XI {tc : Nat → ClassId} {ad : Nat → Nat} {s : SG} {f f' : Nat → va_E} {r : Nat} {sg : Nat → Int32} (hX : XI tc ad f s) (hr : r < 2) (hc : isSt tc ad f' (31 + 4 * r) (cur s)) (h39 : f' 39 = eB tc 2 (upd sg r (iI ((1 : Nat) : Int)))) (hfr : ∀ q, (q < 31 + 4 * r ∨ 31 + 4 * r + 4 ≤ q) → q ≠ 39 → q < 88 → f' q = f q) (hsg : f 39 = eB tc 2 sg) : XI tc ad f' (cur s, hst s, kno s, (fun k => if k = r then cur s else slo s k), (fun k => if k = r then true else sav s k), pad s, pln s) := by
  obtain ⟨h0, hs, jH, ⟨ss, s30, sst, ⟨sg2, s39, hsg2⟩, hsv⟩, j40, jW, jP, jD⟩ := hX
  have e : sg2 = sg := by
    have h := s39.symm.trans hsg
    injection h with h
    injection h with _ h
    injection h with _ h
    injection h with h
  subst e
  refine ⟨(hfr _ (by omega) (by omega) (by omega)).trans h0, hs.fr (fun q _ _ => hfr q (by omega) (by omega) (by omega)), jH.fr (fun q _ _ => hfr q (by omega) (by omega) (by omega)), ?_, j40.fr (hfr _ (by omega) (by omega) (by omega)), jW.fr (fun q _ _ => hfr q (by omega) (by omega) (by omega)), jP.fr (fun q _ _ => hfr q (by omega) (by omega) (by omega)), jD.fr (hfr _ (by omega) (by omega) (by omega))⟩
  refine ⟨fun k => if k = r then cur s else ss k, (hfr _ (by omega) (by omega) (by omega)).trans s30, fun k hk => ?_, ⟨_, h39, fun k hk => ?_⟩, fun k hk h => ?_⟩
  · dsimp only
    by_cases h : k = r
    · rw [if_pos h, h]
      exact hc
    · rw [if_neg h]
      exact (sst k hk).fr (fun q g1 g2 => hfr q (by omega) (by omega) (by omega))
  · unfold upd
    dsimp only [sav]
    by_cases h : k = r
    · simp [h]
    · simp [h]
      have := hsg2 k hk
      simpa using this
  · dsimp only [sav, slo] at h ⊢
    by_cases h2 : k = r
    · rw [if_pos h2, if_pos h2]
    · rw [if_neg h2, if_neg h2]
      rw [if_neg h2] at h
      exact hsv k hk h
set_option maxHeartbeats 4000000 in
set_option maxRecDepth 100000 in
/-- codeIn(x, p) -/
theorem c_X3_codeIn (G : va_G) (tc : Nat → ClassId) (l : Launch) (ad : Nat → Nat) (N : Nat) (f : Nat → va_E) (x : Int64) (p : Nat) (hp : p < 8)   : Ct G tc l yX3_codeIn wsX3_codeIn { frames := 0, cells := 0, slots := 0, locals := 0 } 0 0 [.long (x), .int (iI ((p : Nat) : Int))] ad N f (poI ad N (((byt x p : Nat) : Int)) (fun f' => f' = f)) := by
  refine stI (cc := cX3_codeIn) (maxL := 3) (lv := [(0, .long (x)), (2, .int (iI ((p : Nat) : Int)))]) (by decide) rfl (Nat.le_of_ble_eq_true rfl) rfl (fun X C hret => ?_)
  have m0 : Cond.constantLong RX3 225 (255) ∈ wsX3_codeIn := by decide +kernel
  refine r_lload_n C dX3_codeIn_0 rfl rfl ?_
  refine r_bipush C ((8 : Nat) : Int) (by decide) dX3_codeIn_1 ?_
  refine r_iload_n C dX3_codeIn_3 rfl rfl ?_
  refine r_imul C ((8 * p : Nat) : Int) (by omega) dX3_codeIn_4 ?_
  refine r_lushr C dX3_codeIn_5 ?_
  refine r_ldc2 C 255 (by decide) m0 dX3_codeIn_6 ?_
  refine r_land C dX3_codeIn_9 ?_
  refine r_l2i C dX3_codeIn_10 ?_
  rw [show (.int ((((((x)).toUInt64 >>> (((iI ((8 * p : Nat) : Int))).toInt64.toUInt64 &&& Int64.toUInt64 63)).toInt64) &&& (jI 255)).toInt32) : Value) = .int (iI ((byt x p : Nat) : Int)) from by rw [byt_u x hp]]
  exact hret f ((byt x p : Nat) : Int) _ _ dX3_codeIn_11 rfl rfl
set_option maxHeartbeats 4000000 in
set_option maxRecDepth 100000 in
/-- charactersIn(x) -/
theorem c_X3_charactersIn (G : va_G) (tc : Nat → ClassId) (l : Launch) (ad : Nat → Nat) (N : Nat) (f : Nat → va_E) (x : Int64)   : Ct G tc l yX3_charactersIn wsX3_charactersIn { frames := 1, cells := 0, slots := 0, locals := 22 } 0 0 [.long (x)] ad N f (poI ad N (((nch x : Nat) : Int)) (fun f' => f' = f)) := by
  refine stI (cc := cX3_charactersIn) (maxL := 5) (lv := [(0, .long (x))]) (by decide) rfl (Nat.le_of_ble_eq_true rfl) rfl (fun X C hret => ?_)
  refine r_iconst C ((0 : Nat) : Int) (by decide) dX3_charactersIn_0 ?_
  refine r_istore_n (lv' := [(0, .long (x)), (2, .int (iI ((0 : Nat) : Int)))]) C dX3_charactersIn_1 rfl (by decide) rfl ?_
  refine r_iconst C ((0 : Nat) : Int) (by decide) dX3_charactersIn_2 ?_
  refine r_istore_n (lv' := [(0, .long (x)), (2, .int (iI ((0 : Nat) : Int))), (3, .int (iI ((0 : Nat) : Int)))]) C dX3_charactersIn_3 rfl (by decide) rfl ?_
  have hL1 : ∀ (m_2 : Nat) (n : Nat) (p : Nat) (hn : n ≤ p) (hp : p ≤ 8) (h1 : ∀ j, j < n → 33 ≤ byt x j ∧ byt x j ≤ 126) (h2 : ∀ j, n ≤ j → j < p → byt x j = 0), 8 - p < m_2 → VV X ad N f 0 0 4 [(0, .long (x)), (2, .int (iI ((n : Nat) : Int))), (3, .int (iI ((p : Nat) : Int)))] [] := by
    intro m_2
    induction m_2 with
    | zero => intros; omega
    | succ m_2 ih3 =>
      intro n p hn hp h1 h2 hm4
      refine r_iload_n C dX3_charactersIn_4 rfl rfl ?_
      refine r_bipush C ((8 : Nat) : Int) (by decide) dX3_charactersIn_5 ?_
      refine r_icmp_ge (tgt := 55) C ⟨by omega, by omega⟩ ⟨by omega, by omega⟩ dX3_charactersIn_7 (by decide) (fun b5 => ?_) (fun b5 => ?_)
      · refine r_iload_n C dX3_charactersIn_55 rfl rfl ?_
        exact hret f ((n : Nat) : Int) _ _ dX3_charactersIn_56 (by rw [nch_good (by omega) h1 (fun j g1 g2 => h2 j g1 (by omega))]) rfl
      · refine r_lload_n C dX3_charactersIn_10 rfl rfl ?_
        refine r_iload_n C dX3_charactersIn_11 rfl rfl ?_
        refine r_callS (As := [.long (x), .int (iI ((p : Nat) : Int))]) (rest := []) (na := 2) C (c_X3_codeIn G tc l ad N _ x (p) (by omega)) gX3_charactersIn_X3_codeIn rfl rfl rfl (by decide +kernel) ⟨Nat.le_of_ble_eq_true rfl, Nat.le_of_ble_eq_true rfl⟩ rfl rfl (Nat.le_of_ble_eq_true rfl) dX3_charactersIn_12 ⟨Nat.le_of_ble_eq_true rfl, Nat.le_of_ble_eq_true rfl⟩ (aft_I (fun f6 hF7 => ?_))
        rw [hF7]
        have q1 := byt_lt x p
        refine r_istore (lv' := [(0, .long (x)), (2, .int (iI ((n : Nat) : Int))), (3, .int (iI ((p : Nat) : Int))), (4, .int (iI ((byt x (p) : Nat) : Int)))]) C dX3_charactersIn_15 (by decide) rfl ?_
        refine r_iload C dX3_charactersIn_17 rfl ?_
        refine r_if_ne (tgt := 25) C ⟨by omega, by omega⟩ dX3_charactersIn_19 (by decide) (fun b8 => ?_) (fun b8 => ?_)
        · refine r_iload_n C dX3_charactersIn_25 rfl rfl ?_
          refine r_iload_n C dX3_charactersIn_26 rfl rfl ?_
          refine r_icmp_lt (tgt := 44) C ⟨by omega, by omega⟩ ⟨by omega, by omega⟩ dX3_charactersIn_27 (by decide) (fun b9 => ?_) (fun b9 => ?_)
          · refine r_iconst C ((0 : Nat) : Int) (by decide) dX3_charactersIn_44 ?_
            exact hret f ((0 : Nat) : Int) _ _ dX3_charactersIn_45 (by have hb : nch x = 0 := (if h : n < p then nch_bad1 (p := p) (by omega) h h1 h2 (by omega) else nch_bad2 (p := p) (by omega) (fun j hj => h1 j (by omega)) (by omega) (by omega)); rw [hb]) rfl
          · refine r_iload C dX3_charactersIn_30 rfl ?_
            refine r_bipush C ((33 : Nat) : Int) (by decide) dX3_charactersIn_32 ?_
            refine r_icmp_lt (tgt := 44) C ⟨by omega, by omega⟩ ⟨by omega, by omega⟩ dX3_charactersIn_34 (by decide) (fun b10 => ?_) (fun b10 => ?_)
            · refine r_iconst C ((0 : Nat) : Int) (by decide) dX3_charactersIn_44 ?_
              exact hret f ((0 : Nat) : Int) _ _ dX3_charactersIn_45 (by have hb : nch x = 0 := (if h : n < p then nch_bad1 (p := p) (by omega) h h1 h2 (by omega) else nch_bad2 (p := p) (by omega) (fun j hj => h1 j (by omega)) (by omega) (by omega)); rw [hb]) rfl
            · refine r_iload C dX3_charactersIn_37 rfl ?_
              refine r_bipush C ((126 : Nat) : Int) (by decide) dX3_charactersIn_39 ?_
              refine r_icmp_le (tgt := 46) C ⟨by omega, by omega⟩ ⟨by omega, by omega⟩ dX3_charactersIn_41 (by decide) (fun b11 => ?_) (fun b11 => ?_)
              · refine r_iinc (lv' := [(0, .long (x)), (2, .int (iI ((n + 1 : Nat) : Int))), (3, .int (iI ((p : Nat) : Int))), (4, .int (iI ((byt x (p) : Nat) : Int)))]) C ((n + 1 : Nat) : Int) (by omega) dX3_charactersIn_46 rfl (by decide) rfl ?_
                refine r_iinc (lv' := [(0, .long (x)), (2, .int (iI ((n + 1 : Nat) : Int))), (3, .int (iI ((p + 1 : Nat) : Int))), (4, .int (iI ((byt x (p) : Nat) : Int)))]) C ((p + 1 : Nat) : Int) (by omega) dX3_charactersIn_49 rfl (by decide) rfl ?_
                refine r_goto (tgt := 4) C dX3_charactersIn_52 (by decide) ?_
                refine r_sub (ks := [0, 1, 2]) (lv' := [(0, .long (x)), (2, .int (iI ((n + 1 : Nat) : Int))), (3, .int (iI ((p + 1 : Nat) : Int)))]) rfl ?_
                exact ih3 (n + 1) (p + 1) (by omega) (by omega) (fun j hj => if h : j < n then h1 j h else (by have e : j = p := (by omega); rw [e]; omega)) (fun j g1 g2 => absurd g2 (by omega)) (by omega)
              · refine r_iconst C ((0 : Nat) : Int) (by decide) dX3_charactersIn_44 ?_
                exact hret f ((0 : Nat) : Int) _ _ dX3_charactersIn_45 (by have hb : nch x = 0 := (if h : n < p then nch_bad1 (p := p) (by omega) h h1 h2 (by omega) else nch_bad2 (p := p) (by omega) (fun j hj => h1 j (by omega)) (by omega) (by omega)); rw [hb]) rfl
        · refine r_goto (tgt := 49) C dX3_charactersIn_22 (by decide) ?_
          refine r_iinc (lv' := [(0, .long (x)), (2, .int (iI ((n : Nat) : Int))), (3, .int (iI ((p + 1 : Nat) : Int))), (4, .int (iI ((byt x (p) : Nat) : Int)))]) C ((p + 1 : Nat) : Int) (by omega) dX3_charactersIn_49 rfl (by decide) rfl ?_
          refine r_goto (tgt := 4) C dX3_charactersIn_52 (by decide) ?_
          refine r_sub (ks := [0, 1, 2]) (lv' := [(0, .long (x)), (2, .int (iI ((n : Nat) : Int))), (3, .int (iI ((p + 1 : Nat) : Int)))]) rfl ?_
          exact ih3 n (p + 1) (by omega) (by omega) h1 (fun j g1 g2 => if h : j < p then h2 j g1 h else (by have e : j = p := (by omega); rw [e]; omega)) (by omega)
  exact hL1 _ 0 0 (by omega) (by omega) (fun j hj => absurd hj (Nat.not_lt_zero _)) (fun j g1 g2 => absurd g2 (Nat.not_lt_zero _)) (Nat.lt_succ_self _)
set_option maxHeartbeats 4000000 in
set_option maxRecDepth 100000 in
/-- put -/
theorem c_X3_put (G : va_G) (tc : Nat → ClassId) (l : Launch) (ad : Nat → Nat) (N : Nat) (f : Nat → va_E) (s : SG) (hX : XI tc ad f s) (ho : okS s) (hN : 98 ≤ N) (x : Int64)   : Ct G tc l yX3_put wsX3_put { frames := 2, cells := 0, slots := 0, locals := 46 } 0 0 [.ref (ad (0)), .long (x)] ad N f (poI ad N (aPut s x) (fun f' => XI tc ad f' (nPut s x) ∧ ∀ q, 88 ≤ q → f' q = f q)) := by
  obtain ⟨h0, ⟨h1, h2, h3, h4⟩, hHis, hSlo, h40, hWds, hPr, hHd⟩ := id hX
  obtain ⟨⟨⟨a1, a2⟩, ⟨a3, a4⟩, ⟨a5, a6⟩, a7, a8, a9, a10⟩, o2, o3, o4, o5, o6⟩ := id ho
  refine stI (cc := cX3_put) (maxL := 5) (lv := [(0, .ref (ad (0))), (1, .long (x))]) (by decide) rfl (Nat.le_of_ble_eq_true rfl) rfl (fun X C hret => ?_)
  have m0 : Cond.fieldLink RX3 35 "WordSamples" "padLength" "I" ∈ wsX3_put := by decide +kernel
  have m1 : ∀ w ∈ wsX30, w ∈ wsX3_put := by decide +kernel
  have m2 : Cond.fieldLink RX3 31 "WordSamples" "pad" "[I" ∈ wsX3_put := by decide +kernel
  refine r_lload_n C dX3_put_0 rfl rfl ?_
  refine r_callS (As := [.long (x)]) (rest := []) (na := 1) C (c_X3_charactersIn G tc l ad N _ x) gX3_put_X3_charactersIn rfl rfl rfl (by decide +kernel) ⟨Nat.le_of_ble_eq_true rfl, Nat.le_of_ble_eq_true rfl⟩ rfl rfl (Nat.le_of_ble_eq_true rfl) dX3_put_1 ⟨Nat.le_of_ble_eq_true rfl, Nat.le_of_ble_eq_true rfl⟩ (aft_I (fun f1 hF2 => ?_))
  rw [hF2]
  have q1 := nch_le x
  refine r_istore_n (lv' := [(0, .ref (ad (0))), (1, .long (x)), (3, .int (iI ((nch x : Nat) : Int)))]) C dX3_put_4 rfl (by decide) rfl ?_
  refine r_iload_n C dX3_put_5 rfl rfl ?_
  refine r_if_ne (tgt := 12) C ⟨by omega, by omega⟩ dX3_put_6 (by decide) (fun b3 => ?_) (fun b3 => ?_)
  · refine r_aload_n C dX3_put_12 rfl rfl ?_
    refine r_get (v := .int (iI ((pln s : Nat) : Int))) C (by omega) h0 (show vwCl[3]? = some (RX3, TX3, 11) from rfl) m1 6 (by decide) m0 rfl rfl dX3_put_13 ?_
    refine r_iload_n C dX3_put_16 rfl rfl ?_
    refine r_iadd C ((pln s + (nch x) : Nat) : Int) (by omega) dX3_put_17 ?_
    refine r_bipush C ((64 : Nat) : Int) (by decide) dX3_put_18 ?_
    refine r_icmp_le (tgt := 26) C ⟨by omega, by omega⟩ ⟨by omega, by omega⟩ dX3_put_20 (by decide) (fun b4 => ?_) (fun b4 => ?_)
    · refine r_iconst C ((0 : Nat) : Int) (by decide) dX3_put_26 ?_
      refine r_istore (lv' := [(0, .ref (ad (0))), (1, .long (x)), (3, .int (iI ((nch x : Nat) : Int))), (4, .int (iI ((0 : Nat) : Int)))]) C dX3_put_27 (by decide) rfl ?_
      have hL8 : ∀ (m_9 : Nat) (k : Nat) (f5 : Nat → va_E) (hm6 : f5 (40) = eI tc 64 (fun j => iI (((putF (pad s) (pln s) x (nch x) k) j : Nat) : Int))) (ho7 : ∀ q, q ≠ 40 → f5 q = f q) (hk : k ≤ nch x), nch x - k < m_9 → VV X ad N f5 0 0 29 [(0, .ref (ad (0))), (1, .long (x)), (3, .int (iI ((nch x : Nat) : Int))), (4, .int (iI ((k : Nat) : Int)))] [] := by
        intro m_9
        induction m_9 with
        | zero => intros; omega
        | succ m_9 ih10 =>
          intro k f5 hm6 ho7 hk hm11
          refine r_iload C dX3_put_29 rfl ?_
          refine r_iload_n C dX3_put_31 rfl rfl ?_
          refine r_icmp_ge (tgt := 63) C ⟨by omega, by omega⟩ ⟨by omega, by omega⟩ dX3_put_32 (by decide) (fun b12 => ?_) (fun b12 => ?_)
          · have hke : k = nch x := by omega
            rw [hke] at hm6
            refine r_aload_n C dX3_put_63 rfl rfl ?_
            refine r_dup C dX3_put_64 rfl ?_
            have c13 : f5 (0) = eO 3 [.ref (ad (1)), .ref (ad (5)), .int (iI ((kno s : Nat) : Int)), .ref (ad (30)), .ref (ad (39)), .ref (ad (40)), .int (iI ((pln s : Nat) : Int)), .ref (ad (41)), .ref (ad (82)), .ref (ad (83)), .ref (ad (87))] := (ho7 _ (by omega)).trans h0
            refine r_get (v := .int (iI ((pln s : Nat) : Int))) C (by omega) c13 (show vwCl[3]? = some (RX3, TX3, 11) from rfl) m1 6 (by decide) m0 rfl rfl dX3_put_65 ?_
            refine r_iload_n C dX3_put_68 rfl rfl ?_
            refine r_iadd C ((pln s + (nch x) : Nat) : Int) (by omega) dX3_put_69 ?_
            refine r_put (ty := .int) C (by omega) c13 (show vwCl[3]? = some (RX3, TX3, 11) from rfl) m1 tyX3_ok nmX3 6 (by decide) m0 rfl rfl (by decide +kernel) rfl rfl (Nat.le_of_ble_eq_true rfl) dX3_put_70 (fun f14 hs15 ho16 => ?_)
            have c17 : f14 (0) = eO 3 [.ref (ad (1)), .ref (ad (5)), .int (iI ((kno s : Nat) : Int)), .ref (ad (30)), .ref (ad (39)), .ref (ad (40)), .int (iI ((pln s + (nch x) : Nat) : Int)), .ref (ad (41)), .ref (ad (82)), .ref (ad (83)), .ref (ad (87))] := hs15
            refine r_aload_n C dX3_put_73 rfl rfl ?_
            refine r_get (v := .int (iI ((pln s + (nch x) : Nat) : Int))) C (by omega) c17 (show vwCl[3]? = some (RX3, TX3, 11) from rfl) m1 6 (by decide) m0 rfl rfl dX3_put_74 ?_
            have c18 : f14 (40) = eI tc 64 (fun j => iI (((putF (pad s) (pln s) x (nch x) (nch x)) j : Nat) : Int)) := (ho16 _ (by omega)).trans hm6
            exact hret f14 ((pln s + (nch x) : Nat) : Int) _ _ dX3_put_77 (by unfold aPut; rw [if_neg (by omega), if_pos (by omega)]) (⟨by unfold nPut; rw [if_pos ⟨by omega, by omega⟩]; exact XI_pad hX c17 c18 (fun q g1 g2 g3 => ((ho16 _ (by omega))).trans (ho7 _ (by omega))), fun q hq => ((ho16 _ (by omega))).trans (ho7 _ (by omega))⟩)
          · refine r_aload_n C dX3_put_35 rfl rfl ?_
            have c19 : f5 (0) = eO 3 [.ref (ad (1)), .ref (ad (5)), .int (iI ((kno s : Nat) : Int)), .ref (ad (30)), .ref (ad (39)), .ref (ad (40)), .int (iI ((pln s : Nat) : Int)), .ref (ad (41)), .ref (ad (82)), .ref (ad (83)), .ref (ad (87))] := (ho7 _ (by omega)).trans h0
            refine r_get (v := .ref (ad (40))) C (by omega) c19 (show vwCl[3]? = some (RX3, TX3, 11) from rfl) m1 5 (by decide) m2 rfl rfl dX3_put_36 ?_
            refine r_aload_n C dX3_put_39 rfl rfl ?_
            refine r_get (v := .int (iI ((pln s : Nat) : Int))) C (by omega) c19 (show vwCl[3]? = some (RX3, TX3, 11) from rfl) m1 6 (by decide) m0 rfl rfl dX3_put_40 ?_
            refine r_iload C dX3_put_43 rfl ?_
            refine r_iadd C ((pln s + k : Nat) : Int) (by omega) dX3_put_45 ?_
            refine r_lload_n C dX3_put_46 rfl rfl ?_
            refine r_iload_n C dX3_put_47 rfl rfl ?_
            refine r_iconst C ((1 : Nat) : Int) (by decide) dX3_put_48 ?_
            refine r_isub C ((nch x - 1 : Nat) : Int) (by omega) dX3_put_49 ?_
            refine r_iload C dX3_put_50 rfl ?_
            refine r_isub C ((nch x - 1 - k : Nat) : Int) (by omega) dX3_put_52 ?_
            refine r_callS (As := [.long (x), .int (iI ((nch x - 1 - k : Nat) : Int))]) (rest := [.int (iI ((pln s + k : Nat) : Int)), .ref (ad (40))]) (na := 2) C (c_X3_codeIn G tc l ad N _ x (nch x - 1 - k) (by omega)) gX3_put_X3_codeIn rfl rfl rfl (by decide +kernel) ⟨Nat.le_of_ble_eq_true rfl, Nat.le_of_ble_eq_true rfl⟩ rfl rfl (Nat.le_of_ble_eq_true rfl) dX3_put_53 ⟨Nat.le_of_ble_eq_true rfl, Nat.le_of_ble_eq_true rfl⟩ (aft_I (fun f20 hF21 => ?_))
            rw [hF21]
            refine r_iast C (by omega) hm6 (pln s + k) rfl (by omega) (Nat.le_of_ble_eq_true rfl) dX3_put_56 (fun f22 hs23 ho24 => ?_)
            have c25 : f22 (40) = eI tc 64 (fun j => iI (((upN ((putF (pad s) (pln s) x (nch x) k)) (pln s + k) (byt x (nch x - 1 - k))) j : Nat) : Int)) := hs23.trans (congrArg (fun g => eI tc 64 g) (updN _ _ _))
            refine r_iinc (lv' := [(0, .ref (ad (0))), (1, .long (x)), (3, .int (iI ((nch x : Nat) : Int))), (4, .int (iI ((k + 1 : Nat) : Int)))]) C ((k + 1 : Nat) : Int) (by omega) dX3_put_57 rfl (by decide) rfl ?_
            refine r_goto (tgt := 29) C dX3_put_60 (by decide) ?_
            exact ih10 (k + 1) f22 (c25.trans (by rw [putF_s])) (fun q hq => ((ho24 _ (by omega))).trans (ho7 _ (by omega))) (by omega) (by omega)
      exact hL8 _ 0 f (by rw [putF_0]; exact h40) (fun _ _ => rfl) (by omega) (Nat.lt_succ_self _)
    · refine r_bipush C ((-4)) (by decide) dX3_put_23 ?_
      exact hret f ((-4)) _ _ dX3_put_25 (by unfold aPut; rw [if_neg (by omega), if_neg (by omega)]) (⟨by unfold nPut; rw [if_neg (by omega)]; exact hX, fun _ _ => rfl⟩)
  · refine r_bipush C ((-2)) (by decide) dX3_put_9 ?_
    exact hret f ((-2)) _ _ dX3_put_11 (by unfold aPut; rw [if_pos (by omega)]) (⟨by unfold nPut; rw [if_neg (by omega)]; exact hX, fun _ _ => rfl⟩)
set_option maxHeartbeats 4000000 in
set_option maxRecDepth 100000 in
/-- wipe -/
theorem c_X3_wipe (G : va_G) (tc : Nat → ClassId) (l : Launch) (ad : Nat → Nat) (N : Nat) (f : Nat → va_E) (s : SG) (hX : XI tc ad f s) (ho : okS s) (hN : 98 ≤ N)    : Ct G tc l yX3_wipe wsX3_wipe { frames := 0, cells := 0, slots := 0, locals := 0 } 0 0 [.ref (ad (0))] ad N f (poI ad N (((pln s : Nat) : Int)) (fun f' => XI tc ad f' (nWip s) ∧ ∀ q, 88 ≤ q → f' q = f q)) := by
  obtain ⟨h0, ⟨h1, h2, h3, h4⟩, hHis, hSlo, h40, hWds, hPr, hHd⟩ := id hX
  obtain ⟨⟨⟨a1, a2⟩, ⟨a3, a4⟩, ⟨a5, a6⟩, a7, a8, a9, a10⟩, o2, o3, o4, o5, o6⟩ := id ho
  refine stI (cc := cX3_wipe) (maxL := 2) (lv := [(0, .ref (ad (0)))]) (by decide) rfl (Nat.le_of_ble_eq_true rfl) rfl (fun X C hret => ?_)
  have m0 : Cond.fieldLink RX3 35 "WordSamples" "padLength" "I" ∈ wsX3_wipe := by decide +kernel
  have m1 : ∀ w ∈ wsX30, w ∈ wsX3_wipe := by decide +kernel
  refine r_aload_n C dX3_wipe_0 rfl rfl ?_
  refine r_get (v := .int (iI ((pln s : Nat) : Int))) C (by omega) h0 (show vwCl[3]? = some (RX3, TX3, 11) from rfl) m1 6 (by decide) m0 rfl rfl dX3_wipe_1 ?_
  refine r_istore_n (lv' := [(0, .ref (ad (0))), (1, .int (iI ((pln s : Nat) : Int)))]) C dX3_wipe_4 rfl (by decide) rfl ?_
  refine r_aload_n C dX3_wipe_5 rfl rfl ?_
  refine r_iconst C ((0 : Nat) : Int) (by decide) dX3_wipe_6 ?_
  refine r_put (ty := .int) C (by omega) h0 (show vwCl[3]? = some (RX3, TX3, 11) from rfl) m1 tyX3_ok nmX3 6 (by decide) m0 rfl rfl (by decide +kernel) rfl rfl (Nat.le_of_ble_eq_true rfl) dX3_wipe_7 (fun f1 hs2 ho3 => ?_)
  have c4 : f1 (0) = eO 3 [.ref (ad (1)), .ref (ad (5)), .int (iI ((kno s : Nat) : Int)), .ref (ad (30)), .ref (ad (39)), .ref (ad (40)), .int (iI ((0 : Nat) : Int)), .ref (ad (41)), .ref (ad (82)), .ref (ad (83)), .ref (ad (87))] := hs2
  refine r_iload_n C dX3_wipe_10 rfl rfl ?_
  have c5 : f1 (40) = eI tc 64 (fun j => iI ((pad s j : Nat) : Int)) := (ho3 _ (by omega)).trans h40
  exact hret f1 ((pln s : Nat) : Int) _ _ dX3_wipe_11 rfl (⟨XI_pad hX c4 c5 (fun q g1 g2 g3 => (ho3 _ (by omega))), fun q hq => (ho3 _ (by omega))⟩)
set_option maxHeartbeats 4000000 in
set_option maxRecDepth 100000 in
/-- fault -/
theorem c_X3_fault (G : va_G) (tc : Nat → ClassId) (l : Launch) (ad : Nat → Nat) (N : Nat) (f : Nat → va_E) (s : SG) (hX : XI tc ad f s) (ho : okS s) (hN : 98 ≤ N)    : Ct G tc l yX3_fault wsX3_fault { frames := 2, cells := 0, slots := 0, locals := 41 } 0 0 [.ref (ad (0))] ad N f (poI ad N (fau (pad s) (pln s)) (fun f' => f' = f)) := by
  obtain ⟨h0, ⟨h1, h2, h3, h4⟩, hHis, hSlo, h40, hWds, hPr, hHd⟩ := id hX
  obtain ⟨⟨⟨a1, a2⟩, ⟨a3, a4⟩, ⟨a5, a6⟩, a7, a8, a9, a10⟩, o2, o3, o4, o5, o6⟩ := id ho
  refine stI (cc := cX3_fault) (maxL := 1) (lv := [(0, .ref (ad (0)))]) (by decide) rfl (Nat.le_of_ble_eq_true rfl) rfl (fun X C hret => ?_)
  refine r_aload_n C dX3_fault_0 rfl rfl ?_
  refine r_callV (As := []) (rest := []) (na := 0) C (c_X3_padFault G tc l ad N _ s hX ho hN) gX3_fault_X3_padFault rfl rfl rfl (by decide +kernel) ⟨Nat.le_of_ble_eq_true rfl, Nat.le_of_ble_eq_true rfl⟩ (by omega) h0 (show vwCl[3]? = some (RX3, TX3, 11) from rfl) rfl rfl (Nat.le_of_ble_eq_true rfl) dX3_fault_1 ⟨Nat.le_of_ble_eq_true rfl, Nat.le_of_ble_eq_true rfl⟩ (aft_I (fun f1 hF2 => ?_))
  rw [hF2]
  exact hret f (fau (pad s) (pln s)) _ _ dX3_fault_4 rfl rfl
set_option maxHeartbeats 4000000 in
set_option maxRecDepth 100000 in
/-- undo -/
theorem c_X3_undo (G : va_G) (tc : Nat → ClassId) (l : Launch) (ad : Nat → Nat) (N : Nat) (f : Nat → va_E) (s : SG) (hX : XI tc ad f s) (ho : okS s) (hN : 98 ≤ N)    : Ct G tc l yX3_undo wsX3_undo { frames := 2, cells := 0, slots := 0, locals := 41 } 0 0 [.ref (ad (0))] ad N f (poI ad N (aUnd s) (fun f' => XI tc ad f' (nUnd s) ∧ ∀ q, 88 ≤ q → f' q = f q)) := by
  obtain ⟨h0, ⟨h1, h2, h3, h4⟩, hHis, hSlo, h40, hWds, hPr, hHd⟩ := id hX
  obtain ⟨⟨⟨a1, a2⟩, ⟨a3, a4⟩, ⟨a5, a6⟩, a7, a8, a9, a10⟩, o2, o3, o4, o5, o6⟩ := id ho
  obtain ⟨pi, hs, h5, hpi, hpj, hss, hhv⟩ := id hHis
  obtain ⟨gt, wd, w41, w82, wst, wv⟩ := id hWds
  refine stI (cc := cX3_undo) (maxL := 1) (lv := [(0, .ref (ad (0)))]) (by decide) rfl (Nat.le_of_ble_eq_true rfl) rfl (fun X C hret => ?_)
  have m0 : Cond.fieldLink RX3 20 "WordSamples" "undoable" "I" ∈ wsX3_undo := by decide +kernel
  have m1 : ∀ w ∈ wsX30, w ∈ wsX3_undo := by decide +kernel
  have m2 : Cond.fieldLink RX3 10 "WordSamples" "now" "LWordSamples$State;" ∈ wsX3_undo := by decide +kernel
  have m3 : Cond.fieldLink RX3 16 "WordSamples" "history" "[LWordSamples$State;" ∈ wsX3_undo := by decide +kernel
  refine r_aload_n C dX3_undo_0 rfl rfl ?_
  refine r_get (v := .int (iI ((kno s : Nat) : Int))) C (by omega) h0 (show vwCl[3]? = some (RX3, TX3, 11) from rfl) m1 2 (by decide) m0 rfl rfl dX3_undo_1 ?_
  refine r_if_gt (tgt := 10) C ⟨by omega, by omega⟩ dX3_undo_4 (by decide) (fun b1 => ?_) (fun b1 => ?_)
  · refine r_aload_n C dX3_undo_10 rfl rfl ?_
    refine r_dup C dX3_undo_11 rfl ?_
    refine r_get (v := .int (iI ((kno s : Nat) : Int))) C (by omega) h0 (show vwCl[3]? = some (RX3, TX3, 11) from rfl) m1 2 (by decide) m0 rfl rfl dX3_undo_12 ?_
    refine r_iconst C ((1 : Nat) : Int) (by decide) dX3_undo_15 ?_
    refine r_isub C ((kno s - 1 : Nat) : Int) (by omega) dX3_undo_16 ?_
    refine r_put (ty := .int) C (by omega) h0 (show vwCl[3]? = some (RX3, TX3, 11) from rfl) m1 tyX3_ok nmX3 2 (by decide) m0 rfl rfl (by decide +kernel) rfl rfl (Nat.le_of_ble_eq_true rfl) dX3_undo_17 (fun f2 hs3 ho4 => ?_)
    have c5 : f2 (0) = eO 3 [.ref (ad (1)), .ref (ad (5)), .int (iI ((kno s - 1 : Nat) : Int)), .ref (ad (30)), .ref (ad (39)), .ref (ad (40)), .int (iI ((pln s : Nat) : Int)), .ref (ad (41)), .ref (ad (82)), .ref (ad (83)), .ref (ad (87))] := hs3
    refine r_aload_n C dX3_undo_20 rfl rfl ?_
    refine r_get (v := .ref (ad (1))) C (by omega) c5 (show vwCl[3]? = some (RX3, TX3, 11) from rfl) m1 0 (by decide) m2 rfl rfl dX3_undo_21 ?_
    refine r_aload_n C dX3_undo_24 rfl rfl ?_
    refine r_get (v := .ref (ad (5))) C (by omega) c5 (show vwCl[3]? = some (RX3, TX3, 11) from rfl) m1 1 (by decide) m3 rfl rfl dX3_undo_25 ?_
    refine r_aload_n C dX3_undo_28 rfl rfl ?_
    refine r_get (v := .int (iI ((kno s - 1 : Nat) : Int))) C (by omega) c5 (show vwCl[3]? = some (RX3, TX3, 11) from rfl) m1 2 (by decide) m0 rfl rfl dX3_undo_29 ?_
    have c6 : f2 (5) = eS tc 6 (fun k => some (ad (6 + 4 * pi k))) := (ho4 _ (by omega)).trans h5
    refine r_aaldS (a := ad (6 + 4 * pi (kno s - 1))) C (by omega) c6 (kno s - 1) rfl (by omega) (Nat.le_of_ble_eq_true rfl) (rfl) dX3_undo_32 ?_
    have hq2 := hpi (kno s - 1) (by omega)
    have hcs := ((show isSt tc ad f 1 (cur s) from ⟨h1, h2, h3, h4⟩)).fr (f' := f2) (fun q g1 g2 => (ho4 _ (by omega)))
    have hcc := (hss _ hq2).fr (f' := f2) (fun q g1 g2 => (ho4 _ (by omega)))
    refine r_callV (As := [.ref (ad (6 + 4 * pi (kno s - 1)))]) (rest := []) (na := 1) C (c_X1_copyFrom G tc l ad N _ (1) (6 + 4 * pi (kno s - 1)) (by omega) (by omega) (by omega) (hs (pi (kno s - 1))) _ hcs hcc) gX3_undo_X1_copyFrom rfl rfl rfl (by decide +kernel) ⟨Nat.le_of_ble_eq_true rfl, Nat.le_of_ble_eq_true rfl⟩ (by omega) hcs.1 (show vwCl[1]? = some (RX1, TX1, 4) from rfl) rfl rfl (Nat.le_of_ble_eq_true rfl) dX3_undo_33 ⟨Nat.le_of_ble_eq_true rfl, Nat.le_of_ble_eq_true rfl⟩ (aft_V (fun f7 hF8 => ?_))
    obtain ⟨hcp, hoC⟩ := hF8
    refine r_aload_n C dX3_undo_36 rfl rfl ?_
    have c9 : f7 (0) = eO 3 [.ref (ad (1)), .ref (ad (5)), .int (iI ((kno s - 1 : Nat) : Int)), .ref (ad (30)), .ref (ad (39)), .ref (ad (40)), .int (iI ((pln s : Nat) : Int)), .ref (ad (41)), .ref (ad (82)), .ref (ad (83)), .ref (ad (87))] := (hoC _ (by omega)).trans c5
    have c10 : f2 (82) = eB tc 10 (gt) := (ho4 _ (by omega)).trans w82
    have c11 : f7 (82) = eB tc 10 (gt) := (hoC _ (by omega)).trans c10
    refine r_callV (As := []) (rest := []) (na := 0) C (c_X3_forgetWords G tc l ad N _ (kno s - 1) (pln s) gt hN c9 c11) gX3_undo_X3_forgetWords rfl rfl rfl (by decide +kernel) ⟨Nat.le_of_ble_eq_true rfl, Nat.le_of_ble_eq_true rfl⟩ (by omega) c9 (show vwCl[3]? = some (RX3, TX3, 11) from rfl) rfl rfl (Nat.le_of_ble_eq_true rfl) dX3_undo_37 ⟨Nat.le_of_ble_eq_true rfl, Nat.le_of_ble_eq_true rfl⟩ (aft_V (fun f12 hF13 => ?_))
    obtain ⟨h82, hoW⟩ := hF13
    refine r_aload_n C dX3_undo_40 rfl rfl ?_
    have c14 : f12 (0) = eO 3 [.ref (ad (1)), .ref (ad (5)), .int (iI ((kno s - 1 : Nat) : Int)), .ref (ad (30)), .ref (ad (39)), .ref (ad (40)), .int (iI ((pln s : Nat) : Int)), .ref (ad (41)), .ref (ad (82)), .ref (ad (83)), .ref (ad (87))] := (hoW _ (by omega)).trans c9
    refine r_get (v := .int (iI ((kno s - 1 : Nat) : Int))) C (by omega) c14 (show vwCl[3]? = some (RX3, TX3, 11) from rfl) m1 2 (by decide) m0 rfl rfl dX3_undo_41 ?_
    have hcq := hcp.fr (f' := f12) (fun q g1 g2 => (hoW _ (by omega)))
    rw [hhv _ (by omega)] at hcq
    exact hret f12 ((kno s - 1 : Nat) : Int) _ _ dX3_undo_44 (by unfold aUnd; rw [if_pos (by omega)]) (⟨by unfold nUnd; rw [if_pos (by omega)]; exact undo_XI hX (by omega) c14 hcq h82 (fun q g1 g2 => (((hoW _ (by omega))).trans (hoC _ (by omega))).trans (ho4 _ (by omega))), fun q hq => (((hoW _ (by omega))).trans (hoC _ (by omega))).trans (ho4 _ (by omega))⟩)
  · refine r_bipush C ((-5)) (by decide) dX3_undo_7 ?_
    exact hret f ((-5)) _ _ dX3_undo_9 (by unfold aUnd; rw [if_neg (by omega)]) (⟨by unfold nUnd; rw [if_neg (by omega)]; exact hX, fun _ _ => rfl⟩)
set_option maxHeartbeats 4000000 in
set_option maxRecDepth 100000 in
/-- save -/
theorem c_X3_save (G : va_G) (tc : Nat → ClassId) (l : Launch) (ad : Nat → Nat) (N : Nat) (f : Nat → va_E) (s : SG) (hX : XI tc ad f s) (ho : okS s) (hN : 98 ≤ N) (z : Int) (hz : inR z)   : Ct G tc l yX3_save wsX3_save { frames := 2, cells := 0, slots := 0, locals := 41 } 0 0 [.ref (ad (0)), .int (iI (z))] ad N f (poI ad N (aSav s z) (fun f' => XI tc ad f' (nSav s z) ∧ ∀ q, 88 ≤ q → f' q = f q)) := by
  obtain ⟨h0, ⟨h1, h2, h3, h4⟩, hHis, hSlo, h40, hWds, hPr, hHd⟩ := id hX
  obtain ⟨⟨⟨a1, a2⟩, ⟨a3, a4⟩, ⟨a5, a6⟩, a7, a8, a9, a10⟩, o2, o3, o4, o5, o6⟩ := id ho
  obtain ⟨ss, s30, sst, ⟨sg, s39, hsg⟩, hsv⟩ := id hSlo
  refine stI (cc := cX3_save) (maxL := 2) (lv := [(0, .ref (ad (0))), (1, .int (iI (z)))]) (by decide) rfl (Nat.le_of_ble_eq_true rfl) rfl (fun X C hret => ?_)
  have m0 : Cond.fieldLink RX3 24 "WordSamples" "slots" "[LWordSamples$State;" ∈ wsX3_save := by decide +kernel
  have m1 : ∀ w ∈ wsX30, w ∈ wsX3_save := by decide +kernel
  have m2 : Cond.fieldLink RX3 10 "WordSamples" "now" "LWordSamples$State;" ∈ wsX3_save := by decide +kernel
  have m3 : Cond.fieldLink RX3 27 "WordSamples" "saved" "[Z" ∈ wsX3_save := by decide +kernel
  have m4 : Cond.fieldLink RX3 74 "WordSamples$State" "rows" "I" ∈ wsX3_save := by decide +kernel
  have m5 : ∀ w ∈ wsX10, w ∈ wsX3_save := by decide +kernel
  refine r_iload_n C dX3_save_0 rfl rfl ?_
  refine r_if_lt (tgt := 9) C ⟨by omega, by omega⟩ dX3_save_1 (by decide) (fun b1 => ?_) (fun b1 => ?_)
  · refine r_bipush C ((-2)) (by decide) dX3_save_9 ?_
    exact hret f ((-2)) _ _ dX3_save_11 (by unfold aSav; rw [if_neg (by omega)]) (⟨by unfold nSav; rw [if_neg (by omega)]; exact hX, fun _ _ => rfl⟩)
  · refine r_iload_n C dX3_save_4 rfl rfl ?_
    refine r_iconst C ((2 : Nat) : Int) (by decide) dX3_save_5 ?_
    refine r_icmp_lt (tgt := 12) C ⟨by omega, by omega⟩ ⟨by omega, by omega⟩ dX3_save_6 (by decide) (fun b2 => ?_) (fun b2 => ?_)
    · refine r_aload_n C dX3_save_12 rfl rfl ?_
      refine r_get (v := .ref (ad (30))) C (by omega) h0 (show vwCl[3]? = some (RX3, TX3, 11) from rfl) m1 3 (by decide) m0 rfl rfl dX3_save_13 ?_
      refine r_iload_n C dX3_save_16 rfl rfl ?_
      refine r_aaldS (a := ad (31 + 4 * z.toNat)) C (by omega) s30 (z.toNat) (by omega) (by omega) (Nat.le_of_ble_eq_true rfl) (rfl) dX3_save_17 ?_
      refine r_aload_n C dX3_save_18 rfl rfl ?_
      refine r_get (v := .ref (ad (1))) C (by omega) h0 (show vwCl[3]? = some (RX3, TX3, 11) from rfl) m1 0 (by decide) m2 rfl rfl dX3_save_19 ?_
      have hcs := (sst z.toNat (by omega)).fr (f' := f) (fun q g1 g2 => rfl)
      have hcc := ((show isSt tc ad f 1 (cur s) from ⟨h1, h2, h3, h4⟩)).fr (f' := f) (fun q g1 g2 => rfl)
      refine r_callV (As := [.ref (ad (1))]) (rest := []) (na := 1) C (c_X1_copyFrom G tc l ad N _ (31 + 4 * z.toNat) (1) (by omega) (by omega) (by omega) (cur s) _ hcs hcc) gX3_save_X1_copyFrom rfl rfl rfl (by decide +kernel) ⟨Nat.le_of_ble_eq_true rfl, Nat.le_of_ble_eq_true rfl⟩ (by omega) hcs.1 (show vwCl[1]? = some (RX1, TX1, 4) from rfl) rfl rfl (Nat.le_of_ble_eq_true rfl) dX3_save_22 ⟨Nat.le_of_ble_eq_true rfl, Nat.le_of_ble_eq_true rfl⟩ (aft_V (fun f3 hF4 => ?_))
      obtain ⟨hcp, hoC⟩ := hF4
      refine r_aload_n C dX3_save_25 rfl rfl ?_
      have c5 : f3 (0) = eO 3 [.ref (ad (1)), .ref (ad (5)), .int (iI ((kno s : Nat) : Int)), .ref (ad (30)), .ref (ad (39)), .ref (ad (40)), .int (iI ((pln s : Nat) : Int)), .ref (ad (41)), .ref (ad (82)), .ref (ad (83)), .ref (ad (87))] := (hoC _ (by omega)).trans h0
      refine r_get (v := .ref (ad (39))) C (by omega) c5 (show vwCl[3]? = some (RX3, TX3, 11) from rfl) m1 4 (by decide) m3 rfl rfl dX3_save_26 ?_
      refine r_iload_n C dX3_save_29 rfl rfl ?_
      refine r_iconst C ((1 : Nat) : Int) (by decide) dX3_save_30 ?_
      have c6 : f3 (39) = eB tc 2 (sg) := (hoC _ (by omega)).trans s39
      refine r_zast C (by omega) c6 (z.toNat) (by omega) (by omega) (Nat.le_of_ble_eq_true rfl) rfl dX3_save_31 (fun f7 hs8 ho9 => ?_)
      refine r_aload_n C dX3_save_32 rfl rfl ?_
      have c10 : f7 (0) = eO 3 [.ref (ad (1)), .ref (ad (5)), .int (iI ((kno s : Nat) : Int)), .ref (ad (30)), .ref (ad (39)), .ref (ad (40)), .int (iI ((pln s : Nat) : Int)), .ref (ad (41)), .ref (ad (82)), .ref (ad (83)), .ref (ad (87))] := (ho9 _ (by omega)).trans c5
      refine r_get (v := .ref (ad (1))) C (by omega) c10 (show vwCl[3]? = some (RX3, TX3, 11) from rfl) m1 0 (by decide) m2 rfl rfl dX3_save_33 ?_
      have c11 : f3 (1) = eO 1 [.ref (ad (2)), .ref (ad (3)), .ref (ad (4)), .int (iI (((cur s).2.2.2 : Nat) : Int))] := (hoC _ (by omega)).trans h1
      have c12 : f7 (1) = eO 1 [.ref (ad (2)), .ref (ad (3)), .ref (ad (4)), .int (iI (((cur s).2.2.2 : Nat) : Int))] := (ho9 _ (by omega)).trans c11
      refine r_get (v := .int (iI (((cur s).2.2.2 : Nat) : Int))) C (by omega) c12 (show vwCl[1]? = some (RX1, TX1, 4) from rfl) m5 3 (by decide) m4 rfl rfl dX3_save_36 ?_
      have c13 : f3 (30) = eS tc 2 (fun k => some (ad (31 + 4 * k))) := (hoC _ (by omega)).trans s30
      have c14 : f7 (30) = eS tc 2 (fun k => some (ad (31 + 4 * k))) := (ho9 _ (by omega)).trans c13
      have hcq := hcp.fr (f' := f7) (fun q g1 g2 => (ho9 _ (by omega)))
      exact hret f7 (((cur s).2.2.2 : Nat) : Int) _ _ dX3_save_39 (by unfold aSav; rw [if_pos (by omega)]) (⟨by unfold nSav; rw [if_pos (by omega)]; exact save_XI (r := z.toNat) hX (by omega) hcq hs8 (fun q g1 g2 g3 => ((ho9 _ (by omega))).trans (hoC _ (by omega))) s39, fun q hq => ((ho9 _ (by omega))).trans (hoC _ (by omega))⟩)
    · refine r_bipush C ((-2)) (by decide) dX3_save_9 ?_
      exact hret f ((-2)) _ _ dX3_save_11 (by unfold aSav; rw [if_neg (by omega)]) (⟨by unfold nSav; rw [if_neg (by omega)]; exact hX, fun _ _ => rfl⟩)
set_option maxHeartbeats 4000000 in
set_option maxRecDepth 100000 in
/-- restore -/
theorem c_X3_restore (G : va_G) (tc : Nat → ClassId) (l : Launch) (ad : Nat → Nat) (N : Nat) (f : Nat → va_E) (s : SG) (hX : XI tc ad f s) (ho : okS s) (hN : 98 ≤ N) (z : Int) (hz : inR z)   : Ct G tc l yX3_restore wsX3_restore { frames := 3, cells := 0, slots := 0, locals := 61 } 0 0 [.ref (ad (0)), .int (iI (z))] ad N f (poI ad N (aRes s z) (fun f' => XI tc ad f' (nRes s z) ∧ ∀ q, 88 ≤ q → f' q = f q)) := by
  obtain ⟨h0, ⟨h1, h2, h3, h4⟩, hHis, hSlo, h40, hWds, hPr, hHd⟩ := id hX
  obtain ⟨⟨⟨a1, a2⟩, ⟨a3, a4⟩, ⟨a5, a6⟩, a7, a8, a9, a10⟩, o2, o3, o4, o5, o6⟩ := id ho
  obtain ⟨ss, s30, sst, ⟨sg, s39, hsg⟩, hsv⟩ := id hSlo
  refine stI (cc := cX3_restore) (maxL := 2) (lv := [(0, .ref (ad (0))), (1, .int (iI (z)))]) (by decide) rfl (Nat.le_of_ble_eq_true rfl) rfl (fun X C hret => ?_)
  have m0 : Cond.fieldLink RX3 27 "WordSamples" "saved" "[Z" ∈ wsX3_restore := by decide +kernel
  have m1 : ∀ w ∈ wsX30, w ∈ wsX3_restore := by decide +kernel
  have m2 : Cond.fieldLink RX3 10 "WordSamples" "now" "LWordSamples$State;" ∈ wsX3_restore := by decide +kernel
  have m3 : Cond.fieldLink RX3 24 "WordSamples" "slots" "[LWordSamples$State;" ∈ wsX3_restore := by decide +kernel
  have m4 : Cond.fieldLink RX3 74 "WordSamples$State" "rows" "I" ∈ wsX3_restore := by decide +kernel
  have m5 : ∀ w ∈ wsX10, w ∈ wsX3_restore := by decide +kernel
  refine r_iload_n C dX3_restore_0 rfl rfl ?_
  refine r_if_lt (tgt := 9) C ⟨by omega, by omega⟩ dX3_restore_1 (by decide) (fun b1 => ?_) (fun b1 => ?_)
  · refine r_bipush C ((-2)) (by decide) dX3_restore_9 ?_
    exact hret f ((-2)) _ _ dX3_restore_11 (by unfold aRes; rw [if_neg (by omega)]) (⟨by unfold nRes; rw [if_neg (by omega)]; exact hX, fun _ _ => rfl⟩)
  · refine r_iload_n C dX3_restore_4 rfl rfl ?_
    refine r_iconst C ((2 : Nat) : Int) (by decide) dX3_restore_5 ?_
    refine r_icmp_lt (tgt := 12) C ⟨by omega, by omega⟩ ⟨by omega, by omega⟩ dX3_restore_6 (by decide) (fun b2 => ?_) (fun b2 => ?_)
    · refine r_aload_n C dX3_restore_12 rfl rfl ?_
      refine r_get (v := .ref (ad (39))) C (by omega) h0 (show vwCl[3]? = some (RX3, TX3, 11) from rfl) m1 4 (by decide) m0 rfl rfl dX3_restore_13 ?_
      refine r_iload_n C dX3_restore_16 rfl rfl ?_
      refine r_zald (x := (iI ((if sav s z.toNat = true then 1 else 0 : Nat) : Int))) C (by omega) s39 (z.toNat) (by omega) (by omega) (Nat.le_of_ble_eq_true rfl) (hsg z.toNat (by omega)) dX3_restore_17 ?_
      have q4 := if_le1 (sav s z.toNat)
      refine r_if_ne (tgt := 24) C ⟨by omega, by omega⟩ dX3_restore_18 (by decide) (fun b_sv => ?_) (fun b_sv => ?_)
      · have q5 := if_1 b_sv
        refine r_aload_n C dX3_restore_24 rfl rfl ?_
        refine r_callV (As := []) (rest := []) (na := 0) C (c_X3_beginChange G tc l ad N _ s hX ho hN) gX3_restore_X3_beginChange rfl rfl rfl (by decide +kernel) ⟨Nat.le_of_ble_eq_true rfl, Nat.le_of_ble_eq_true rfl⟩ (by omega) h0 (show vwCl[3]? = some (RX3, TX3, 11) from rfl) rfl rfl (Nat.le_of_ble_eq_true rfl) dX3_restore_25 ⟨Nat.le_of_ble_eq_true rfl, Nat.le_of_ble_eq_true rfl⟩ (aft_V (fun f3 hF4 => ?_))
        obtain ⟨hJ, hoB⟩ := hF4
        obtain ⟨j0, ⟨j1, j2, j3, j4⟩, jH, jS, j40, jW, jP, jD⟩ := id hJ
        obtain ⟨ss', u30, ust, ⟨sg', u39, hsg'⟩, hsv'⟩ := id jS
        refine r_aload_n C dX3_restore_28 rfl rfl ?_
        refine r_get (v := .ref (ad (1))) C (by omega) j0 (show vwCl[3]? = some (RX3, TX3, 11) from rfl) m1 0 (by decide) m2 rfl rfl dX3_restore_29 ?_
        refine r_aload_n C dX3_restore_32 rfl rfl ?_
        refine r_get (v := .ref (ad (30))) C (by omega) j0 (show vwCl[3]? = some (RX3, TX3, 11) from rfl) m1 3 (by decide) m3 rfl rfl dX3_restore_33 ?_
        refine r_iload_n C dX3_restore_36 rfl rfl ?_
        refine r_aaldS (a := ad (31 + 4 * z.toNat)) C (by omega) u30 (z.toNat) (by omega) (by omega) (Nat.le_of_ble_eq_true rfl) (rfl) dX3_restore_37 ?_
        have hcs := (hJ.2.1).fr (f' := f3) (fun q g1 g2 => rfl)
        have hcc := (ust z.toNat (by omega)).fr (f' := f3) (fun q g1 g2 => rfl)
        refine r_callV (As := [.ref (ad (31 + 4 * z.toNat))]) (rest := []) (na := 1) C (c_X1_copyFrom G tc l ad N _ (1) (31 + 4 * z.toNat) (by omega) (by omega) (by omega) (ss' z.toNat) _ hcs hcc) gX3_restore_X1_copyFrom rfl rfl rfl (by decide +kernel) ⟨Nat.le_of_ble_eq_true rfl, Nat.le_of_ble_eq_true rfl⟩ (by omega) hcs.1 (show vwCl[1]? = some (RX1, TX1, 4) from rfl) rfl rfl (Nat.le_of_ble_eq_true rfl) dX3_restore_38 ⟨Nat.le_of_ble_eq_true rfl, Nat.le_of_ble_eq_true rfl⟩ (aft_V (fun f5 hF6 => ?_))
        obtain ⟨hcp, hoC⟩ := hF6
        refine r_aload_n C dX3_restore_41 rfl rfl ?_
        have c7 : f5 (0) = eO 3 [.ref (ad (1)), .ref (ad (5)), .int (iI ((kpush (kno s) : Nat) : Int)), .ref (ad (30)), .ref (ad (39)), .ref (ad (40)), .int (iI ((pln s : Nat) : Int)), .ref (ad (41)), .ref (ad (82)), .ref (ad (83)), .ref (ad (87))] := (hoC _ (by omega)).trans j0
        refine r_get (v := .ref (ad (1))) C (by omega) c7 (show vwCl[3]? = some (RX3, TX3, 11) from rfl) m1 0 (by decide) m2 rfl rfl dX3_restore_42 ?_
        refine r_get (v := .int (iI (((ss' z.toNat).2.2.2 : Nat) : Int))) C (by omega) hcp.1 (show vwCl[1]? = some (RX1, TX1, 4) from rfl) m5 3 (by decide) m4 rfl rfl dX3_restore_45 ?_
        have hcq := hcp
        rw [hsv' _ (by omega) q5] at hcq
        exact hret f5 (((ss' z.toNat).2.2.2 : Nat) : Int) _ _ dX3_restore_48 (by unfold aRes; rw [if_pos (by omega), if_pos q5, show ss' z.toNat = slo s z.toNat from hsv' _ (by omega) q5]) (⟨by unfold nRes; rw [if_pos ⟨by omega, q5⟩]; exact J_set (s := knowS s) hJ hcq c7 (fun q g1 g2 => (hoC _ (by omega))), fun q hq => ((hoC _ (by omega))).trans (hoB _ (by omega))⟩)
      · have q5 := if_0 b_sv
        refine r_bipush C ((-5)) (by decide) dX3_restore_21 ?_
        exact hret f ((-5)) _ _ dX3_restore_23 (by unfold aRes; rw [if_pos (by omega), if_neg (by rw [q5]; decide)]) (⟨by unfold nRes; rw [if_neg (fun h => by rw [q5] at h; cases h.2)]; exact hX, fun _ _ => rfl⟩)
    · refine r_bipush C ((-2)) (by decide) dX3_restore_9 ?_
      exact hret f ((-2)) _ _ dX3_restore_11 (by unfold aRes; rw [if_neg (by omega)]) (⟨by unfold nRes; rw [if_neg (by omega)]; exact hX, fun _ _ => rfl⟩)
end XP1
