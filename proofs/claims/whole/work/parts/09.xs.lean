section XS1
theorem sgnI_rng (c : Int) : -6 ≤ sgnI c ∧ sgnI c ≤ 26 := by
  unfold sgnI
  omega
theorem ok_step {p : Nat → Nat} {k : Nat} (hb : ∀ j, j < k → okc (p j) = true) (h : ¬ sgnI ((p k : Nat) : Int) = -6) : ∀ j, j < k + 1 → okc (p j) = true := by
  intro j hj
  rcases Nat.lt_or_ge j k with q | q
  · exact hb j q
  · have e : j = k := by omega
    subst e
    cases h1 : okc (p j)
    · exact absurd (sgnI_no h1) h
    · rfl
theorem fau_hit {p : Nat → Nat} {n k : Nat} (hk : k < n) (hb : ∀ j, j < k → okc (p j) = true) (h : sgnI ((p k : Nat) : Int) = -6) : fau p n = ((k : Nat) : Int) := by
  have h1 : okc (p k) = false := by
    cases h1 : okc (p k)
    · rfl
    · rw [sgnI_ok h1] at h
      omega
  have e : faN p n = k := frst_eq (by omega) (fun j hj => by simp [hb j hj]) (fun _ => by simp [h1])
  unfold fau
  rw [if_neg (by omega), if_pos (by omega), e]
theorem fau_end {p : Nat → Nat} {n : Nat} (hn : 0 < n) (hb : ∀ j, j < n → okc (p j) = true) : fau p n = -6 := by
  have e : faN p n = n := frst_eq (Nat.le_refl _) (fun j hj => by simp [hb j hj]) (fun h => absurd h (Nat.lt_irrefl _))
  unfold fau
  rw [if_neg (by omega), if_neg (by omega)]
set_option maxHeartbeats 4000000 in
set_option maxRecDepth 100000 in
/-- noRow(z): 0 if z is a row -/
theorem c_X3_noRow (G : va_G) (tc : Nat → ClassId) (l : Launch) (ad : Nat → Nat) (N : Nat) (f : Nat → va_E) (s : SG) (hX : XI tc ad f s) (ho : okS s) (hN : 98 ≤ N) (z : Int) (hz : inR z)   : Ct G tc l yX3_noRow wsX3_noRow { frames := 0, cells := 0, slots := 0, locals := 0 } 0 0 [.ref (ad (0)), .int (iI (z))] ad N f (poI ad N (if 0 ≤ z ∧ z < (((cur s).2.2.2 : Nat) : Int) then 0 else 1) (fun f' => f' = f)) := by
  obtain ⟨h0, ⟨h1, h2, h3, h4⟩, hHis, hSlo, h40, hWds, hPr, hHd⟩ := id hX
  obtain ⟨⟨⟨a1, a2⟩, ⟨a3, a4⟩, ⟨a5, a6⟩, a7, a8, a9, a10⟩, o2, o3, o4, o5, o6⟩ := id ho
  refine stZ (by omega) (cc := cX3_noRow) (maxL := 2) (lv := [(0, .ref (ad (0))), (1, .int (iI (z)))]) (by decide) rfl (Nat.le_of_ble_eq_true rfl) rfl (fun X C hret => ?_)
  have m0 : Cond.fieldLink RX3 10 "WordSamples" "now" "LWordSamples$State;" ∈ wsX3_noRow := by decide +kernel
  have m1 : ∀ w ∈ wsX30, w ∈ wsX3_noRow := by decide +kernel
  have m2 : Cond.fieldLink RX3 74 "WordSamples$State" "rows" "I" ∈ wsX3_noRow := by decide +kernel
  have m3 : ∀ w ∈ wsX10, w ∈ wsX3_noRow := by decide +kernel
  refine r_iload_n C dX3_noRow_0 rfl rfl ?_
  refine r_if_lt (tgt := 15) C ⟨by omega, by omega⟩ dX3_noRow_1 (by decide) (fun b1 => ?_) (fun b1 => ?_)
  · refine r_iconst C ((1 : Nat) : Int) (by decide) dX3_noRow_15 ?_
    refine r_goto (tgt := 20) C dX3_noRow_16 (by decide) ?_
    exact hret f ((1 : Nat) : Int) _ _ dX3_noRow_20 (by omega) rfl
  · refine r_iload_n C dX3_noRow_4 rfl rfl ?_
    refine r_aload_n C dX3_noRow_5 rfl rfl ?_
    refine r_get (v := .ref (ad (1))) C (by omega) h0 (show vwCl[3]? = some (RX3, TX3, 11) from rfl) m1 0 (by decide) m0 rfl rfl dX3_noRow_6 ?_
    refine r_get (v := .int (iI (((cur s).2.2.2 : Nat) : Int))) C (by omega) h1 (show vwCl[1]? = some (RX1, TX1, 4) from rfl) m3 3 (by decide) m2 rfl rfl dX3_noRow_9 ?_
    refine r_icmp_lt (tgt := 19) C ⟨by omega, by omega⟩ ⟨by omega, by omega⟩ dX3_noRow_12 (by decide) (fun b2 => ?_) (fun b2 => ?_)
    · refine r_iconst C ((0 : Nat) : Int) (by decide) dX3_noRow_19 ?_
      exact hret f ((0 : Nat) : Int) _ _ dX3_noRow_20 (by omega) rfl
    · refine r_iconst C ((1 : Nat) : Int) (by decide) dX3_noRow_15 ?_
      refine r_goto (tgt := 20) C dX3_noRow_16 (by decide) ?_
      exact hret f ((1 : Nat) : Int) _ _ dX3_noRow_20 (by omega) rfl
set_option maxHeartbeats 4000000 in
set_option maxRecDepth 100000 in
/-- noPlace(z, p): 0 if p is a place of row z -/
theorem c_X3_noPlace (G : va_G) (tc : Nat → ClassId) (l : Launch) (ad : Nat → Nat) (N : Nat) (f : Nat → va_E) (s : SG) (hX : XI tc ad f s) (ho : okS s) (hN : 98 ≤ N) (z p : Int) (hz : inR z) (hp : inR p)   : Ct G tc l yX3_noPlace wsX3_noPlace { frames := 1, cells := 0, slots := 0, locals := 21 } 0 0 [.ref (ad (0)), .int (iI (z)), .int (iI (p))] ad N f (poI ad N (if 0 ≤ z ∧ z < (((cur s).2.2.2 : Nat) : Int) ∧ 0 ≤ p ∧ p < (((cur s).2.1 z.toNat : Nat) : Int) then 0 else 1) (fun f' => f' = f)) := by
  obtain ⟨h0, ⟨h1, h2, h3, h4⟩, hHis, hSlo, h40, hWds, hPr, hHd⟩ := id hX
  obtain ⟨⟨⟨a1, a2⟩, ⟨a3, a4⟩, ⟨a5, a6⟩, a7, a8, a9, a10⟩, o2, o3, o4, o5, o6⟩ := id ho
  refine stZ (by omega) (cc := cX3_noPlace) (maxL := 3) (lv := [(0, .ref (ad (0))), (1, .int (iI (z))), (2, .int (iI (p)))]) (by decide) rfl (Nat.le_of_ble_eq_true rfl) rfl (fun X C hret => ?_)
  have m0 : Cond.fieldLink RX3 10 "WordSamples" "now" "LWordSamples$State;" ∈ wsX3_noPlace := by decide +kernel
  have m1 : ∀ w ∈ wsX30, w ∈ wsX3_noPlace := by decide +kernel
  have m2 : Cond.fieldLink RX3 77 "WordSamples$State" "lengths" "[I" ∈ wsX3_noPlace := by decide +kernel
  have m3 : ∀ w ∈ wsX10, w ∈ wsX3_noPlace := by decide +kernel
  refine r_aload_n C dX3_noPlace_0 rfl rfl ?_
  refine r_iload_n C dX3_noPlace_1 rfl rfl ?_
  refine r_callV (As := [.int (iI (z))]) (rest := []) (na := 1) C (c_X3_noRow G tc l ad N f s hX ho hN z hz) gX3_noPlace_X3_noRow rfl rfl rfl (by decide +kernel) ⟨Nat.le_of_ble_eq_true rfl, Nat.le_of_ble_eq_true rfl⟩ (by omega) h0 (show vwCl[3]? = some (RX3, TX3, 11) from rfl) rfl rfl (Nat.le_of_ble_eq_true rfl) dX3_noPlace_2 ⟨Nat.le_of_ble_eq_true rfl, Nat.le_of_ble_eq_true rfl⟩ (aft_I (fun f1 hF2 => ?_))
  rw [hF2]
  refine r_if_ne (tgt := 25) C ⟨by omega, by omega⟩ dX3_noPlace_5 (by decide) (fun b3 => ?_) (fun b3 => ?_)
  · refine r_iconst C ((1 : Nat) : Int) (by decide) dX3_noPlace_25 ?_
    refine r_goto (tgt := 30) C dX3_noPlace_26 (by decide) ?_
    exact hret f ((1 : Nat) : Int) _ _ dX3_noPlace_30 (by omega) rfl
  · refine r_iload_n C dX3_noPlace_8 rfl rfl ?_
    refine r_if_lt (tgt := 25) C ⟨by omega, by omega⟩ dX3_noPlace_9 (by decide) (fun b4 => ?_) (fun b4 => ?_)
    · refine r_iconst C ((1 : Nat) : Int) (by decide) dX3_noPlace_25 ?_
      refine r_goto (tgt := 30) C dX3_noPlace_26 (by decide) ?_
      exact hret f ((1 : Nat) : Int) _ _ dX3_noPlace_30 (by omega) rfl
    · refine r_iload_n C dX3_noPlace_12 rfl rfl ?_
      refine r_aload_n C dX3_noPlace_13 rfl rfl ?_
      refine r_get (v := .ref (ad (1))) C (by omega) h0 (show vwCl[3]? = some (RX3, TX3, 11) from rfl) m1 0 (by decide) m0 rfl rfl dX3_noPlace_14 ?_
      refine r_get (v := .ref (ad (3))) C (by omega) h1 (show vwCl[1]? = some (RX1, TX1, 4) from rfl) m3 1 (by decide) m2 rfl rfl dX3_noPlace_17 ?_
      have q1 := a9 z.toNat (by omega)
      refine r_iload_n C dX3_noPlace_20 rfl rfl ?_
      have q1 := a9 z.toNat (by omega)
      refine r_iald (x := (iI (((cur s).2.1 z.toNat : Nat) : Int))) C (by omega) h3 (z.toNat) (by omega) (by omega) (Nat.le_of_ble_eq_true rfl) (rfl) dX3_noPlace_21 ?_
      refine r_icmp_lt (tgt := 29) C ⟨by omega, by omega⟩ ⟨by omega, by omega⟩ dX3_noPlace_22 (by decide) (fun b5 => ?_) (fun b5 => ?_)
      · refine r_iconst C ((0 : Nat) : Int) (by decide) dX3_noPlace_29 ?_
        exact hret f ((0 : Nat) : Int) _ _ dX3_noPlace_30 (by omega) rfl
      · refine r_iconst C ((1 : Nat) : Int) (by decide) dX3_noPlace_25 ?_
        refine r_goto (tgt := 30) C dX3_noPlace_26 (by decide) ?_
        exact hret f ((1 : Nat) : Int) _ _ dX3_noPlace_30 (by omega) rfl
set_option maxHeartbeats 4000000 in
set_option maxRecDepth 100000 in
/-- signOf(c) -/
theorem c_X3_signOf (G : va_G) (tc : Nat → ClassId) (l : Launch) (ad : Nat → Nat) (N : Nat) (f : Nat → va_E) (c : Int) (hc : inR c)   : Ct G tc l yX3_signOf wsX3_signOf { frames := 0, cells := 0, slots := 0, locals := 0 } 0 0 [.int (iI (c))] ad N f (poI ad N (sgnI c) (fun f' => f' = f)) := by
  refine stI (cc := cX3_signOf) (maxL := 1) (lv := [(0, .int (iI (c)))]) (by decide) rfl (Nat.le_of_ble_eq_true rfl) rfl (fun X C hret => ?_)
  refine r_iload_n C dX3_signOf_0 rfl rfl ?_
  refine r_bipush C ((46 : Nat) : Int) (by decide) dX3_signOf_1 ?_
  refine r_icmp_ne (tgt := 9) C ⟨by omega, by omega⟩ ⟨by omega, by omega⟩ dX3_signOf_3 (by decide) (fun b1 => ?_) (fun b1 => ?_)
  · refine r_iload_n C dX3_signOf_9 rfl rfl ?_
    refine r_bipush C ((97 : Nat) : Int) (by decide) dX3_signOf_10 ?_
    refine r_icmp_lt (tgt := 28) C ⟨by omega, by omega⟩ ⟨by omega, by omega⟩ dX3_signOf_12 (by decide) (fun b2 => ?_) (fun b2 => ?_)
    · refine r_bipush C ((-6)) (by decide) dX3_signOf_28 ?_
      exact hret f ((-6)) _ _ dX3_signOf_30 (by unfold sgnI; omega) rfl
    · refine r_iload_n C dX3_signOf_15 rfl rfl ?_
      refine r_bipush C ((122 : Nat) : Int) (by decide) dX3_signOf_16 ?_
      refine r_icmp_gt (tgt := 28) C ⟨by omega, by omega⟩ ⟨by omega, by omega⟩ dX3_signOf_18 (by decide) (fun b3 => ?_) (fun b3 => ?_)
      · refine r_bipush C ((-6)) (by decide) dX3_signOf_28 ?_
        exact hret f ((-6)) _ _ dX3_signOf_30 (by unfold sgnI; omega) rfl
      · refine r_iload_n C dX3_signOf_21 rfl rfl ?_
        refine r_bipush C ((97 : Nat) : Int) (by decide) dX3_signOf_22 ?_
        refine r_isub C ((c) - ((97 : Nat) : Int)) rfl dX3_signOf_24 ?_
        refine r_goto (tgt := 30) C dX3_signOf_25 (by decide) ?_
        exact hret f ((c) - ((97 : Nat) : Int)) _ _ dX3_signOf_30 (by unfold sgnI; omega) rfl
  · refine r_bipush C ((26 : Nat) : Int) (by decide) dX3_signOf_6 ?_
    exact hret f ((26 : Nat) : Int) _ _ dX3_signOf_8 (by unfold sgnI; omega) rfl
set_option maxHeartbeats 4000000 in
set_option maxRecDepth 100000 in
/-- padFault() -/
theorem c_X3_padFault (G : va_G) (tc : Nat → ClassId) (l : Launch) (ad : Nat → Nat) (N : Nat) (f : Nat → va_E) (s : SG) (hX : XI tc ad f s) (ho : okS s) (hN : 98 ≤ N)    : Ct G tc l yX3_padFault wsX3_padFault { frames := 1, cells := 0, slots := 0, locals := 20 } 0 0 [.ref (ad (0))] ad N f (poI ad N (fau (pad s) (pln s)) (fun f' => f' = f)) := by
  obtain ⟨h0, ⟨h1, h2, h3, h4⟩, hHis, hSlo, h40, hWds, hPr, hHd⟩ := id hX
  obtain ⟨⟨⟨a1, a2⟩, ⟨a3, a4⟩, ⟨a5, a6⟩, a7, a8, a9, a10⟩, o2, o3, o4, o5, o6⟩ := id ho
  refine stI (cc := cX3_padFault) (maxL := 2) (lv := [(0, .ref (ad (0)))]) (by decide) rfl (Nat.le_of_ble_eq_true rfl) rfl (fun X C hret => ?_)
  have m0 : Cond.fieldLink RX3 35 "WordSamples" "padLength" "I" ∈ wsX3_padFault := by decide +kernel
  have m1 : ∀ w ∈ wsX30, w ∈ wsX3_padFault := by decide +kernel
  have m2 : Cond.fieldLink RX3 31 "WordSamples" "pad" "[I" ∈ wsX3_padFault := by decide +kernel
  refine r_aload_n C dX3_padFault_0 rfl rfl ?_
  refine r_get (v := .int (iI ((pln s : Nat) : Int))) C (by omega) h0 (show vwCl[3]? = some (RX3, TX3, 11) from rfl) m1 6 (by decide) m0 rfl rfl dX3_padFault_1 ?_
  refine r_if_ne (tgt := 9) C ⟨by omega, by omega⟩ dX3_padFault_4 (by decide) (fun b_n0 => ?_) (fun b_n0 => ?_)
  · refine r_iconst C ((0 : Nat) : Int) (by decide) dX3_padFault_9 ?_
    refine r_istore_n (lv' := [(0, .ref (ad (0))), (1, .int (iI ((0 : Nat) : Int)))]) C dX3_padFault_10 rfl (by decide) rfl ?_
    have hL1 : ∀ (m_2 : Nat) (k : Nat) (hk : k ≤ pln s) (hb : ∀ j, j < k → okc (pad s j) = true), pln s - k < m_2 → VV X ad N f 0 0 11 [(0, .ref (ad (0))), (1, .int (iI ((k : Nat) : Int)))] [] := by
      intro m_2
      induction m_2 with
      | zero => intros; omega
      | succ m_2 ih3 =>
        intro k hk hb hm4
        refine r_iload_n C dX3_padFault_11 rfl rfl ?_
        refine r_aload_n C dX3_padFault_12 rfl rfl ?_
        refine r_get (v := .int (iI ((pln s : Nat) : Int))) C (by omega) h0 (show vwCl[3]? = some (RX3, TX3, 11) from rfl) m1 6 (by decide) m0 rfl rfl dX3_padFault_13 ?_
        refine r_icmp_ge (tgt := 41) C ⟨by omega, by omega⟩ ⟨by omega, by omega⟩ dX3_padFault_16 (by decide) (fun b_k => ?_) (fun b_k => ?_)
        · refine r_bipush C ((-6)) (by decide) dX3_padFault_41 ?_
          exact hret f ((-6)) _ _ dX3_padFault_43 (fau_end (by omega) (fun j hj => hb j (by omega))).symm rfl
        · refine r_aload_n C dX3_padFault_19 rfl rfl ?_
          refine r_get (v := .ref (ad (40))) C (by omega) h0 (show vwCl[3]? = some (RX3, TX3, 11) from rfl) m1 5 (by decide) m2 rfl rfl dX3_padFault_20 ?_
          refine r_iload_n C dX3_padFault_23 rfl rfl ?_
          have q1 := o6 k (by omega)
          refine r_iald (x := (iI ((pad s k : Nat) : Int))) C (by omega) h40 (k) rfl (by omega) (Nat.le_of_ble_eq_true rfl) (rfl) dX3_padFault_24 ?_
          refine r_callS (As := [.int (iI ((pad s k : Nat) : Int))]) (rest := []) (na := 1) C (c_X3_signOf G tc l ad N _ ((pad s k : Nat) : Int) ⟨by omega, by omega⟩) gX3_padFault_X3_signOf rfl rfl rfl (by decide +kernel) ⟨Nat.le_of_ble_eq_true rfl, Nat.le_of_ble_eq_true rfl⟩ rfl rfl (Nat.le_of_ble_eq_true rfl) dX3_padFault_25 ⟨Nat.le_of_ble_eq_true rfl, Nat.le_of_ble_eq_true rfl⟩ (aft_I (fun f5 hF6 => ?_))
          rw [hF6]
          have q2 := sgnI_rng ((pad s k : Nat) : Int)
          refine r_bipush C ((-6)) (by decide) dX3_padFault_28 ?_
          refine r_icmp_ne (tgt := 35) C ⟨by omega, by omega⟩ ⟨by omega, by omega⟩ dX3_padFault_30 (by decide) (fun b_ne => ?_) (fun b_ne => ?_)
          · refine r_iinc (lv' := [(0, .ref (ad (0))), (1, .int (iI ((k + 1 : Nat) : Int)))]) C ((k + 1 : Nat) : Int) (by omega) dX3_padFault_35 rfl (by decide) rfl ?_
            refine r_goto (tgt := 11) C dX3_padFault_38 (by decide) ?_
            exact ih3 (k + 1) (by omega) (ok_step hb b_ne) (by omega)
          · refine r_iload_n C dX3_padFault_33 rfl rfl ?_
            exact hret f ((k : Nat) : Int) _ _ dX3_padFault_34 (fau_hit (by omega) hb b_ne).symm rfl
    exact hL1 _ 0 (by omega) (fun j hj => absurd hj (Nat.not_lt_zero _)) (Nat.lt_succ_self _)
  · refine r_iconst C ((0 : Nat) : Int) (by decide) dX3_padFault_7 ?_
    exact hret f ((0 : Nat) : Int) _ _ dX3_padFault_8 (by unfold fau; rw [if_pos (by omega)]; rfl) rfl
set_option maxHeartbeats 4000000 in
set_option maxRecDepth 100000 in
/-- movePadTo(r) -/
theorem c_X3_movePadTo (G : va_G) (tc : Nat → ClassId) (l : Launch) (ad : Nat → Nat) (N : Nat) (f : Nat → va_E) (kn pl R0 r : Nat) (L gs p : Nat → Nat) (hN : 98 ≤ N) (hr : r < 10) (hl : L r + pl ≤ 64) (hp : ∀ j, j < pl → okc (p j) = true ∧ p j ≤ 126) (h0 : f (0) = eO 3 [.ref (ad (1)), .ref (ad (5)), .int (iI ((kn : Nat) : Int)), .ref (ad (30)), .ref (ad (39)), .ref (ad (40)), .int (iI ((pl : Nat) : Int)), .ref (ad (41)), .ref (ad (82)), .ref (ad (83)), .ref (ad (87))]) (h1 : f (1) = eO 1 [.ref (ad (2)), .ref (ad (3)), .ref (ad (4)), .int (iI ((R0 : Nat) : Int))]) (h3 : f (3) = eI tc 10 (fun j => iI ((L j : Nat) : Int))) (h4 : f (4) = eI tc 640 (fun j => iI ((gs j : Nat) : Int))) (h40 : f (40) = eI tc 64 (fun j => iI ((p j : Nat) : Int)))  : Ct G tc l yX3_movePadTo wsX3_movePadTo { frames := 1, cells := 0, slots := 0, locals := 20 } 0 0 [.ref (ad (0)), .int (iI ((r : Nat) : Int))] ad N f (poV ad N (fun f' => f' 0 = oX ad kn 0 ∧ f' 3 = eI tc 10 (fun j => iI ((upN L r (L r + pl) j : Nat) : Int)) ∧ f' 4 = eI tc 640 (fun j => iI ((powr gs (r * 64 + L r) p pl j : Nat) : Int)) ∧ ∀ q, (q ≠ 0 ∧ q ≠ 3 ∧ q ≠ 4) → f' q = f q)) := by
  refine stV (cc := cX3_movePadTo) (maxL := 4) (lv := [(0, .ref (ad (0))), (1, .int (iI ((r : Nat) : Int)))]) (by decide) rfl (Nat.le_of_ble_eq_true rfl) rfl (fun X C hret => ?_)
  have m0 : Cond.fieldLink RX3 10 "WordSamples" "now" "LWordSamples$State;" ∈ wsX3_movePadTo := by decide +kernel
  have m1 : ∀ w ∈ wsX30, w ∈ wsX3_movePadTo := by decide +kernel
  have m2 : Cond.fieldLink RX3 77 "WordSamples$State" "lengths" "[I" ∈ wsX3_movePadTo := by decide +kernel
  have m3 : ∀ w ∈ wsX10, w ∈ wsX3_movePadTo := by decide +kernel
  have m4 : Cond.fieldLink RX3 35 "WordSamples" "padLength" "I" ∈ wsX3_movePadTo := by decide +kernel
  have m5 : Cond.fieldLink RX3 92 "WordSamples$State" "signs" "[I" ∈ wsX3_movePadTo := by decide +kernel
  have m6 : Cond.fieldLink RX3 31 "WordSamples" "pad" "[I" ∈ wsX3_movePadTo := by decide +kernel
  refine r_iload_n C dX3_movePadTo_0 rfl rfl ?_
  refine r_bipush C ((64 : Nat) : Int) (by decide) dX3_movePadTo_1 ?_
  refine r_imul C ((r * 64 : Nat) : Int) (by omega) dX3_movePadTo_3 ?_
  refine r_aload_n C dX3_movePadTo_4 rfl rfl ?_
  refine r_get (v := .ref (ad (1))) C (by omega) h0 (show vwCl[3]? = some (RX3, TX3, 11) from rfl) m1 0 (by decide) m0 rfl rfl dX3_movePadTo_5 ?_
  refine r_get (v := .ref (ad (3))) C (by omega) h1 (show vwCl[1]? = some (RX1, TX1, 4) from rfl) m3 1 (by decide) m2 rfl rfl dX3_movePadTo_8 ?_
  refine r_iload_n C dX3_movePadTo_11 rfl rfl ?_
  refine r_iald (x := (iI ((L r : Nat) : Int))) C (by omega) h3 (r) rfl (by omega) (Nat.le_of_ble_eq_true rfl) (rfl) dX3_movePadTo_12 ?_
  refine r_iadd C ((r * 64 + (L r) : Nat) : Int) (by omega) dX3_movePadTo_13 ?_
  refine r_istore_n (lv' := [(0, .ref (ad (0))), (1, .int (iI ((r : Nat) : Int))), (2, .int (iI ((r * 64 + (L r) : Nat) : Int)))]) C dX3_movePadTo_14 rfl (by decide) rfl ?_
  refine r_iconst C ((0 : Nat) : Int) (by decide) dX3_movePadTo_15 ?_
  refine r_istore_n (lv' := [(0, .ref (ad (0))), (1, .int (iI ((r : Nat) : Int))), (2, .int (iI ((r * 64 + (L r) : Nat) : Int))), (3, .int (iI ((0 : Nat) : Int)))]) C dX3_movePadTo_16 rfl (by decide) rfl ?_
  have hL4 : ∀ (m_5 : Nat) (k : Nat) (f1 : Nat → va_E) (hm2 : f1 (4) = eI tc 640 (fun j => iI (((powr gs (r * 64 + L r) p k) j : Nat) : Int))) (ho3 : ∀ q, q ≠ 4 → f1 q = f q) (hk : k ≤ pl), pl - k < m_5 → VV X ad N f1 0 0 17 [(0, .ref (ad (0))), (1, .int (iI ((r : Nat) : Int))), (2, .int (iI ((r * 64 + L r : Nat) : Int))), (3, .int (iI ((k : Nat) : Int)))] [] := by
    intro m_5
    induction m_5 with
    | zero => intros; omega
    | succ m_5 ih6 =>
      intro k f1 hm2 ho3 hk hm7
      refine r_iload_n C dX3_movePadTo_17 rfl rfl ?_
      refine r_aload_n C dX3_movePadTo_18 rfl rfl ?_
      have c8 : f1 (0) = eO 3 [.ref (ad (1)), .ref (ad (5)), .int (iI ((kn : Nat) : Int)), .ref (ad (30)), .ref (ad (39)), .ref (ad (40)), .int (iI ((pl : Nat) : Int)), .ref (ad (41)), .ref (ad (82)), .ref (ad (83)), .ref (ad (87))] := (ho3 _ (by omega)).trans h0
      refine r_get (v := .int (iI ((pl : Nat) : Int))) C (by omega) c8 (show vwCl[3]? = some (RX3, TX3, 11) from rfl) m1 6 (by decide) m4 rfl rfl dX3_movePadTo_19 ?_
      refine r_icmp_ge (tgt := 51) C ⟨by omega, by omega⟩ ⟨by omega, by omega⟩ dX3_movePadTo_22 (by decide) (fun b9 => ?_) (fun b9 => ?_)
      · have hke : k = pl := by omega
        rw [hke] at hm2
        refine r_aload_n C dX3_movePadTo_51 rfl rfl ?_
        refine r_get (v := .ref (ad (1))) C (by omega) c8 (show vwCl[3]? = some (RX3, TX3, 11) from rfl) m1 0 (by decide) m0 rfl rfl dX3_movePadTo_52 ?_
        have c10 : f1 (1) = eO 1 [.ref (ad (2)), .ref (ad (3)), .ref (ad (4)), .int (iI ((R0 : Nat) : Int))] := (ho3 _ (by omega)).trans h1
        refine r_get (v := .ref (ad (3))) C (by omega) c10 (show vwCl[1]? = some (RX1, TX1, 4) from rfl) m3 1 (by decide) m2 rfl rfl dX3_movePadTo_55 ?_
        refine r_iload_n C dX3_movePadTo_58 rfl rfl ?_
        refine r_dup2 C dX3_movePadTo_59 rfl rfl ?_
        have c11 : f1 (3) = eI tc 10 (fun j => iI ((L j : Nat) : Int)) := (ho3 _ (by omega)).trans h3
        refine r_iald (x := (iI ((L r : Nat) : Int))) C (by omega) c11 (r) rfl (by omega) (Nat.le_of_ble_eq_true rfl) (rfl) dX3_movePadTo_60 ?_
        refine r_aload_n C dX3_movePadTo_61 rfl rfl ?_
        refine r_get (v := .int (iI ((pl : Nat) : Int))) C (by omega) c8 (show vwCl[3]? = some (RX3, TX3, 11) from rfl) m1 6 (by decide) m4 rfl rfl dX3_movePadTo_62 ?_
        refine r_iadd C ((L r + pl : Nat) : Int) (by omega) dX3_movePadTo_65 ?_
        refine r_iast C (by omega) c11 (r) rfl (by omega) (Nat.le_of_ble_eq_true rfl) dX3_movePadTo_66 (fun f12 hs13 ho14 => ?_)
        have c15 : f12 (3) = eI tc 10 (fun j => iI (((upN L (r) (L r + pl)) j : Nat) : Int)) := hs13.trans (congrArg (fun g => eI tc 10 g) (updN _ _ _))
        refine r_aload_n C dX3_movePadTo_67 rfl rfl ?_
        refine r_iconst C ((0 : Nat) : Int) (by decide) dX3_movePadTo_68 ?_
        have c16 : f12 (0) = eO 3 [.ref (ad (1)), .ref (ad (5)), .int (iI ((kn : Nat) : Int)), .ref (ad (30)), .ref (ad (39)), .ref (ad (40)), .int (iI ((pl : Nat) : Int)), .ref (ad (41)), .ref (ad (82)), .ref (ad (83)), .ref (ad (87))] := (ho14 _ (by omega)).trans c8
        refine r_put (ty := .int) C (by omega) c16 (show vwCl[3]? = some (RX3, TX3, 11) from rfl) m1 tyX3_ok nmX3 6 (by decide) m4 rfl rfl (by decide +kernel) rfl rfl (Nat.le_of_ble_eq_true rfl) dX3_movePadTo_69 (fun f17 hs18 ho19 => ?_)
        have c20 : f17 (0) = eO 3 [.ref (ad (1)), .ref (ad (5)), .int (iI ((kn : Nat) : Int)), .ref (ad (30)), .ref (ad (39)), .ref (ad (40)), .int (iI ((0 : Nat) : Int)), .ref (ad (41)), .ref (ad (82)), .ref (ad (83)), .ref (ad (87))] := hs18
        have c21 : f17 (3) = eI tc 10 (fun j => iI (((upN L (r) (L r + pl)) j : Nat) : Int)) := (ho19 _ (by omega)).trans c15
        have c22 : f12 (4) = eI tc 640 (fun j => iI (((powr gs (r * 64 + L r) p pl) j : Nat) : Int)) := (ho14 _ (by omega)).trans hm2
        have c23 : f17 (4) = eI tc 640 (fun j => iI (((powr gs (r * 64 + L r) p pl) j : Nat) : Int)) := (ho19 _ (by omega)).trans c22
        exact hret f17 _ _ dX3_movePadTo_72 (⟨c20, c21, c23, fun q hq => (((ho19 _ (by omega))).trans (ho14 _ (by omega))).trans (ho3 _ (by omega))⟩)
      · refine r_aload_n C dX3_movePadTo_25 rfl rfl ?_
        refine r_get (v := .ref (ad (1))) C (by omega) c8 (show vwCl[3]? = some (RX3, TX3, 11) from rfl) m1 0 (by decide) m0 rfl rfl dX3_movePadTo_26 ?_
        have c24 : f1 (1) = eO 1 [.ref (ad (2)), .ref (ad (3)), .ref (ad (4)), .int (iI ((R0 : Nat) : Int))] := (ho3 _ (by omega)).trans h1
        refine r_get (v := .ref (ad (4))) C (by omega) c24 (show vwCl[1]? = some (RX1, TX1, 4) from rfl) m3 2 (by decide) m5 rfl rfl dX3_movePadTo_29 ?_
        refine r_iload_n C dX3_movePadTo_32 rfl rfl ?_
        refine r_iload_n C dX3_movePadTo_33 rfl rfl ?_
        refine r_iadd C ((r * 64 + L r + k : Nat) : Int) (by omega) dX3_movePadTo_34 ?_
        refine r_aload_n C dX3_movePadTo_35 rfl rfl ?_
        refine r_get (v := .ref (ad (40))) C (by omega) c8 (show vwCl[3]? = some (RX3, TX3, 11) from rfl) m1 5 (by decide) m6 rfl rfl dX3_movePadTo_36 ?_
        have q1 := hp k (by omega)
        refine r_iload_n C dX3_movePadTo_39 rfl rfl ?_
        have c25 : f1 (40) = eI tc 64 (fun j => iI ((p j : Nat) : Int)) := (ho3 _ (by omega)).trans h40
        refine r_iald (x := (iI ((p k : Nat) : Int))) C (by omega) c25 (k) rfl (by omega) (Nat.le_of_ble_eq_true rfl) (rfl) dX3_movePadTo_40 ?_
        refine r_callS (As := [.int (iI ((p k : Nat) : Int))]) (rest := [.int (iI ((r * 64 + L r + k : Nat) : Int)), .ref (ad (4))]) (na := 1) C (c_X3_signOf G tc l ad N _ ((p k : Nat) : Int) ⟨by omega, by omega⟩) gX3_movePadTo_X3_signOf rfl rfl rfl (by decide +kernel) ⟨Nat.le_of_ble_eq_true rfl, Nat.le_of_ble_eq_true rfl⟩ rfl rfl (Nat.le_of_ble_eq_true rfl) dX3_movePadTo_41 ⟨Nat.le_of_ble_eq_true rfl, Nat.le_of_ble_eq_true rfl⟩ (aft_I (fun f26 hF27 => ?_))
        rw [hF27]
        rw [show (.int (iI (sgnI ((p k : Nat) : Int))) : Value) = .int (iI ((sgn (p k) : Nat) : Int)) from by rw [sgnI_ok q1.1]]
        refine r_iast C (by omega) hm2 (r * 64 + L r + k) rfl (by omega) (Nat.le_of_ble_eq_true rfl) dX3_movePadTo_44 (fun f28 hs29 ho30 => ?_)
        have c31 : f28 (4) = eI tc 640 (fun j => iI (((upN ((powr gs (r * 64 + L r) p k)) (r * 64 + L r + k) (sgn (p k))) j : Nat) : Int)) := hs29.trans (congrArg (fun g => eI tc 640 g) (updN _ _ _))
        refine r_iinc (lv' := [(0, .ref (ad (0))), (1, .int (iI ((r : Nat) : Int))), (2, .int (iI ((r * 64 + L r : Nat) : Int))), (3, .int (iI ((k + 1 : Nat) : Int)))]) C ((k + 1 : Nat) : Int) (by omega) dX3_movePadTo_45 rfl (by decide) rfl ?_
        refine r_goto (tgt := 17) C dX3_movePadTo_48 (by decide) ?_
        exact ih6 (k + 1) f28 (c31.trans (by rw [powr_s])) (fun q hq => ((ho30 _ (by omega))).trans (ho3 _ (by omega))) (by omega) (by omega)
  exact hL4 _ 0 f (by rw [powr_0]; exact h4) (fun _ _ => rfl) (by omega) (Nat.lt_succ_self _)
set_option maxHeartbeats 4000000 in
set_option maxRecDepth 100000 in
/-- copyFrom: all of a State is copied -/
theorem c_X1_copyFrom (G : va_G) (tc : Nat → ClassId) (l : Launch) (ad : Nat → Nat) (N : Nat) (f : Nat → va_E) (i j : Nat) (hi : i + 4 ≤ N) (hj : j + 4 ≤ N) (hij : i + 4 ≤ j ∨ j + 4 ≤ i) (n n' : NS) (hs1 : isSt tc ad f i n') (hs2 : isSt tc ad f j n)   : Ct G tc l yX1_copyFrom wsX1_copyFrom { frames := 1, cells := 0, slots := 0, locals := 20 } 0 0 [.ref (ad (i)), .ref (ad (j))] ad N f (poV ad N (fun f' => isSt tc ad f' i n ∧ ∀ q, (q < i ∨ i + 4 ≤ q) → f' q = f q)) := by
  obtain ⟨h0, h1, h2, h3⟩ := hs1
  obtain ⟨g0, g1, g2, g3⟩ := hs2
  refine stV (cc := cX1_copyFrom) (maxL := 2) (lv := [(0, .ref (ad (i))), (1, .ref (ad (j)))]) (by decide) rfl (Nat.le_of_ble_eq_true rfl) rfl (fun X C hret => ?_)
  have m0 : Cond.fieldLink RX1 9 "WordSamples$State" "settings" "[I" ∈ wsX1_copyFrom := by decide +kernel
  have m1 : ∀ w ∈ wsX10, w ∈ wsX1_copyFrom := by decide +kernel
  have m2 : Cond.methodLink RX1 28 arraycopyName ∈ wsX1_copyFrom := by decide +kernel
  have m3 : Cond.native arraycopyName ∈ wsX1_copyFrom := by decide +kernel
  have m4 : Cond.static arraycopyName ∈ wsX1_copyFrom := by decide +kernel
  have m5 : Cond.initialized "java/lang/System" ∈ wsX1_copyFrom := by decide +kernel
  have m6 : Cond.fieldLink RX1 15 "WordSamples$State" "lengths" "[I" ∈ wsX1_copyFrom := by decide +kernel
  have m7 : Cond.fieldLink RX1 18 "WordSamples$State" "signs" "[I" ∈ wsX1_copyFrom := by decide +kernel
  have m8 : Cond.fieldLink RX1 21 "WordSamples$State" "rows" "I" ∈ wsX1_copyFrom := by decide +kernel
  refine r_aload_n C dX1_copyFrom_0 rfl rfl ?_
  refine r_get (v := .ref (ad (j + 1))) C (by omega) g0 (show vwCl[1]? = some (RX1, TX1, 4) from rfl) m1 0 (by decide) m0 rfl rfl dX1_copyFrom_1 ?_
  refine r_iconst C ((0 : Nat) : Int) (by decide) dX1_copyFrom_4 ?_
  refine r_aload_n C dX1_copyFrom_5 rfl rfl ?_
  refine r_get (v := .ref (ad (i + 1))) C (by omega) h0 (show vwCl[1]? = some (RX1, TX1, 4) from rfl) m1 0 (by decide) m0 rfl rfl dX1_copyFrom_6 ?_
  refine r_iconst C ((0 : Nat) : Int) (by decide) dX1_copyFrom_9 ?_
  refine r_iconst C ((4 : Nat) : Int) (by decide) dX1_copyFrom_10 ?_
  refine r_acp C ⟨m2, m3, m4, m5⟩ (Nat.le_of_ble_eq_true rfl) (Nat.le_of_ble_eq_true rfl) (by omega) g1 (by omega) h1 (0) (0) (4) rfl rfl rfl (by omega) (by omega) (Nat.le_of_ble_eq_true rfl) (Nat.le_of_ble_eq_true rfl) dX1_copyFrom_11 (fun f1 hs2 ho3 => ?_)
  refine r_cv1 hs2 (fun j => iI ((n.1 j : Nat) : Int)) (fun j hj => by unfold va_cpy; rw [if_pos (by omega), Nat.sub_zero, Nat.zero_add]) (fun f4 hs5 ho6 => ?_)
  refine r_aload_n C dX1_copyFrom_14 rfl rfl ?_
  have c7 : f1 (j) = eO 1 [.ref (ad (j + 1)), .ref (ad (j + 2)), .ref (ad (j + 3)), .int (iI ((n.2.2.2 : Nat) : Int))] := (ho3 _ (by omega)).trans g0
  have c8 : f4 (j) = eO 1 [.ref (ad (j + 1)), .ref (ad (j + 2)), .ref (ad (j + 3)), .int (iI ((n.2.2.2 : Nat) : Int))] := (ho6 _ (by omega)).trans c7
  refine r_get (v := .ref (ad (j + 2))) C (by omega) c8 (show vwCl[1]? = some (RX1, TX1, 4) from rfl) m1 1 (by decide) m6 rfl rfl dX1_copyFrom_15 ?_
  refine r_iconst C ((0 : Nat) : Int) (by decide) dX1_copyFrom_18 ?_
  refine r_aload_n C dX1_copyFrom_19 rfl rfl ?_
  have c9 : f1 (i) = eO 1 [.ref (ad (i + 1)), .ref (ad (i + 2)), .ref (ad (i + 3)), .int (iI ((n'.2.2.2 : Nat) : Int))] := (ho3 _ (by omega)).trans h0
  have c10 : f4 (i) = eO 1 [.ref (ad (i + 1)), .ref (ad (i + 2)), .ref (ad (i + 3)), .int (iI ((n'.2.2.2 : Nat) : Int))] := (ho6 _ (by omega)).trans c9
  refine r_get (v := .ref (ad (i + 2))) C (by omega) c10 (show vwCl[1]? = some (RX1, TX1, 4) from rfl) m1 1 (by decide) m6 rfl rfl dX1_copyFrom_20 ?_
  refine r_iconst C ((0 : Nat) : Int) (by decide) dX1_copyFrom_23 ?_
  refine r_bipush C ((10 : Nat) : Int) (by decide) dX1_copyFrom_24 ?_
  have c11 : f1 (j + 2) = eI tc 10 (fun j => iI ((n.2.1 j : Nat) : Int)) := (ho3 _ (by omega)).trans g2
  have c12 : f4 (j + 2) = eI tc 10 (fun j => iI ((n.2.1 j : Nat) : Int)) := (ho6 _ (by omega)).trans c11
  have c13 : f1 (i + 2) = eI tc 10 (fun j => iI ((n'.2.1 j : Nat) : Int)) := (ho3 _ (by omega)).trans h2
  have c14 : f4 (i + 2) = eI tc 10 (fun j => iI ((n'.2.1 j : Nat) : Int)) := (ho6 _ (by omega)).trans c13
  refine r_acp C ⟨m2, m3, m4, m5⟩ (Nat.le_of_ble_eq_true rfl) (Nat.le_of_ble_eq_true rfl) (by omega) c12 (by omega) c14 (0) (0) (10) rfl rfl rfl (by omega) (by omega) (Nat.le_of_ble_eq_true rfl) (Nat.le_of_ble_eq_true rfl) dX1_copyFrom_26 (fun f15 hs16 ho17 => ?_)
  refine r_cv1 hs16 (fun j => iI ((n.2.1 j : Nat) : Int)) (fun j hj => by unfold va_cpy; rw [if_pos (by omega), Nat.sub_zero, Nat.zero_add]) (fun f18 hs19 ho20 => ?_)
  refine r_aload_n C dX1_copyFrom_29 rfl rfl ?_
  have c21 : f15 (j) = eO 1 [.ref (ad (j + 1)), .ref (ad (j + 2)), .ref (ad (j + 3)), .int (iI ((n.2.2.2 : Nat) : Int))] := (ho17 _ (by omega)).trans c8
  have c22 : f18 (j) = eO 1 [.ref (ad (j + 1)), .ref (ad (j + 2)), .ref (ad (j + 3)), .int (iI ((n.2.2.2 : Nat) : Int))] := (ho20 _ (by omega)).trans c21
  refine r_get (v := .ref (ad (j + 3))) C (by omega) c22 (show vwCl[1]? = some (RX1, TX1, 4) from rfl) m1 2 (by decide) m7 rfl rfl dX1_copyFrom_30 ?_
  refine r_iconst C ((0 : Nat) : Int) (by decide) dX1_copyFrom_33 ?_
  refine r_aload_n C dX1_copyFrom_34 rfl rfl ?_
  have c23 : f15 (i) = eO 1 [.ref (ad (i + 1)), .ref (ad (i + 2)), .ref (ad (i + 3)), .int (iI ((n'.2.2.2 : Nat) : Int))] := (ho17 _ (by omega)).trans c10
  have c24 : f18 (i) = eO 1 [.ref (ad (i + 1)), .ref (ad (i + 2)), .ref (ad (i + 3)), .int (iI ((n'.2.2.2 : Nat) : Int))] := (ho20 _ (by omega)).trans c23
  refine r_get (v := .ref (ad (i + 3))) C (by omega) c24 (show vwCl[1]? = some (RX1, TX1, 4) from rfl) m1 2 (by decide) m7 rfl rfl dX1_copyFrom_35 ?_
  refine r_iconst C ((0 : Nat) : Int) (by decide) dX1_copyFrom_38 ?_
  refine r_sipush C ((640 : Nat) : Int) (by decide) dX1_copyFrom_39 ?_
  have c25 : f1 (j + 3) = eI tc 640 (fun j => iI ((n.2.2.1 j : Nat) : Int)) := (ho3 _ (by omega)).trans g3
  have c26 : f4 (j + 3) = eI tc 640 (fun j => iI ((n.2.2.1 j : Nat) : Int)) := (ho6 _ (by omega)).trans c25
  have c27 : f15 (j + 3) = eI tc 640 (fun j => iI ((n.2.2.1 j : Nat) : Int)) := (ho17 _ (by omega)).trans c26
  have c28 : f18 (j + 3) = eI tc 640 (fun j => iI ((n.2.2.1 j : Nat) : Int)) := (ho20 _ (by omega)).trans c27
  have c29 : f1 (i + 3) = eI tc 640 (fun j => iI ((n'.2.2.1 j : Nat) : Int)) := (ho3 _ (by omega)).trans h3
  have c30 : f4 (i + 3) = eI tc 640 (fun j => iI ((n'.2.2.1 j : Nat) : Int)) := (ho6 _ (by omega)).trans c29
  have c31 : f15 (i + 3) = eI tc 640 (fun j => iI ((n'.2.2.1 j : Nat) : Int)) := (ho17 _ (by omega)).trans c30
  have c32 : f18 (i + 3) = eI tc 640 (fun j => iI ((n'.2.2.1 j : Nat) : Int)) := (ho20 _ (by omega)).trans c31
  refine r_acp C ⟨m2, m3, m4, m5⟩ (Nat.le_of_ble_eq_true rfl) (Nat.le_of_ble_eq_true rfl) (by omega) c28 (by omega) c32 (0) (0) (640) rfl rfl rfl (by omega) (by omega) (Nat.le_of_ble_eq_true rfl) (Nat.le_of_ble_eq_true rfl) dX1_copyFrom_42 (fun f33 hs34 ho35 => ?_)
  refine r_cv1 hs34 (fun j => iI ((n.2.2.1 j : Nat) : Int)) (fun j hj => by unfold va_cpy; rw [if_pos (by omega), Nat.sub_zero, Nat.zero_add]) (fun f36 hs37 ho38 => ?_)
  refine r_aload_n C dX1_copyFrom_45 rfl rfl ?_
  refine r_aload_n C dX1_copyFrom_46 rfl rfl ?_
  have c39 : f33 (j) = eO 1 [.ref (ad (j + 1)), .ref (ad (j + 2)), .ref (ad (j + 3)), .int (iI ((n.2.2.2 : Nat) : Int))] := (ho35 _ (by omega)).trans c22
  have c40 : f36 (j) = eO 1 [.ref (ad (j + 1)), .ref (ad (j + 2)), .ref (ad (j + 3)), .int (iI ((n.2.2.2 : Nat) : Int))] := (ho38 _ (by omega)).trans c39
  refine r_get (v := .int (iI ((n.2.2.2 : Nat) : Int))) C (by omega) c40 (show vwCl[1]? = some (RX1, TX1, 4) from rfl) m1 3 (by decide) m8 rfl rfl dX1_copyFrom_47 ?_
  have c41 : f33 (i) = eO 1 [.ref (ad (i + 1)), .ref (ad (i + 2)), .ref (ad (i + 3)), .int (iI ((n'.2.2.2 : Nat) : Int))] := (ho35 _ (by omega)).trans c24
  have c42 : f36 (i) = eO 1 [.ref (ad (i + 1)), .ref (ad (i + 2)), .ref (ad (i + 3)), .int (iI ((n'.2.2.2 : Nat) : Int))] := (ho38 _ (by omega)).trans c41
  refine r_put (ty := .int) C (by omega) c42 (show vwCl[1]? = some (RX1, TX1, 4) from rfl) m1 tyX1_ok nmX1 3 (by decide) m8 rfl rfl (by decide +kernel) rfl rfl (Nat.le_of_ble_eq_true rfl) dX1_copyFrom_50 (fun f43 hs44 ho45 => ?_)
  have c46 : f43 (i) = eO 1 [.ref (ad (i + 1)), .ref (ad (i + 2)), .ref (ad (i + 3)), .int (iI ((n.2.2.2 : Nat) : Int))] := hs44
  have c47 : f15 (i + 1) = eI tc 4 (fun j => iI ((n.1 j : Nat) : Int)) := (ho17 _ (by omega)).trans hs5
  have c48 : f18 (i + 1) = eI tc 4 (fun j => iI ((n.1 j : Nat) : Int)) := (ho20 _ (by omega)).trans c47
  have c49 : f33 (i + 1) = eI tc 4 (fun j => iI ((n.1 j : Nat) : Int)) := (ho35 _ (by omega)).trans c48
  have c50 : f36 (i + 1) = eI tc 4 (fun j => iI ((n.1 j : Nat) : Int)) := (ho38 _ (by omega)).trans c49
  have c51 : f43 (i + 1) = eI tc 4 (fun j => iI ((n.1 j : Nat) : Int)) := (ho45 _ (by omega)).trans c50
  have c52 : f33 (i + 2) = eI tc 10 (fun j => iI ((n.2.1 j : Nat) : Int)) := (ho35 _ (by omega)).trans hs19
  have c53 : f36 (i + 2) = eI tc 10 (fun j => iI ((n.2.1 j : Nat) : Int)) := (ho38 _ (by omega)).trans c52
  have c54 : f43 (i + 2) = eI tc 10 (fun j => iI ((n.2.1 j : Nat) : Int)) := (ho45 _ (by omega)).trans c53
  have c55 : f43 (i + 3) = eI tc 640 (fun j => iI ((n.2.2.1 j : Nat) : Int)) := (ho45 _ (by omega)).trans hs37
  exact hret f43 _ _ dX1_copyFrom_53 (⟨⟨c46, c51, c54, c55⟩, fun q hq => (((((((ho45 _ (by omega))).trans (ho38 _ (by omega))).trans (ho35 _ (by omega))).trans (ho20 _ (by omega))).trans (ho17 _ (by omega))).trans (ho6 _ (by omega))).trans (ho3 _ (by omega))⟩)
set_option maxHeartbeats 4000000 in
set_option maxRecDepth 100000 in
/-- forgetWords() -/
theorem c_X3_forgetWords (G : va_G) (tc : Nat → ClassId) (l : Launch) (ad : Nat → Nat) (N : Nat) (f : Nat → va_E) (kn pl : Nat) (gt : Nat → Int32) (hN : 98 ≤ N) (h0 : f (0) = eO 3 [.ref (ad (1)), .ref (ad (5)), .int (iI ((kn : Nat) : Int)), .ref (ad (30)), .ref (ad (39)), .ref (ad (40)), .int (iI ((pl : Nat) : Int)), .ref (ad (41)), .ref (ad (82)), .ref (ad (83)), .ref (ad (87))]) (h82 : f (82) = eB tc 10 (gt))  : Ct G tc l yX3_forgetWords wsX3_forgetWords { frames := 0, cells := 0, slots := 0, locals := 0 } 0 0 [.ref (ad (0))] ad N f (poV ad N (fun f' => (∃ g : Nat → Int32, f' 82 = eB tc 10 g ∧ ∀ j, j < 10 → g j = iI ((0 : Nat) : Int)) ∧ ∀ q, q ≠ 82 → f' q = f q)) := by
  refine stV (cc := cX3_forgetWords) (maxL := 2) (lv := [(0, .ref (ad (0)))]) (by decide) rfl (Nat.le_of_ble_eq_true rfl) rfl (fun X C hret => ?_)
  have m0 : Cond.fieldLink RX3 44 "WordSamples" "gathered" "[Z" ∈ wsX3_forgetWords := by decide +kernel
  have m1 : ∀ w ∈ wsX30, w ∈ wsX3_forgetWords := by decide +kernel
  refine r_iconst C ((0 : Nat) : Int) (by decide) dX3_forgetWords_0 ?_
  refine r_istore_n (lv' := [(0, .ref (ad (0))), (1, .int (iI ((0 : Nat) : Int)))]) C dX3_forgetWords_1 rfl (by decide) rfl ?_
  have hL4 : ∀ (m_5 : Nat) (k : Nat) (g : Nat → Int32) (f1 : Nat → va_E) (hm2 : f1 (82) = eB tc 10 (g)) (ho3 : ∀ q, q ≠ 82 → f1 q = f q) (hk : k ≤ 10) (hg : ∀ j, j < k → g j = iI ((0 : Nat) : Int)), 10 - k < m_5 → VV X ad N f1 0 0 2 [(0, .ref (ad (0))), (1, .int (iI ((k : Nat) : Int)))] [] := by
    intro m_5
    induction m_5 with
    | zero => intros; omega
    | succ m_5 ih6 =>
      intro k g f1 hm2 ho3 hk hg hm7
      refine r_iload_n C dX3_forgetWords_2 rfl rfl ?_
      refine r_bipush C ((10 : Nat) : Int) (by decide) dX3_forgetWords_3 ?_
      refine r_icmp_ge (tgt := 21) C ⟨by omega, by omega⟩ ⟨by omega, by omega⟩ dX3_forgetWords_5 (by decide) (fun b8 => ?_) (fun b8 => ?_)
      · exact hret f1 _ _ dX3_forgetWords_21 (⟨⟨_, hm2, fun j hj => hg j (by omega)⟩, fun q hq => (ho3 _ (by omega))⟩)
      · refine r_aload_n C dX3_forgetWords_8 rfl rfl ?_
        have c9 : f1 (0) = eO 3 [.ref (ad (1)), .ref (ad (5)), .int (iI ((kn : Nat) : Int)), .ref (ad (30)), .ref (ad (39)), .ref (ad (40)), .int (iI ((pl : Nat) : Int)), .ref (ad (41)), .ref (ad (82)), .ref (ad (83)), .ref (ad (87))] := (ho3 _ (by omega)).trans h0
        refine r_get (v := .ref (ad (82))) C (by omega) c9 (show vwCl[3]? = some (RX3, TX3, 11) from rfl) m1 8 (by decide) m0 rfl rfl dX3_forgetWords_9 ?_
        refine r_iload_n C dX3_forgetWords_12 rfl rfl ?_
        refine r_iconst C ((0 : Nat) : Int) (by decide) dX3_forgetWords_13 ?_
        refine r_zast C (by omega) hm2 (k) rfl (by omega) (Nat.le_of_ble_eq_true rfl) rfl dX3_forgetWords_14 (fun f10 hs11 ho12 => ?_)
        refine r_iinc (lv' := [(0, .ref (ad (0))), (1, .int (iI ((k + 1 : Nat) : Int)))]) C ((k + 1 : Nat) : Int) (by omega) dX3_forgetWords_15 rfl (by decide) rfl ?_
        refine r_goto (tgt := 2) C dX3_forgetWords_18 (by decide) ?_
        exact ih6 (k + 1) (upd (g) (k) ((iI ((0 : Nat) : Int)))) f10 hs11 (fun q hq => ((ho12 _ (by omega))).trans (ho3 _ (by omega))) (by omega) (fun j hj => if h : j = k then (by unfold upd; rw [if_pos h]) else (by unfold upd; rw [if_neg h]; exact hg j (by omega))) (by omega)
  exact hL4 _ 0 gt f h82 (fun _ _ => rfl) (by omega) (fun j hj => absurd hj (Nat.not_lt_zero _)) (Nat.lt_succ_self _)
set_option maxHeartbeats 4000000 in
set_option maxRecDepth 100000 in
/-- dropOldestChange(): the oldest State comes last -/
theorem c_X3_dropOldestChange (G : va_G) (tc : Nat → ClassId) (l : Launch) (ad : Nat → Nat) (N : Nat) (f : Nat → va_E) (kn pl : Nat) (pi : Nat → Nat) (hs : Nat → NS) (hN : 98 ≤ N) (hpi : ∀ k, k < 6 → pi k < 6) (hst : ∀ k, k < 6 → isSt tc ad f (6 + 4 * k) (hs k)) (h0 : f (0) = eO 3 [.ref (ad (1)), .ref (ad (5)), .int (iI ((kn : Nat) : Int)), .ref (ad (30)), .ref (ad (39)), .ref (ad (40)), .int (iI ((pl : Nat) : Int)), .ref (ad (41)), .ref (ad (82)), .ref (ad (83)), .ref (ad (87))]) (h5 : f (5) = eS tc 6 (fun k => some (ad (6 + 4 * pi k))))  : Ct G tc l yX3_dropOldestChange wsX3_dropOldestChange { frames := 0, cells := 0, slots := 0, locals := 0 } 0 0 [.ref (ad (0))] ad N f (poV ad N (fun f' => f' 0 = oX ad 5 pl ∧ f' 5 = eS tc 6 (fun k => some (ad (6 + 4 * rotF pi k))) ∧ ∀ q, (q ≠ 0 ∧ q ≠ 5) → f' q = f q)) := by
  refine stV (cc := cX3_dropOldestChange) (maxL := 3) (lv := [(0, .ref (ad (0)))]) (by decide) rfl (Nat.le_of_ble_eq_true rfl) rfl (fun X C hret => ?_)
  have m0 : Cond.fieldLink RX3 16 "WordSamples" "history" "[LWordSamples$State;" ∈ wsX3_dropOldestChange := by decide +kernel
  have m1 : ∀ w ∈ wsX30, w ∈ wsX3_dropOldestChange := by decide +kernel
  have m2 : Cond.fieldLink RX3 20 "WordSamples" "undoable" "I" ∈ wsX3_dropOldestChange := by decide +kernel
  refine r_aload_n C dX3_dropOldestChange_0 rfl rfl ?_
  refine r_get (v := .ref (ad (5))) C (by omega) h0 (show vwCl[3]? = some (RX3, TX3, 11) from rfl) m1 1 (by decide) m0 rfl rfl dX3_dropOldestChange_1 ?_
  refine r_iconst C ((0 : Nat) : Int) (by decide) dX3_dropOldestChange_4 ?_
  refine r_aaldS (a := ad (6 + 4 * pi 0)) C (by omega) h5 (0) rfl (by omega) (Nat.le_of_ble_eq_true rfl) (rfl) dX3_dropOldestChange_5 ?_
  refine r_astore_n (lv' := [(0, .ref (ad (0))), (1, .ref (ad (6 + 4 * pi 0)))]) C dX3_dropOldestChange_6 rfl (by decide) rfl ?_
  refine r_iconst C ((1 : Nat) : Int) (by decide) dX3_dropOldestChange_7 ?_
  refine r_istore_n (lv' := [(0, .ref (ad (0))), (1, .ref (ad (6 + 4 * pi 0))), (2, .int (iI ((1 : Nat) : Int)))]) C dX3_dropOldestChange_8 rfl (by decide) rfl ?_
  have hL4 : ∀ (m_5 : Nat) (c : Nat) (f1 : Nat → va_E) (hm2 : f1 (5) = eS tc 6 (fun k => some (ad (6 + 4 * rot pi c k)))) (ho3 : ∀ q, q ≠ 5 → f1 q = f q) (hc1 : 1 ≤ c) (hc : c ≤ 6), 6 - c < m_5 → VV X ad N f1 0 0 9 [(0, .ref (ad (0))), (1, .ref (ad (6 + 4 * pi 0))), (2, .int (iI ((c : Nat) : Int)))] [] := by
    intro m_5
    induction m_5 with
    | zero => intros; omega
    | succ m_5 ih6 =>
      intro c f1 hm2 ho3 hc1 hc hm7
      refine r_iload_n C dX3_dropOldestChange_9 rfl rfl ?_
      refine r_bipush C ((6 : Nat) : Int) (by decide) dX3_dropOldestChange_10 ?_
      refine r_icmp_ge (tgt := 35) C ⟨by omega, by omega⟩ ⟨by omega, by omega⟩ dX3_dropOldestChange_12 (by decide) (fun b8 => ?_) (fun b8 => ?_)
      · have hce : c = 6 := by omega
        rw [hce] at hm2
        refine r_aload_n C dX3_dropOldestChange_35 rfl rfl ?_
        have c9 : f1 (0) = eO 3 [.ref (ad (1)), .ref (ad (5)), .int (iI ((kn : Nat) : Int)), .ref (ad (30)), .ref (ad (39)), .ref (ad (40)), .int (iI ((pl : Nat) : Int)), .ref (ad (41)), .ref (ad (82)), .ref (ad (83)), .ref (ad (87))] := (ho3 _ (by omega)).trans h0
        refine r_get (v := .ref (ad (5))) C (by omega) c9 (show vwCl[3]? = some (RX3, TX3, 11) from rfl) m1 1 (by decide) m0 rfl rfl dX3_dropOldestChange_36 ?_
        refine r_iconst C ((5 : Nat) : Int) (by decide) dX3_dropOldestChange_39 ?_
        refine r_aload_n C dX3_dropOldestChange_40 rfl rfl ?_
        have hq2 := hpi 0 (by omega)
        have c10 : f1 (6 + 4 * pi 0) = oS ad (6 + 4 * pi 0) (hs (pi 0)).2.2.2 := ((ho3 _ (by omega))).trans (hst _ hq2).1
        refine r_aastS C (by omega) hm2 (by omega) c10 (5) rfl (by omega) (Nat.le_of_ble_eq_true rfl) dX3_dropOldestChange_41 (fun f11 hs12 ho13 => ?_)
        have c14 : f11 (5) = eS tc 6 (fun k => some (ad (6 + 4 * rotF pi k))) := hs12.trans (congrArg (fun g => eS tc 6 g) (rot_e pi ad))
        refine r_aload_n C dX3_dropOldestChange_42 rfl rfl ?_
        refine r_iconst C ((5 : Nat) : Int) (by decide) dX3_dropOldestChange_43 ?_
        have c15 : f11 (0) = eO 3 [.ref (ad (1)), .ref (ad (5)), .int (iI ((kn : Nat) : Int)), .ref (ad (30)), .ref (ad (39)), .ref (ad (40)), .int (iI ((pl : Nat) : Int)), .ref (ad (41)), .ref (ad (82)), .ref (ad (83)), .ref (ad (87))] := (ho13 _ (by omega)).trans c9
        refine r_put (ty := .int) C (by omega) c15 (show vwCl[3]? = some (RX3, TX3, 11) from rfl) m1 tyX3_ok nmX3 2 (by decide) m2 rfl rfl (by decide +kernel) rfl rfl (Nat.le_of_ble_eq_true rfl) dX3_dropOldestChange_44 (fun f16 hs17 ho18 => ?_)
        have c19 : f16 (0) = eO 3 [.ref (ad (1)), .ref (ad (5)), .int (iI ((5 : Nat) : Int)), .ref (ad (30)), .ref (ad (39)), .ref (ad (40)), .int (iI ((pl : Nat) : Int)), .ref (ad (41)), .ref (ad (82)), .ref (ad (83)), .ref (ad (87))] := hs17
        have c20 : f16 (5) = eS tc 6 (fun k => some (ad (6 + 4 * rotF pi k))) := (ho18 _ (by omega)).trans c14
        exact hret f16 _ _ dX3_dropOldestChange_47 (⟨c19, c20, fun q hq => (((ho18 _ (by omega))).trans (ho13 _ (by omega))).trans (ho3 _ (by omega))⟩)
      · refine r_aload_n C dX3_dropOldestChange_15 rfl rfl ?_
        have c21 : f1 (0) = eO 3 [.ref (ad (1)), .ref (ad (5)), .int (iI ((kn : Nat) : Int)), .ref (ad (30)), .ref (ad (39)), .ref (ad (40)), .int (iI ((pl : Nat) : Int)), .ref (ad (41)), .ref (ad (82)), .ref (ad (83)), .ref (ad (87))] := (ho3 _ (by omega)).trans h0
        refine r_get (v := .ref (ad (5))) C (by omega) c21 (show vwCl[3]? = some (RX3, TX3, 11) from rfl) m1 1 (by decide) m0 rfl rfl dX3_dropOldestChange_16 ?_
        refine r_iload_n C dX3_dropOldestChange_19 rfl rfl ?_
        refine r_iconst C ((1 : Nat) : Int) (by decide) dX3_dropOldestChange_20 ?_
        refine r_isub C ((c - 1 : Nat) : Int) (by omega) dX3_dropOldestChange_21 ?_
        refine r_aload_n C dX3_dropOldestChange_22 rfl rfl ?_
        refine r_get (v := .ref (ad (5))) C (by omega) c21 (show vwCl[3]? = some (RX3, TX3, 11) from rfl) m1 1 (by decide) m0 rfl rfl dX3_dropOldestChange_23 ?_
        refine r_iload_n C dX3_dropOldestChange_26 rfl rfl ?_
        refine r_aaldS (a := ad (6 + 4 * rot pi c c)) C (by omega) hm2 (c) rfl (by omega) (Nat.le_of_ble_eq_true rfl) (rfl) dX3_dropOldestChange_27 ?_
        have hq1 : rot pi c c = pi c := by unfold rot; rw [if_neg (by omega)]
        have hq2 := hpi c (by omega)
        have c22 : f1 (6 + 4 * rot pi c c) = oS ad (6 + 4 * pi c) (hs (pi c)).2.2.2 := by rw [hq1]; exact ((ho3 _ (by omega))).trans (hst _ hq2).1
        refine r_aastS C (by omega) hm2 (by omega) c22 (c - 1) rfl (by omega) (Nat.le_of_ble_eq_true rfl) dX3_dropOldestChange_28 (fun f23 hs24 ho25 => ?_)
        have c26 : f23 (5) = eS tc 6 (fun k => some (ad (6 + 4 * rot pi (c + 1) k))) := hs24.trans (congrArg (fun g => eS tc 6 g) (rot_s pi hc1 ad))
        refine r_iinc (lv' := [(0, .ref (ad (0))), (1, .ref (ad (6 + 4 * pi 0))), (2, .int (iI ((c + 1 : Nat) : Int)))]) C ((c + 1 : Nat) : Int) (by omega) dX3_dropOldestChange_29 rfl (by decide) rfl ?_
        refine r_goto (tgt := 9) C dX3_dropOldestChange_32 (by decide) ?_
        exact ih6 (c + 1) f23 c26 (fun q hq => ((ho25 _ (by omega))).trans (ho3 _ (by omega))) (by omega) (by omega) (by omega)
  exact hL4 _ 1 f (by rw [rot_1]; exact h5) (fun _ _ => rfl) (by omega) (by omega) (Nat.lt_succ_self _)
end XS1
