section XS1
set_option maxHeartbeats 4000000 in
set_option maxRecDepth 100000 in
/-- noRow(z): 0 if z is a row -/
theorem c_X3_noRow (G : va_G) (tc : Nat → ClassId) (l : Launch) (ad : Nat → Nat) (N : Nat) (f : Nat → va_E) (s : SG) (hX : XI tc ad f s) (ho : okS s) (hN : 98 ≤ N) (z : Int) (hz : inR z)   : Ct G tc l yX3_noRow wsX3_noRow { frames := 0, cells := 0, slots := 0, locals := 0 } 0 0 [.ref (ad (0)), .int (iI (z))] ad N f (poI ad N (if 0 ≤ z ∧ z < (((cur s).2.2.2 : Nat) : Int) then 0 else 1) (fun f' => f' = f)) := by
  obtain ⟨h0, ⟨h1, h2, h3, h4⟩, hHis, hSlo, h40, hWds, hPr, hHd⟩ := id hX
  obtain ⟨⟨⟨a1, a2⟩, ⟨a3, a4⟩, ⟨a5, a6⟩, a7, a8, a9, a10⟩, o2, o3, o4, o5, o6⟩ := id ho
  refine stZ (by omega) (cc := cX3_noRow) (maxL := 2) (lv := [(0, .ref (ad (0))), (1, .int (iI (z)))]) (by decide) rfl (Nat.le_of_ble_eq_true rfl) rfl (fun X C hret => ?_)
  have m0 : Cond.fieldLink RX3 10 "WordSamples" "now" "LWordSamples$State;" ∈ wsX3_noRow := by decide +kernel
  have m1 : ∀ w ∈ wsX30, w ∈ wsX3_noRow := by decide +kernel
  have m2 : Cond.fieldLink RX3 74 "WordSamples$State" "rows" "I" ∈ wsX3_noRow := by decide +kernel
  have m3 : ∀ w ∈ wsX10, w ∈ wsX3_noRow := by decide +kernel
  refine r_iload_n C dX3_noRow_0 rfl rfl ?_
  refine r_if_lt (tgt := 15) C ⟨by omega, by omega⟩ dX3_noRow_1 (by decide) (fun b1 => ?_) (fun b1 => ?_)
  · refine r_iconst C ((1 : Nat) : Int) (by decide) dX3_noRow_15 ?_
    refine r_goto (tgt := 20) C dX3_noRow_16 (by decide) ?_
    exact hret f ((1 : Nat) : Int) _ _ dX3_noRow_20 (by omega) rfl
  · refine r_iload_n C dX3_noRow_4 rfl rfl ?_
    refine r_aload_n C dX3_noRow_5 rfl rfl ?_
    refine r_get (v := .ref (ad (1))) C (by omega) h0 (show vwCl[3]? = some (RX3, TX3, 11) from rfl) m1 0 (by decide) m0 rfl rfl dX3_noRow_6 ?_
    refine r_get (v := .int (iI (((cur s).2.2.2 : Nat) : Int))) C (by omega) h1 (show vwCl[1]? = some (RX1, TX1, 4) from rfl) m3 3 (by decide) m2 rfl rfl dX3_noRow_9 ?_
    refine r_icmp_lt (tgt := 19) C ⟨by omega, by omega⟩ ⟨by omega, by omega⟩ dX3_noRow_12 (by decide) (fun b2 => ?_) (fun b2 => ?_)
    · refine r_iconst C ((0 : Nat) : Int) (by decide) dX3_noRow_19 ?_
      exact hret f ((0 : Nat) : Int) _ _ dX3_noRow_20 (by omega) rfl
    · refine r_iconst C ((1 : Nat) : Int) (by decide) dX3_noRow_15 ?_
      refine r_goto (tgt := 20) C dX3_noRow_16 (by decide) ?_
      exact hret f ((1 : Nat) : Int) _ _ dX3_noRow_20 (by omega) rfl
set_option maxHeartbeats 4000000 in
set_option maxRecDepth 100000 in
/-- noPlace(z, p): 0 if p is a place of row z -/
theorem c_X3_noPlace (G : va_G) (tc : Nat → ClassId) (l : Launch) (ad : Nat → Nat) (N : Nat) (f : Nat → va_E) (s : SG) (hX : XI tc ad f s) (ho : okS s) (hN : 98 ≤ N) (z p : Int) (hz : inR z) (hp : inR p)   : Ct G tc l yX3_noPlace wsX3_noPlace { frames := 1, cells := 0, slots := 0, locals := 22 } 0 0 [.ref (ad (0)), .int (iI (z)), .int (iI (p))] ad N f (poI ad N (if 0 ≤ z ∧ z < (((cur s).2.2.2 : Nat) : Int) ∧ 0 ≤ p ∧ p < (((cur s).2.1 z.toNat : Nat) : Int) then 0 else 1) (fun f' => f' = f)) := by
  obtain ⟨h0, ⟨h1, h2, h3, h4⟩, hHis, hSlo, h40, hWds, hPr, hHd⟩ := id hX
  obtain ⟨⟨⟨a1, a2⟩, ⟨a3, a4⟩, ⟨a5, a6⟩, a7, a8, a9, a10⟩, o2, o3, o4, o5, o6⟩ := id ho
  refine stZ (by omega) (cc := cX3_noPlace) (maxL := 3) (lv := [(0, .ref (ad (0))), (1, .int (iI (z))), (2, .int (iI (p)))]) (by decide) rfl (Nat.le_of_ble_eq_true rfl) rfl (fun X C hret => ?_)
  have m0 : Cond.fieldLink RX3 10 "WordSamples" "now" "LWordSamples$State;" ∈ wsX3_noPlace := by decide +kernel
  have m1 : ∀ w ∈ wsX30, w ∈ wsX3_noPlace := by decide +kernel
  have m2 : Cond.fieldLink RX3 77 "WordSamples$State" "lengths" "[I" ∈ wsX3_noPlace := by decide +kernel
  have m3 : ∀ w ∈ wsX10, w ∈ wsX3_noPlace := by decide +kernel
  refine r_aload_n C dX3_noPlace_0 rfl rfl ?_
  refine r_iload_n C dX3_noPlace_1 rfl rfl ?_
  refine r_callV (As := [.int (iI (z))]) (rest := []) (na := 1) C (c_X3_noRow G tc l ad N f s hX ho hN z hz) gX3_noPlace_X3_noRow rfl rfl rfl (by decide +kernel) ⟨Nat.le_of_ble_eq_true rfl, Nat.le_of_ble_eq_true rfl⟩ (by omega) h0 (show vwCl[3]? = some (RX3, TX3, 11) from rfl) rfl rfl (by decide) dX3_noPlace_2 ⟨Nat.le_of_ble_eq_true rfl, Nat.le_of_ble_eq_true rfl⟩ (aft_I (fun f1 hF2 => ?_))
  rw [hF2]
  refine r_if_ne (tgt := 25) C ⟨by omega, by omega⟩ dX3_noPlace_5 (by decide) (fun b3 => ?_) (fun b3 => ?_)
  · refine r_iconst C ((1 : Nat) : Int) (by decide) dX3_noPlace_25 ?_
    refine r_goto (tgt := 30) C dX3_noPlace_26 (by decide) ?_
    exact hret f ((1 : Nat) : Int) _ _ dX3_noPlace_30 (by omega) rfl
  · refine r_iload_n C dX3_noPlace_8 rfl rfl ?_
    refine r_if_lt (tgt := 25) C ⟨by omega, by omega⟩ dX3_noPlace_9 (by decide) (fun b4 => ?_) (fun b4 => ?_)
    · refine r_iconst C ((1 : Nat) : Int) (by decide) dX3_noPlace_25 ?_
      refine r_goto (tgt := 30) C dX3_noPlace_26 (by decide) ?_
      exact hret f ((1 : Nat) : Int) _ _ dX3_noPlace_30 (by omega) rfl
    · refine r_iload_n C dX3_noPlace_12 rfl rfl ?_
      refine r_aload_n C dX3_noPlace_13 rfl rfl ?_
      refine r_get (v := .ref (ad (1))) C (by omega) h0 (show vwCl[3]? = some (RX3, TX3, 11) from rfl) m1 0 (by decide) m0 rfl rfl dX3_noPlace_14 ?_
      refine r_get (v := .ref (ad (3))) C (by omega) h1 (show vwCl[1]? = some (RX1, TX1, 4) from rfl) m3 1 (by decide) m2 rfl rfl dX3_noPlace_17 ?_
      have q1 := a9 z.toNat (by omega)
      refine r_iload_n C dX3_noPlace_20 rfl rfl ?_
      have q1 := a9 z.toNat (by omega)
      refine r_iald (x := (iI (((cur s).2.1 ((z).toNat) : Nat) : Int))) C (by omega) h3 ((z).toNat) (by omega) (by omega) (Nat.le_of_ble_eq_true rfl) (rfl) dX3_noPlace_21 ?_
      refine r_icmp_lt (tgt := 29) C ⟨by omega, by omega⟩ ⟨by omega, by omega⟩ dX3_noPlace_22 (by decide) (fun b5 => ?_) (fun b5 => ?_)
      · refine r_iconst C ((0 : Nat) : Int) (by decide) dX3_noPlace_29 ?_
        exact hret f ((0 : Nat) : Int) _ _ dX3_noPlace_30 (by omega) rfl
      · refine r_iconst C ((1 : Nat) : Int) (by decide) dX3_noPlace_25 ?_
        refine r_goto (tgt := 30) C dX3_noPlace_26 (by decide) ?_
        exact hret f ((1 : Nat) : Int) _ _ dX3_noPlace_30 (by omega) rfl
end XS1
