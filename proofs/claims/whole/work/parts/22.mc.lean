section MC1
theorem wri_rel (er : Nat → Nat → Nat) (r : Nat) {t t' : Int × Int × Int} (h : t'.1 = t.1 ∧ t'.2.1 = t.2.1 ∧ ((0 ≤ t'.2.2 ∧ t'.2.2 = t.2.2) ∨ (t'.2.2 = -1 ∧ t.1 = -6 ∧ t.2.1 = -6 ∧ t.2.2 = -6))) : ∀ d, (wri er r t' d).1 = (wri er r t d).1 ∧ (wri er r t' d).2.1 = (wri er r t d).2.1 ∧ ((0 ≤ (wri er r t' d).2.2 ∧ (wri er r t' d).2.2 = (wri er r t d).2.2) ∨ ((wri er r t' d).2.2 = -1 ∧ (wri er r t d).1 = -6 ∧ (wri er r t d).2.1 = -6 ∧ (wri er r t d).2.2 = -6))
  | 0 => h
  | d + 1 => by
    have ih := wri_rel er r h d
    by_cases q : (wri er r t d).2.2 < ((er r (r + 1 + d) : Nat) : Int)
    · rw [wri_new q, wri_new (by omega)]
      exact ⟨rfl, rfl, Or.inl ⟨by dsimp only; omega, rfl⟩⟩
    · rw [wri_old q, wri_old (by omega)]
      exact ih
theorem wro_rel (er : Nat → Nat → Nat) (R : Nat) : ∀ r, (wro er R (-6, -6, -1) r).1 = (wro er R (-6, -6, -6) r).1 ∧ (wro er R (-6, -6, -1) r).2.1 = (wro er R (-6, -6, -6) r).2.1 ∧ ((0 ≤ (wro er R (-6, -6, -1) r).2.2 ∧ (wro er R (-6, -6, -1) r).2.2 = (wro er R (-6, -6, -6) r).2.2) ∨ ((wro er R (-6, -6, -1) r).2.2 = -1 ∧ (wro er R (-6, -6, -6) r).1 = -6 ∧ (wro er R (-6, -6, -6) r).2.1 = -6 ∧ (wro er R (-6, -6, -6) r).2.2 = -6))
  | 0 => ⟨rfl, rfl, Or.inr ⟨rfl, rfl, rfl, rfl⟩⟩
  | r + 1 => wri_rel er r (wro_rel er R r) _
set_option maxHeartbeats 4000000 in
set_option maxRecDepth 100000 in
/-- share(p, w) -/
theorem c_X4_share (G : va_G) (tc : Nat → ClassId) (l : Launch) (ad : Nat → Nat) (N : Nat) (f : Nat → va_E) (p w : Nat) (hp : p ≤ 1000) (hw : w ≤ 1000)   : Ct G tc l yX4_share wsX4_share { frames := 0, cells := 0, slots := 0, locals := 0 } 0 0 [.int (iI ((p : Nat) : Int)), .int (iI ((w : Nat) : Int))] ad N f (poI ad N (((shd p w : Nat) : Int)) (fun f' => f' = f)) := by
  refine stI (cc := cX4_share) (maxL := 2) (lv := [(0, .int (iI ((p : Nat) : Int))), (1, .int (iI ((w : Nat) : Int)))]) (by decide) rfl (Nat.le_of_ble_eq_true rfl) rfl (fun X C hret => ?_)
  refine r_iload_n C dX4_share_0 rfl rfl ?_
  refine r_if_ne (tgt := 8) C ⟨by omega, by omega⟩ dX4_share_1 (by decide) (fun b1 => ?_) (fun b1 => ?_)
  · refine r_sipush C ((10000 : Nat) : Int) (by decide) dX4_share_8 ?_
    refine r_iload_n C dX4_share_11 rfl rfl ?_
    refine r_imul C ((p * 10000 : Nat) : Int) (by omega) dX4_share_12 ?_
    refine r_iload_n C dX4_share_13 rfl rfl ?_
    refine r_idiv C ((p * 10000 / w : Nat) : Int) (Int.natCast_ediv _ _).symm ⟨by omega, by omega⟩ (by omega) ⟨by omega, by omega⟩ (by omega) dX4_share_14 ?_
    exact hret f ((p * 10000 / w : Nat) : Int) _ _ dX4_share_15 (by unfold shd; rw [if_neg (by omega)]) rfl
  · refine r_iconst C ((0 : Nat) : Int) (by decide) dX4_share_4 ?_
    refine r_goto (tgt := 15) C dX4_share_5 (by decide) ?_
    exact hret f ((0 : Nat) : Int) _ _ dX4_share_15 (by unfold shd; rw [if_pos (by omega)]) rfl
set_option maxHeartbeats 4000000 in
set_option maxRecDepth 100000 in
/-- shareUp(p, w) -/
theorem c_X4_shareUp (G : va_G) (tc : Nat → ClassId) (l : Launch) (ad : Nat → Nat) (N : Nat) (f : Nat → va_E) (p w : Nat) (hp : p ≤ 1000) (hw : w ≤ 1000)   : Ct G tc l yX4_shareUp wsX4_shareUp { frames := 0, cells := 0, slots := 0, locals := 0 } 0 0 [.int (iI ((p : Nat) : Int)), .int (iI ((w : Nat) : Int))] ad N f (poI ad N (((shu p w : Nat) : Int)) (fun f' => f' = f)) := by
  refine stI (cc := cX4_shareUp) (maxL := 2) (lv := [(0, .int (iI ((p : Nat) : Int))), (1, .int (iI ((w : Nat) : Int)))]) (by decide) rfl (Nat.le_of_ble_eq_true rfl) rfl (fun X C hret => ?_)
  refine r_iload_n C dX4_shareUp_0 rfl rfl ?_
  refine r_if_ne (tgt := 8) C ⟨by omega, by omega⟩ dX4_shareUp_1 (by decide) (fun b1 => ?_) (fun b1 => ?_)
  · refine r_sipush C ((10000 : Nat) : Int) (by decide) dX4_shareUp_8 ?_
    refine r_iload_n C dX4_shareUp_11 rfl rfl ?_
    refine r_imul C ((p * 10000 : Nat) : Int) (by omega) dX4_shareUp_12 ?_
    refine r_iload_n C dX4_shareUp_13 rfl rfl ?_
    refine r_iadd C ((p * 10000 + w : Nat) : Int) (by omega) dX4_shareUp_14 ?_
    refine r_iconst C ((1 : Nat) : Int) (by decide) dX4_shareUp_15 ?_
    refine r_isub C ((p * 10000 + w - 1 : Nat) : Int) (by omega) dX4_shareUp_16 ?_
    refine r_iload_n C dX4_shareUp_17 rfl rfl ?_
    refine r_idiv C (((p * 10000 + w - 1) / w : Nat) : Int) (Int.natCast_ediv _ _).symm ⟨by omega, by omega⟩ (by omega) ⟨by omega, by omega⟩ (by omega) dX4_shareUp_18 ?_
    exact hret f (((p * 10000 + w - 1) / w : Nat) : Int) _ _ dX4_shareUp_19 (by unfold shu; rw [if_neg (by omega)]) rfl
  · refine r_iconst C ((0 : Nat) : Int) (by decide) dX4_shareUp_4 ?_
    refine r_goto (tgt := 19) C dX4_shareUp_5 (by decide) ?_
    exact hret f ((0 : Nat) : Int) _ _ dX4_shareUp_19 (by unfold shu; rw [if_pos (by omega)]) rfl
set_option maxHeartbeats 4000000 in
set_option maxRecDepth 100000 in
/-- either() -/
theorem c_X4_either (G : va_G) (tc : Nat → ClassId) (l : Launch) (ad : Nat → Nat) (N : Nat) (f : Nat → va_E) (kn pl : Nat) (a b : WW) (kp : Nat) (n : Nat → Int32) (ha64 : a.1 ≤ 64) (hb64 : b.1 ≤ 64) (he : bth a b ≤ a.1 ∧ bth a b ≤ b.1 ∧ eit a b + bth a b = a.1 + b.1) (hl : lcw a b kp ≤ a.1 ∧ lcw a b kp ≤ b.1 ∧ lcw a b kp ≤ cmw a b kp) (hm : mcw a b kp ≤ a.1 ∧ mcw a b kp ≤ b.1) (hN : 98 ≤ N) (hn0 : n 0 = iI ((a.1 : Nat) : Int)) (hn1 : n 1 = iI ((b.1 : Nat) : Int)) (q88 : f (88) = eO 4 [.ref (ad (89)), .ref (ad (90)), .int (iI ((kn : Nat) : Int)), .ref (ad (91)), .ref (ad (92)), .ref (ad (93)), .int (iI ((pl : Nat) : Int)), .ref (ad (94)), .ref (ad (95)), .ref (ad (96)), .ref (ad (97)), .int (iI ((cmw a b kp : Nat) : Int)), .int (iI ((lcw a b kp : Nat) : Int)), .int (iI ((bth a b : Nat) : Int)), .int (iI ((rst a b kp : Nat) : Int))]) (q97 : f (97) = eI tc 2 (n))  : Ct G tc l yX4_either wsX4_either { frames := 0, cells := 0, slots := 0, locals := 0 } 0 0 [.ref (ad (88))] ad N f (poI ad N (((eit a b : Nat) : Int)) (fun f' => f' = f)) := by
  refine stI (cc := cX4_either) (maxL := 1) (lv := [(0, .ref (ad (88)))]) (by decide) rfl (Nat.le_of_ble_eq_true rfl) rfl (fun X C hret => ?_)
  have m0 : Cond.fieldLink RX4 35 "WordSamplesModel" "words" "[I" ∈ wsX4_either := by decide +kernel
  have m1 : ∀ w ∈ wsX40, w ∈ wsX4_either := by decide +kernel
  have m2 : Cond.fieldLink RX4 108 "WordSamplesModel" "both" "I" ∈ wsX4_either := by decide +kernel
  refine r_aload_n C dX4_either_0 rfl rfl ?_
  refine r_get (v := .ref (ad (97))) C (by omega) q88 (show vwCl[4]? = some (RX4, TX4, 15) from rfl) m1 10 (by decide) m0 rfl rfl dX4_either_1 ?_
  refine r_iconst C ((0 : Nat) : Int) (by decide) dX4_either_4 ?_
  refine r_iald (x := (iI ((a.1 : Nat) : Int))) C (by omega) q97 (0) rfl (by omega) (Nat.le_of_ble_eq_true rfl) (hn0) dX4_either_5 ?_
  refine r_aload_n C dX4_either_6 rfl rfl ?_
  refine r_get (v := .ref (ad (97))) C (by omega) q88 (show vwCl[4]? = some (RX4, TX4, 15) from rfl) m1 10 (by decide) m0 rfl rfl dX4_either_7 ?_
  refine r_iconst C ((1 : Nat) : Int) (by decide) dX4_either_10 ?_
  refine r_iald (x := (iI ((b.1 : Nat) : Int))) C (by omega) q97 (1) rfl (by omega) (Nat.le_of_ble_eq_true rfl) (hn1) dX4_either_11 ?_
  refine r_iadd C ((a.1 + b.1 : Nat) : Int) (by omega) dX4_either_12 ?_
  refine r_aload_n C dX4_either_13 rfl rfl ?_
  refine r_get (v := .int (iI ((bth a b : Nat) : Int))) C (by omega) q88 (show vwCl[4]? = some (RX4, TX4, 15) from rfl) m1 13 (by decide) m2 rfl rfl dX4_either_14 ?_
  refine r_isub C ((eit a b : Nat) : Int) (by omega) dX4_either_17 ?_
  exact hret f ((eit a b : Nat) : Int) _ _ dX4_either_18 rfl rfl
set_option maxHeartbeats 4000000 in
set_option maxRecDepth 100000 in
/-- lower() -/
theorem c_X4_lower (G : va_G) (tc : Nat → ClassId) (l : Launch) (ad : Nat → Nat) (N : Nat) (f : Nat → va_E) (kn pl : Nat) (a b : WW) (kp : Nat) (n : Nat → Int32) (ha64 : a.1 ≤ 64) (hb64 : b.1 ≤ 64) (he : bth a b ≤ a.1 ∧ bth a b ≤ b.1 ∧ eit a b + bth a b = a.1 + b.1) (hl : lcw a b kp ≤ a.1 ∧ lcw a b kp ≤ b.1 ∧ lcw a b kp ≤ cmw a b kp) (hm : mcw a b kp ≤ a.1 ∧ mcw a b kp ≤ b.1) (hN : 98 ≤ N) (hn0 : n 0 = iI ((a.1 : Nat) : Int)) (hn1 : n 1 = iI ((b.1 : Nat) : Int)) (q88 : f (88) = eO 4 [.ref (ad (89)), .ref (ad (90)), .int (iI ((kn : Nat) : Int)), .ref (ad (91)), .ref (ad (92)), .ref (ad (93)), .int (iI ((pl : Nat) : Int)), .ref (ad (94)), .ref (ad (95)), .ref (ad (96)), .ref (ad (97)), .int (iI ((cmw a b kp : Nat) : Int)), .int (iI ((lcw a b kp : Nat) : Int)), .int (iI ((bth a b : Nat) : Int)), .int (iI ((rst a b kp : Nat) : Int))]) (q97 : f (97) = eI tc 2 (n))  : Ct G tc l yX4_lower wsX4_lower { frames := 1, cells := 0, slots := 0, locals := 21 } 0 0 [.ref (ad (88))] ad N f (poI ad N (((low a b kp : Nat) : Int)) (fun f' => f' = f)) := by
  refine stI (cc := cX4_lower) (maxL := 1) (lv := [(0, .ref (ad (88)))]) (by decide) rfl (Nat.le_of_ble_eq_true rfl) rfl (fun X C hret => ?_)
  have m0 : Cond.fieldLink RX4 102 "WordSamplesModel" "shared" "I" ∈ wsX4_lower := by decide +kernel
  have m1 : ∀ w ∈ wsX40, w ∈ wsX4_lower := by decide +kernel
  have m2 : Cond.fieldLink RX4 35 "WordSamplesModel" "words" "[I" ∈ wsX4_lower := by decide +kernel
  refine r_aload_n C dX4_lower_0 rfl rfl ?_
  refine r_get (v := .int (iI ((lcw a b kp : Nat) : Int))) C (by omega) q88 (show vwCl[4]? = some (RX4, TX4, 15) from rfl) m1 12 (by decide) m0 rfl rfl dX4_lower_1 ?_
  refine r_aload_n C dX4_lower_4 rfl rfl ?_
  refine r_get (v := .ref (ad (97))) C (by omega) q88 (show vwCl[4]? = some (RX4, TX4, 15) from rfl) m1 10 (by decide) m2 rfl rfl dX4_lower_5 ?_
  refine r_iconst C ((0 : Nat) : Int) (by decide) dX4_lower_8 ?_
  refine r_iald (x := (iI ((a.1 : Nat) : Int))) C (by omega) q97 (0) rfl (by omega) (Nat.le_of_ble_eq_true rfl) (hn0) dX4_lower_9 ?_
  refine r_aload_n C dX4_lower_10 rfl rfl ?_
  refine r_get (v := .ref (ad (97))) C (by omega) q88 (show vwCl[4]? = some (RX4, TX4, 15) from rfl) m1 10 (by decide) m2 rfl rfl dX4_lower_11 ?_
  refine r_iconst C ((1 : Nat) : Int) (by decide) dX4_lower_14 ?_
  refine r_iald (x := (iI ((b.1 : Nat) : Int))) C (by omega) q97 (1) rfl (by omega) (Nat.le_of_ble_eq_true rfl) (hn1) dX4_lower_15 ?_
  refine r_iadd C ((a.1 + b.1 : Nat) : Int) (by omega) dX4_lower_16 ?_
  refine r_aload_n C dX4_lower_17 rfl rfl ?_
  refine r_get (v := .int (iI ((lcw a b kp : Nat) : Int))) C (by omega) q88 (show vwCl[4]? = some (RX4, TX4, 15) from rfl) m1 12 (by decide) m0 rfl rfl dX4_lower_18 ?_
  refine r_isub C ((a.1 + b.1 - lcw a b kp : Nat) : Int) (by omega) dX4_lower_21 ?_
  refine r_callS (As := [.int (iI ((lcw a b kp : Nat) : Int)), .int (iI ((a.1 + b.1 - lcw a b kp : Nat) : Int))]) (rest := []) (na := 2) C (c_X4_share G tc l ad N _ (lcw a b kp) (a.1 + b.1 - lcw a b kp) (by omega) (by omega)) gX4_lower_X4_share rfl rfl rfl (by decide +kernel) ⟨Nat.le_of_ble_eq_true rfl, Nat.le_of_ble_eq_true rfl⟩ rfl rfl (Nat.le_of_ble_eq_true rfl) dX4_lower_22 ⟨Nat.le_of_ble_eq_true rfl, Nat.le_of_ble_eq_true rfl⟩ (aft_I (fun f1 hF2 => ?_))
  rw [hF2]
  exact hret f ((low a b kp : Nat) : Int) _ _ dX4_lower_25 rfl rfl
set_option maxHeartbeats 4000000 in
set_option maxRecDepth 100000 in
/-- upper() -/
theorem c_X4_upper (G : va_G) (tc : Nat → ClassId) (l : Launch) (ad : Nat → Nat) (N : Nat) (f : Nat → va_E) (kn pl : Nat) (a b : WW) (kp : Nat) (n : Nat → Int32) (ha64 : a.1 ≤ 64) (hb64 : b.1 ≤ 64) (he : bth a b ≤ a.1 ∧ bth a b ≤ b.1 ∧ eit a b + bth a b = a.1 + b.1) (hl : lcw a b kp ≤ a.1 ∧ lcw a b kp ≤ b.1 ∧ lcw a b kp ≤ cmw a b kp) (hm : mcw a b kp ≤ a.1 ∧ mcw a b kp ≤ b.1) (hN : 98 ≤ N) (hn0 : n 0 = iI ((a.1 : Nat) : Int)) (hn1 : n 1 = iI ((b.1 : Nat) : Int)) (q88 : f (88) = eO 4 [.ref (ad (89)), .ref (ad (90)), .int (iI ((kn : Nat) : Int)), .ref (ad (91)), .ref (ad (92)), .ref (ad (93)), .int (iI ((pl : Nat) : Int)), .ref (ad (94)), .ref (ad (95)), .ref (ad (96)), .ref (ad (97)), .int (iI ((cmw a b kp : Nat) : Int)), .int (iI ((lcw a b kp : Nat) : Int)), .int (iI ((bth a b : Nat) : Int)), .int (iI ((rst a b kp : Nat) : Int))]) (q97 : f (97) = eI tc 2 (n))  : Ct G tc l yX4_upper wsX4_upper { frames := 1, cells := 0, slots := 0, locals := 21 } 0 0 [.ref (ad (88))] ad N f (poI ad N (((upp a b kp : Nat) : Int)) (fun f' => f' = f)) := by
  have hmr := mcw_rst a b kp
  refine stI (cc := cX4_upper) (maxL := 1) (lv := [(0, .ref (ad (88)))]) (by decide) rfl (Nat.le_of_ble_eq_true rfl) rfl (fun X C hret => ?_)
  have m0 : Cond.fieldLink RX4 102 "WordSamplesModel" "shared" "I" ∈ wsX4_upper := by decide +kernel
  have m1 : ∀ w ∈ wsX40, w ∈ wsX4_upper := by decide +kernel
  have m2 : Cond.fieldLink RX4 105 "WordSamplesModel" "rest" "I" ∈ wsX4_upper := by decide +kernel
  have m3 : Cond.fieldLink RX4 35 "WordSamplesModel" "words" "[I" ∈ wsX4_upper := by decide +kernel
  refine r_aload_n C dX4_upper_0 rfl rfl ?_
  refine r_get (v := .int (iI ((lcw a b kp : Nat) : Int))) C (by omega) q88 (show vwCl[4]? = some (RX4, TX4, 15) from rfl) m1 12 (by decide) m0 rfl rfl dX4_upper_1 ?_
  refine r_aload_n C dX4_upper_4 rfl rfl ?_
  refine r_get (v := .int (iI ((rst a b kp : Nat) : Int))) C (by omega) q88 (show vwCl[4]? = some (RX4, TX4, 15) from rfl) m1 14 (by decide) m2 rfl rfl dX4_upper_5 ?_
  refine r_iadd C ((mcw a b kp : Nat) : Int) (by omega) dX4_upper_8 ?_
  refine r_aload_n C dX4_upper_9 rfl rfl ?_
  refine r_get (v := .ref (ad (97))) C (by omega) q88 (show vwCl[4]? = some (RX4, TX4, 15) from rfl) m1 10 (by decide) m3 rfl rfl dX4_upper_10 ?_
  refine r_iconst C ((0 : Nat) : Int) (by decide) dX4_upper_13 ?_
  refine r_iald (x := (iI ((a.1 : Nat) : Int))) C (by omega) q97 (0) rfl (by omega) (Nat.le_of_ble_eq_true rfl) (hn0) dX4_upper_14 ?_
  refine r_aload_n C dX4_upper_15 rfl rfl ?_
  refine r_get (v := .ref (ad (97))) C (by omega) q88 (show vwCl[4]? = some (RX4, TX4, 15) from rfl) m1 10 (by decide) m3 rfl rfl dX4_upper_16 ?_
  refine r_iconst C ((1 : Nat) : Int) (by decide) dX4_upper_19 ?_
  refine r_iald (x := (iI ((b.1 : Nat) : Int))) C (by omega) q97 (1) rfl (by omega) (Nat.le_of_ble_eq_true rfl) (hn1) dX4_upper_20 ?_
  refine r_iadd C ((a.1 + b.1 : Nat) : Int) (by omega) dX4_upper_21 ?_
  refine r_aload_n C dX4_upper_22 rfl rfl ?_
  refine r_get (v := .int (iI ((lcw a b kp : Nat) : Int))) C (by omega) q88 (show vwCl[4]? = some (RX4, TX4, 15) from rfl) m1 12 (by decide) m0 rfl rfl dX4_upper_23 ?_
  refine r_isub C ((a.1 + b.1 - lcw a b kp : Nat) : Int) (by omega) dX4_upper_26 ?_
  refine r_aload_n C dX4_upper_27 rfl rfl ?_
  refine r_get (v := .int (iI ((rst a b kp : Nat) : Int))) C (by omega) q88 (show vwCl[4]? = some (RX4, TX4, 15) from rfl) m1 14 (by decide) m2 rfl rfl dX4_upper_28 ?_
  refine r_isub C ((a.1 + b.1 - mcw a b kp : Nat) : Int) (by omega) dX4_upper_31 ?_
  refine r_callS (As := [.int (iI ((mcw a b kp : Nat) : Int)), .int (iI ((a.1 + b.1 - mcw a b kp : Nat) : Int))]) (rest := []) (na := 2) C (c_X4_shareUp G tc l ad N _ (mcw a b kp) (a.1 + b.1 - mcw a b kp) (by omega) (by omega)) gX4_upper_X4_shareUp rfl rfl rfl (by decide +kernel) ⟨Nat.le_of_ble_eq_true rfl, Nat.le_of_ble_eq_true rfl⟩ rfl rfl (Nat.le_of_ble_eq_true rfl) dX4_upper_32 ⟨Nat.le_of_ble_eq_true rfl, Nat.le_of_ble_eq_true rfl⟩ (aft_I (fun f1 hF2 => ?_))
  rw [hF2]
  exact hret f ((upp a b kp : Nat) : Int) _ _ dX4_upper_35 rfl rfl
set_option maxHeartbeats 4000000 in
set_option maxRecDepth 100000 in
/-- sampled(0) -/
theorem c_X4_sampled (G : va_G) (tc : Nat → ClassId) (l : Launch) (ad : Nat → Nat) (N : Nat) (f : Nat → va_E) (s : SG) (hM : MI tc ad f s) (ho : okS s) (hN : 98 ≤ N) (r : Nat) (hr : r < 10) (n : Nat → Int32) (h97 : f 97 = eI tc 2 n) (hn0 : n 0 = iI (((wds (cur s) r).1 : Nat) : Int))   : Ct G tc l yX4_sampled wsX4_sampled { frames := 0, cells := 0, slots := 0, locals := 0 } 0 0 [.ref (ad (88)), .int (iI ((0 : Nat) : Int))] ad N f (poI ad N (((smp (cur s) r : Nat) : Int)) (fun f' => f' = f)) := by
  obtain ⟨⟨x1, x2, x3, x4, m88⟩, m89', ⟨bb, m90, hbb⟩, ⟨sb, m91, hsb⟩, ⟨ig, m92, hig⟩, m93, ⟨wc, wv, wo, wn, m94, m95, m96, m97⟩⟩ := id hM
  have m89 : f 89 = eI tc 655 (fun j => iI ((nwF ((cur s).1, (cur s).2.1, (cur s).2.2.1, (cur s).2.2.2) j : Nat) : Int)) := m89'
  obtain ⟨⟨⟨a1, a2⟩, ⟨a3, a4⟩, ⟨a5, a6⟩, a7, a8, a9, a10⟩, o2, o3, o4, o5, o6⟩ := id ho
  refine stI (cc := cX4_sampled) (maxL := 2) (lv := [(0, .ref (ad (88))), (1, .int (iI ((0 : Nat) : Int)))]) (by decide) rfl (Nat.le_of_ble_eq_true rfl) rfl (fun X C hret => ?_)
  have m0 : Cond.fieldLink RX4 35 "WordSamplesModel" "words" "[I" ∈ wsX4_sampled := by decide +kernel
  have m1 : ∀ w ∈ wsX40, w ∈ wsX4_sampled := by decide +kernel
  have m2 : Cond.fieldLink RX4 7 "WordSamplesModel" "now" "[I" ∈ wsX4_sampled := by decide +kernel
  have q64 := wds_le ho.1 hr
  refine r_aload_n C dX4_sampled_0 rfl rfl ?_
  refine r_get (v := .ref (ad (97))) C (by omega) m88 (show vwCl[4]? = some (RX4, TX4, 15) from rfl) m1 10 (by decide) m0 rfl rfl dX4_sampled_1 ?_
  refine r_iload_n C dX4_sampled_4 rfl rfl ?_
  refine r_iald (x := (iI (((wds (cur s) r).1 : Nat) : Int))) C (by omega) h97 (0) rfl (by omega) (Nat.le_of_ble_eq_true rfl) (hn0) dX4_sampled_5 ?_
  refine r_aload_n C dX4_sampled_6 rfl rfl ?_
  refine r_get (v := .ref (ad (89))) C (by omega) m88 (show vwCl[4]? = some (RX4, TX4, 15) from rfl) m1 0 (by decide) m2 rfl rfl dX4_sampled_7 ?_
  refine r_iconst C ((1 : Nat) : Int) (by decide) dX4_sampled_10 ?_
  refine r_iald (x := (iI (((cur s).1 1 : Nat) : Int))) C (by omega) m89 (1) rfl (by omega) (Nat.le_of_ble_eq_true rfl) (rfl) dX4_sampled_11 ?_
  refine r_icmp_ge (tgt := 24) C ⟨by omega, by omega⟩ ⟨by omega, by omega⟩ dX4_sampled_12 (by decide) (fun b1 => ?_) (fun b1 => ?_)
  · refine r_aload_n C dX4_sampled_24 rfl rfl ?_
    refine r_get (v := .ref (ad (89))) C (by omega) m88 (show vwCl[4]? = some (RX4, TX4, 15) from rfl) m1 0 (by decide) m2 rfl rfl dX4_sampled_25 ?_
    refine r_iconst C ((1 : Nat) : Int) (by decide) dX4_sampled_28 ?_
    refine r_iald (x := (iI (((cur s).1 1 : Nat) : Int))) C (by omega) m89 (1) rfl (by omega) (Nat.le_of_ble_eq_true rfl) (rfl) dX4_sampled_29 ?_
    exact hret f (((cur s).1 1 : Nat) : Int) _ _ dX4_sampled_30 (by unfold smp; omega) rfl
  · refine r_aload_n C dX4_sampled_15 rfl rfl ?_
    refine r_get (v := .ref (ad (97))) C (by omega) m88 (show vwCl[4]? = some (RX4, TX4, 15) from rfl) m1 10 (by decide) m0 rfl rfl dX4_sampled_16 ?_
    refine r_iload_n C dX4_sampled_19 rfl rfl ?_
    refine r_iald (x := (iI (((wds (cur s) r).1 : Nat) : Int))) C (by omega) h97 (0) rfl (by omega) (Nat.le_of_ble_eq_true rfl) (hn0) dX4_sampled_20 ?_
    refine r_goto (tgt := 30) C dX4_sampled_21 (by decide) ?_
    exact hret f (((wds (cur s) r).1 : Nat) : Int) _ _ dX4_sampled_30 (by unfold smp; omega) rfl
set_option maxHeartbeats 4000000 in
set_option maxRecDepth 100000 in
/-- ofRow -/
theorem c_X4_ofRow (G : va_G) (tc : Nat → ClassId) (l : Launch) (ad : Nat → Nat) (N : Nat) (f : Nat → va_E) (s : SG) (hM : MI tc ad f s) (ho : okS s) (hN : 98 ≤ N) (z w : Int) (hz : inR z) (hw : inR w)   : Ct G tc l yX4_ofRow wsX4_ofRow { frames := 3, cells := 0, slots := 0, locals := 70 } 0 0 [.ref (ad (88)), .int (iI (z)), .int (iI (w))] ad N f (poI ad N (aOfr s z w) (fun f' => MI tc ad f' s ∧ ∀ q, (q < 88 ∨ 98 ≤ q) → f' q = f q)) := by
  obtain ⟨⟨x1, x2, x3, x4, m88⟩, m89', ⟨bb, m90, hbb⟩, ⟨sb, m91, hsb⟩, ⟨ig, m92, hig⟩, m93, ⟨wc, wv, wo, wn, m94, m95, m96, m97⟩⟩ := id hM
  have m89 : f 89 = eI tc 655 (fun j => iI ((nwF ((cur s).1, (cur s).2.1, (cur s).2.2.1, (cur s).2.2.2) j : Nat) : Int)) := m89'
  obtain ⟨⟨⟨a1, a2⟩, ⟨a3, a4⟩, ⟨a5, a6⟩, a7, a8, a9, a10⟩, o2, o3, o4, o5, o6⟩ := id ho
  refine stI (cc := cX4_ofRow) (maxL := 3) (lv := [(0, .ref (ad (88))), (1, .int (iI (z))), (2, .int (iI (w)))]) (by decide) rfl (Nat.le_of_ble_eq_true rfl) rfl (fun X C hret => ?_)
  have m0 : Cond.fieldLink RX4 7 "WordSamplesModel" "now" "[I" ∈ wsX4_ofRow := by decide +kernel
  have m1 : ∀ w ∈ wsX40, w ∈ wsX4_ofRow := by decide +kernel
  have m2 : Cond.fieldLink RX4 35 "WordSamplesModel" "words" "[I" ∈ wsX4_ofRow := by decide +kernel
  have m3 : Cond.fieldLink RX4 29 "WordSamplesModel" "values" "[I" ∈ wsX4_ofRow := by decide +kernel
  refine r_aload_n C dX4_ofRow_0 rfl rfl ?_
  refine r_iload_n C dX4_ofRow_1 rfl rfl ?_
  refine r_callV (As := [.int (iI (z))]) (rest := []) (na := 1) C (c_X4_isRow G tc l ad N _ s hM ho hN z hz) gX4_ofRow_X4_isRow rfl rfl rfl (by decide +kernel) ⟨Nat.le_of_ble_eq_true rfl, Nat.le_of_ble_eq_true rfl⟩ (by omega) m88 (show vwCl[4]? = some (RX4, TX4, 15) from rfl) rfl rfl (Nat.le_of_ble_eq_true rfl) dX4_ofRow_2 ⟨Nat.le_of_ble_eq_true rfl, Nat.le_of_ble_eq_true rfl⟩ (aft_I (fun f1 hF2 => ?_))
  rw [hF2]
  refine r_if_ne (tgt := 10) C ⟨by omega, by omega⟩ dX4_ofRow_5 (by decide) (fun b3 => ?_) (fun b3 => ?_)
  · refine r_aload_n C dX4_ofRow_10 rfl rfl ?_
    refine r_iconst C ((0 : Nat) : Int) (by decide) dX4_ofRow_11 ?_
    refine r_iload_n C dX4_ofRow_12 rfl rfl ?_
    rw [show (.int (iI (z)) : Value) = .int (iI ((z.toNat : Nat) : Int)) from by rw [Int.toNat_of_nonneg (by omega)]]
    refine r_callV (As := [.int (iI ((0 : Nat) : Int)), .int (iI ((z.toNat : Nat) : Int))]) (rest := []) (na := 2) C (c_X4_find G tc l ad N _ s hM ho hN _ _ _ _ m94 m95 m96 m97 0 (by omega) z.toNat (by omega)) gX4_ofRow_X4_find rfl rfl rfl (by decide +kernel) ⟨Nat.le_of_ble_eq_true rfl, Nat.le_of_ble_eq_true rfl⟩ (by omega) m88 (show vwCl[4]? = some (RX4, TX4, 15) from rfl) rfl rfl (Nat.le_of_ble_eq_true rfl) dX4_ofRow_13 ⟨Nat.le_of_ble_eq_true rfl, Nat.le_of_ble_eq_true rfl⟩ (aft_V (fun f14 hF15 => ?_))
    obtain ⟨⟨c4, v5, o6, n7, k8, k9, k10, k11, hW12, -⟩, ow13⟩ := hF15
    have hVhW12 := mw_v0 hW12
    have hChW12 := mw_c0 hW12
    have hThW12 := mw_o0 hW12
    have hqhW12 := wds_le ho.1 (r := z.toNat) (by omega)
    have qsm := smp_le (cur s) z.toNat
    have qsk : smp (cur s) z.toNat = min (wds (cur s) z.toNat).1 ((cur s).1 1) := rfl
    refine r_iload_n C dX4_ofRow_16 rfl rfl ?_
    by_cases s16 : (w) = 0
    · refine r_tin (tgt := 48) C ⟨by omega, by omega⟩ dX4_ofRow_17 (by omega) (by omega) (by rw [s16]; rfl) (by decide) ?_
      refine r_aload_n C dX4_ofRow_48 rfl rfl ?_
      have c17 : f14 (88) = eO 4 [.ref (ad (89)), .ref (ad (90)), .int (iI ((kno s : Nat) : Int)), .ref (ad (91)), .ref (ad (92)), .ref (ad (93)), .int (iI ((pln s : Nat) : Int)), .ref (ad (94)), .ref (ad (95)), .ref (ad (96)), .ref (ad (97)), .int (x1), .int (x2), .int (x3), .int (x4)] := (ow13 _ (by omega)).trans m88
      refine r_get (v := .ref (ad (89))) C (by omega) c17 (show vwCl[4]? = some (RX4, TX4, 15) from rfl) m1 0 (by decide) m0 rfl rfl dX4_ofRow_49 ?_
      refine r_iconst C ((5 : Nat) : Int) (by decide) dX4_ofRow_52 ?_
      refine r_iload_n C dX4_ofRow_53 rfl rfl ?_
      refine r_iadd C ((5 + z.toNat : Nat) : Int) (by omega) dX4_ofRow_54 ?_
      have c18 : f14 (89) = eI tc 655 (fun j => iI ((nwF ((cur s).1, (cur s).2.1, (cur s).2.2.1, (cur s).2.2.2) j : Nat) : Int)) := (ow13 _ (by omega)).trans m89
      refine r_iald (x := (iI (((cur s).2.1 z.toNat : Nat) : Int))) C (by omega) c18 (5 + z.toNat) rfl (by omega) (Nat.le_of_ble_eq_true rfl) (congrArg (fun q : Nat => iI ((q : Nat) : Int)) (nwL (by omega))) dX4_ofRow_55 ?_
      have hMi19 : MI tc ad f14 s := M_re hM c17 k8 k9 k10 k11 (fun q g1 g2 => (ow13 _ (by omega)))
      exact hret f14 (((cur s).2.1 z.toNat : Nat) : Int) _ _ dX4_ofRow_56 (by unfold aOfr; rw [if_pos (by omega), if_pos (by omega)]) (⟨hMi19, fun q hq => (ow13 _ (by omega))⟩)
    by_cases s20 : (w) = 1
    · refine r_tin (tgt := 57) C ⟨by omega, by omega⟩ dX4_ofRow_17 (by omega) (by omega) (by rw [s20]; rfl) (by decide) ?_
      refine r_aload_n C dX4_ofRow_57 rfl rfl ?_
      have c21 : f14 (88) = eO 4 [.ref (ad (89)), .ref (ad (90)), .int (iI ((kno s : Nat) : Int)), .ref (ad (91)), .ref (ad (92)), .ref (ad (93)), .int (iI ((pln s : Nat) : Int)), .ref (ad (94)), .ref (ad (95)), .ref (ad (96)), .ref (ad (97)), .int (x1), .int (x2), .int (x3), .int (x4)] := (ow13 _ (by omega)).trans m88
      refine r_get (v := .ref (ad (97))) C (by omega) c21 (show vwCl[4]? = some (RX4, TX4, 15) from rfl) m1 10 (by decide) m2 rfl rfl dX4_ofRow_58 ?_
      refine r_iconst C ((0 : Nat) : Int) (by decide) dX4_ofRow_61 ?_
      refine r_iald (x := (iI (((wds (cur s) z.toNat).1 : Nat) : Int))) C (by omega) k11 (0) rfl (by omega) (Nat.le_of_ble_eq_true rfl) (hW12.1) dX4_ofRow_62 ?_
      have hMi22 : MI tc ad f14 s := M_re hM c21 k8 k9 k10 k11 (fun q g1 g2 => (ow13 _ (by omega)))
      exact hret f14 (((wds (cur s) z.toNat).1 : Nat) : Int) _ _ dX4_ofRow_63 (by unfold aOfr; rw [if_pos (by omega), if_neg (by omega), if_pos (by omega)]) (⟨hMi22, fun q hq => (ow13 _ (by omega))⟩)
    by_cases s23 : (w) = 2
    · refine r_tin (tgt := 64) C ⟨by omega, by omega⟩ dX4_ofRow_17 (by omega) (by omega) (by rw [s23]; rfl) (by decide) ?_
      refine r_aload_n C dX4_ofRow_64 rfl rfl ?_
      refine r_iconst C ((0 : Nat) : Int) (by decide) dX4_ofRow_65 ?_
      have c24 : f14 (88) = eO 4 [.ref (ad (89)), .ref (ad (90)), .int (iI ((kno s : Nat) : Int)), .ref (ad (91)), .ref (ad (92)), .ref (ad (93)), .int (iI ((pln s : Nat) : Int)), .ref (ad (94)), .ref (ad (95)), .ref (ad (96)), .ref (ad (97)), .int (x1), .int (x2), .int (x3), .int (x4)] := (ow13 _ (by omega)).trans m88
      have hMi25 : MI tc ad f14 s := M_re hM c24 k8 k9 k10 k11 (fun q g1 g2 => (ow13 _ (by omega)))
      refine r_callV (As := [.int (iI ((0 : Nat) : Int))]) (rest := []) (na := 1) C (c_X4_sampled G tc l ad N _ s hMi25 ho hN z.toNat (by omega) _ k11 hW12.1) gX4_ofRow_X4_sampled rfl rfl rfl (by decide +kernel) ⟨Nat.le_of_ble_eq_true rfl, Nat.le_of_ble_eq_true rfl⟩ (by omega) c24 (show vwCl[4]? = some (RX4, TX4, 15) from rfl) rfl rfl (Nat.le_of_ble_eq_true rfl) dX4_ofRow_66 ⟨Nat.le_of_ble_eq_true rfl, Nat.le_of_ble_eq_true rfl⟩ (aft_I (fun f26 hF27 => ?_))
      rw [hF27]
      exact hret f14 ((smp (cur s) z.toNat : Nat) : Int) _ _ dX4_ofRow_69 (by unfold aOfr; rw [if_pos (by omega), if_neg (by omega), if_neg (by omega), if_pos (by omega)]) (⟨hMi25, fun q hq => (ow13 _ (by omega))⟩)
    by_cases s28 : (w) = 3
    · refine r_tin (tgt := 70) C ⟨by omega, by omega⟩ dX4_ofRow_17 (by omega) (by omega) (by rw [s28]; rfl) (by decide) ?_
      refine r_aload_n C dX4_ofRow_70 rfl rfl ?_
      have c29 : f14 (88) = eO 4 [.ref (ad (89)), .ref (ad (90)), .int (iI ((kno s : Nat) : Int)), .ref (ad (91)), .ref (ad (92)), .ref (ad (93)), .int (iI ((pln s : Nat) : Int)), .ref (ad (94)), .ref (ad (95)), .ref (ad (96)), .ref (ad (97)), .int (x1), .int (x2), .int (x3), .int (x4)] := (ow13 _ (by omega)).trans m88
      refine r_get (v := .ref (ad (97))) C (by omega) c29 (show vwCl[4]? = some (RX4, TX4, 15) from rfl) m1 10 (by decide) m2 rfl rfl dX4_ofRow_71 ?_
      refine r_iconst C ((0 : Nat) : Int) (by decide) dX4_ofRow_74 ?_
      refine r_iald (x := (iI (((wds (cur s) z.toNat).1 : Nat) : Int))) C (by omega) k11 (0) rfl (by omega) (Nat.le_of_ble_eq_true rfl) (hW12.1) dX4_ofRow_75 ?_
      refine r_if_ne (tgt := 84) C ⟨by omega, by omega⟩ dX4_ofRow_76 (by decide) (fun b30 => ?_) (fun b30 => ?_)
      · refine r_aload_n C dX4_ofRow_84 rfl rfl ?_
        refine r_get (v := .ref (ad (95))) C (by omega) c29 (show vwCl[4]? = some (RX4, TX4, 15) from rfl) m1 8 (by decide) m3 rfl rfl dX4_ofRow_85 ?_
        refine r_aload_n C dX4_ofRow_88 rfl rfl ?_
        refine r_iconst C ((0 : Nat) : Int) (by decide) dX4_ofRow_89 ?_
        have hMi31 : MI tc ad f14 s := M_re hM c29 k8 k9 k10 k11 (fun q g1 g2 => (ow13 _ (by omega)))
        refine r_callV (As := [.int (iI ((0 : Nat) : Int))]) (rest := [.ref (ad (95))]) (na := 1) C (c_X4_sampled G tc l ad N _ s hMi31 ho hN z.toNat (by omega) _ k11 hW12.1) gX4_ofRow_X4_sampled rfl rfl rfl (by decide +kernel) ⟨Nat.le_of_ble_eq_true rfl, Nat.le_of_ble_eq_true rfl⟩ (by omega) c29 (show vwCl[4]? = some (RX4, TX4, 15) from rfl) rfl rfl (Nat.le_of_ble_eq_true rfl) dX4_ofRow_90 ⟨Nat.le_of_ble_eq_true rfl, Nat.le_of_ble_eq_true rfl⟩ (aft_I (fun f32 hF33 => ?_))
        rw [hF33]
        refine r_iconst C ((1 : Nat) : Int) (by decide) dX4_ofRow_93 ?_
        refine r_isub C ((smp (cur s) z.toNat - 1 : Nat) : Int) (by omega) dX4_ofRow_94 ?_
        refine r_iald (x := (iI (((wds (cur s) z.toNat).2.1 (smp (cur s) z.toNat - 1) : Nat) : Int))) C (by omega) k9 (smp (cur s) z.toNat - 1) rfl (by omega) (Nat.le_of_ble_eq_true rfl) (hVhW12 _ (by omega)) dX4_ofRow_95 ?_
        exact hret f14 (((wds (cur s) z.toNat).2.1 (smp (cur s) z.toNat - 1) : Nat) : Int) _ _ dX4_ofRow_96 (by unfold aOfr; rw [if_pos (by omega), if_neg (by omega), if_neg (by omega), if_neg (by omega), if_pos (by omega), grt, if_neg (by omega)]) (⟨hMi31, fun q hq => (ow13 _ (by omega))⟩)
      · refine r_bipush C ((-6)) (by decide) dX4_ofRow_79 ?_
        refine r_goto (tgt := 96) C dX4_ofRow_81 (by decide) ?_
        have hMi34 : MI tc ad f14 s := M_re hM c29 k8 k9 k10 k11 (fun q g1 g2 => (ow13 _ (by omega)))
        exact hret f14 ((-6)) _ _ dX4_ofRow_96 (by unfold aOfr; rw [if_pos (by omega), if_neg (by omega), if_neg (by omega), if_neg (by omega), if_pos (by omega), grt, if_pos (by omega)]) (⟨hMi34, fun q hq => (ow13 _ (by omega))⟩)
    refine r_tout (tgt := 97) C ⟨by omega, by omega⟩ dX4_ofRow_17 (by omega) (by decide) ?_
    refine r_bipush C ((-2)) (by decide) dX4_ofRow_97 ?_
    have c35 : f14 (88) = eO 4 [.ref (ad (89)), .ref (ad (90)), .int (iI ((kno s : Nat) : Int)), .ref (ad (91)), .ref (ad (92)), .ref (ad (93)), .int (iI ((pln s : Nat) : Int)), .ref (ad (94)), .ref (ad (95)), .ref (ad (96)), .ref (ad (97)), .int (x1), .int (x2), .int (x3), .int (x4)] := (ow13 _ (by omega)).trans m88
    have hMi36 : MI tc ad f14 s := M_re hM c35 k8 k9 k10 k11 (fun q g1 g2 => (ow13 _ (by omega)))
    exact hret f14 ((-2)) _ _ dX4_ofRow_99 (by unfold aOfr; rw [if_pos (by omega), if_neg (by omega), if_neg (by omega), if_neg (by omega), if_neg (by omega)]) (⟨hMi36, fun q hq => (ow13 _ (by omega))⟩)
  · refine r_iconst C ((-1)) (by decide) dX4_ofRow_8 ?_
    exact hret f ((-1)) _ _ dX4_ofRow_9 (by unfold aOfr; rw [if_neg (by omega)]) (⟨hM, fun _ _ => rfl⟩)
set_option maxHeartbeats 4000000 in
set_option maxRecDepth 100000 in
/-- sample -/
theorem c_X4_sample (G : va_G) (tc : Nat → ClassId) (l : Launch) (ad : Nat → Nat) (N : Nat) (f : Nat → va_E) (s : SG) (hM : MI tc ad f s) (ho : okS s) (hN : 98 ≤ N) (z p w : Int) (hz : inR z) (hp : inR p) (hw : inR w)   : Ct G tc l yX4_sample wsX4_sample { frames := 3, cells := 0, slots := 0, locals := 70 } 0 0 [.ref (ad (88)), .int (iI (z)), .int (iI (p)), .int (iI (w))] ad N f (poI ad N (aSmp s z p w) (fun f' => MI tc ad f' s ∧ ∀ q, (q < 88 ∨ 98 ≤ q) → f' q = f q)) := by
  obtain ⟨⟨x1, x2, x3, x4, m88⟩, m89', ⟨bb, m90, hbb⟩, ⟨sb, m91, hsb⟩, ⟨ig, m92, hig⟩, m93, ⟨wc, wv, wo, wn, m94, m95, m96, m97⟩⟩ := id hM
  have m89 : f 89 = eI tc 655 (fun j => iI ((nwF ((cur s).1, (cur s).2.1, (cur s).2.2.1, (cur s).2.2.2) j : Nat) : Int)) := m89'
  obtain ⟨⟨⟨a1, a2⟩, ⟨a3, a4⟩, ⟨a5, a6⟩, a7, a8, a9, a10⟩, o2, o3, o4, o5, o6⟩ := id ho
  refine stI (cc := cX4_sample) (maxL := 4) (lv := [(0, .ref (ad (88))), (1, .int (iI (z))), (2, .int (iI (p))), (3, .int (iI (w)))]) (by decide) rfl (Nat.le_of_ble_eq_true rfl) rfl (fun X C hret => ?_)
  have m0 : Cond.fieldLink RX4 29 "WordSamplesModel" "values" "[I" ∈ wsX4_sample := by decide +kernel
  have m1 : ∀ w ∈ wsX40, w ∈ wsX4_sample := by decide +kernel
  have m2 : Cond.fieldLink RX4 26 "WordSamplesModel" "codes" "[I" ∈ wsX4_sample := by decide +kernel
  have m3 : Cond.fieldLink RX4 32 "WordSamplesModel" "often" "[I" ∈ wsX4_sample := by decide +kernel
  refine r_aload_n C dX4_sample_0 rfl rfl ?_
  refine r_iload_n C dX4_sample_1 rfl rfl ?_
  refine r_callV (As := [.int (iI (z))]) (rest := []) (na := 1) C (c_X4_isRow G tc l ad N _ s hM ho hN z hz) gX4_sample_X4_isRow rfl rfl rfl (by decide +kernel) ⟨Nat.le_of_ble_eq_true rfl, Nat.le_of_ble_eq_true rfl⟩ (by omega) m88 (show vwCl[4]? = some (RX4, TX4, 15) from rfl) rfl rfl (Nat.le_of_ble_eq_true rfl) dX4_sample_2 ⟨Nat.le_of_ble_eq_true rfl, Nat.le_of_ble_eq_true rfl⟩ (aft_I (fun f1 hF2 => ?_))
  rw [hF2]
  refine r_if_ne (tgt := 10) C ⟨by omega, by omega⟩ dX4_sample_5 (by decide) (fun b3 => ?_) (fun b3 => ?_)
  · refine r_aload_n C dX4_sample_10 rfl rfl ?_
    refine r_iconst C ((0 : Nat) : Int) (by decide) dX4_sample_11 ?_
    refine r_iload_n C dX4_sample_12 rfl rfl ?_
    rw [show (.int (iI (z)) : Value) = .int (iI ((z.toNat : Nat) : Int)) from by rw [Int.toNat_of_nonneg (by omega)]]
    refine r_callV (As := [.int (iI ((0 : Nat) : Int)), .int (iI ((z.toNat : Nat) : Int))]) (rest := []) (na := 2) C (c_X4_find G tc l ad N _ s hM ho hN _ _ _ _ m94 m95 m96 m97 0 (by omega) z.toNat (by omega)) gX4_sample_X4_find rfl rfl rfl (by decide +kernel) ⟨Nat.le_of_ble_eq_true rfl, Nat.le_of_ble_eq_true rfl⟩ (by omega) m88 (show vwCl[4]? = some (RX4, TX4, 15) from rfl) rfl rfl (Nat.le_of_ble_eq_true rfl) dX4_sample_13 ⟨Nat.le_of_ble_eq_true rfl, Nat.le_of_ble_eq_true rfl⟩ (aft_V (fun f14 hF15 => ?_))
    obtain ⟨⟨c4, v5, o6, n7, k8, k9, k10, k11, hW12, -⟩, ow13⟩ := hF15
    have hVhW12 := mw_v0 hW12
    have hChW12 := mw_c0 hW12
    have hThW12 := mw_o0 hW12
    have hqhW12 := wds_le ho.1 (r := z.toNat) (by omega)
    have qsm := smp_le (cur s) z.toNat
    refine r_iload_n C dX4_sample_16 rfl rfl ?_
    refine r_iconst C ((0 : Nat) : Int) (by decide) dX4_sample_17 ?_
    refine r_aload_n C dX4_sample_18 rfl rfl ?_
    refine r_iconst C ((0 : Nat) : Int) (by decide) dX4_sample_19 ?_
    have c16 : f14 (88) = eO 4 [.ref (ad (89)), .ref (ad (90)), .int (iI ((kno s : Nat) : Int)), .ref (ad (91)), .ref (ad (92)), .ref (ad (93)), .int (iI ((pln s : Nat) : Int)), .ref (ad (94)), .ref (ad (95)), .ref (ad (96)), .ref (ad (97)), .int (x1), .int (x2), .int (x3), .int (x4)] := (ow13 _ (by omega)).trans m88
    have hMi17 : MI tc ad f14 s := M_re hM c16 k8 k9 k10 k11 (fun q g1 g2 => (ow13 _ (by omega)))
    refine r_callV (As := [.int (iI ((0 : Nat) : Int))]) (rest := [.int (iI ((0 : Nat) : Int)), .int (iI (p))]) (na := 1) C (c_X4_sampled G tc l ad N _ s hMi17 ho hN z.toNat (by omega) _ k11 hW12.1) gX4_sample_X4_sampled rfl rfl rfl (by decide +kernel) ⟨Nat.le_of_ble_eq_true rfl, Nat.le_of_ble_eq_true rfl⟩ (by omega) c16 (show vwCl[4]? = some (RX4, TX4, 15) from rfl) rfl rfl (Nat.le_of_ble_eq_true rfl) dX4_sample_20 ⟨Nat.le_of_ble_eq_true rfl, Nat.le_of_ble_eq_true rfl⟩ (aft_I (fun f18 hF19 => ?_))
    rw [hF19]
    refine r_iconst C ((1 : Nat) : Int) (by decide) dX4_sample_23 ?_
    refine r_isub C (((smp (cur s) z.toNat : Nat) : Int) - ((1 : Nat) : Int)) rfl dX4_sample_24 ?_
    refine r_callS (As := [.int (iI (p)), .int (iI ((0 : Nat) : Int)), .int (iI (((smp (cur s) z.toNat : Nat) : Int) - ((1 : Nat) : Int)))]) (rest := []) (na := 3) C (c_X4_in G tc l ad N _ (p) ((0 : Nat) : Int) (((smp (cur s) z.toNat : Nat) : Int) - ((1 : Nat) : Int)) ⟨by omega, by omega⟩ ⟨by omega, by omega⟩ ⟨by omega, by omega⟩) gX4_sample_X4_in rfl rfl rfl (by decide +kernel) ⟨Nat.le_of_ble_eq_true rfl, Nat.le_of_ble_eq_true rfl⟩ rfl rfl (Nat.le_of_ble_eq_true rfl) dX4_sample_25 ⟨Nat.le_of_ble_eq_true rfl, Nat.le_of_ble_eq_true rfl⟩ (aft_I (fun f20 hF21 => ?_))
    rw [hF21]
    refine r_if_ne (tgt := 33) C ⟨by omega, by omega⟩ dX4_sample_28 (by decide) (fun b22 => ?_) (fun b22 => ?_)
    · refine r_iload_n C dX4_sample_33 rfl rfl ?_
      by_cases s23 : (w) = 0
      · refine r_tin (tgt := 60) C ⟨by omega, by omega⟩ dX4_sample_34 (by omega) (by omega) (by rw [s23]; rfl) (by decide) ?_
        refine r_aload_n C dX4_sample_60 rfl rfl ?_
        refine r_get (v := .ref (ad (95))) C (by omega) c16 (show vwCl[4]? = some (RX4, TX4, 15) from rfl) m1 8 (by decide) m0 rfl rfl dX4_sample_61 ?_
        refine r_iload_n C dX4_sample_64 rfl rfl ?_
        refine r_iald (x := (iI (((wds (cur s) z.toNat).2.1 p.toNat : Nat) : Int))) C (by omega) k9 (p.toNat) (by omega) (by omega) (Nat.le_of_ble_eq_true rfl) (hVhW12 _ (by omega)) dX4_sample_65 ?_
        exact hret f14 (((wds (cur s) z.toNat).2.1 p.toNat : Nat) : Int) _ _ dX4_sample_66 (by unfold aSmp; rw [if_pos (by omega), if_pos (by omega)]) (⟨hMi17, fun q hq => (ow13 _ (by omega))⟩)
      by_cases s24 : (w) = 1
      · refine r_tin (tgt := 67) C ⟨by omega, by omega⟩ dX4_sample_34 (by omega) (by omega) (by rw [s24]; rfl) (by decide) ?_
        refine r_aload_n C dX4_sample_67 rfl rfl ?_
        refine r_get (v := .ref (ad (94))) C (by omega) c16 (show vwCl[4]? = some (RX4, TX4, 15) from rfl) m1 7 (by decide) m2 rfl rfl dX4_sample_68 ?_
        refine r_iload_n C dX4_sample_71 rfl rfl ?_
        refine r_iald (x := (iI (((wds (cur s) z.toNat).2.2.1 p.toNat : Nat) : Int))) C (by omega) k8 (p.toNat) (by omega) (by omega) (Nat.le_of_ble_eq_true rfl) (hChW12 _ (by omega)) dX4_sample_72 ?_
        exact hret f14 (((wds (cur s) z.toNat).2.2.1 p.toNat : Nat) : Int) _ _ dX4_sample_73 (by unfold aSmp; rw [if_pos (by omega), if_neg (by omega), if_pos (by omega)]) (⟨hMi17, fun q hq => (ow13 _ (by omega))⟩)
      by_cases s25 : (w) = 2
      · refine r_tin (tgt := 74) C ⟨by omega, by omega⟩ dX4_sample_34 (by omega) (by omega) (by rw [s25]; rfl) (by decide) ?_
        refine r_aload_n C dX4_sample_74 rfl rfl ?_
        refine r_get (v := .ref (ad (96))) C (by omega) c16 (show vwCl[4]? = some (RX4, TX4, 15) from rfl) m1 9 (by decide) m3 rfl rfl dX4_sample_75 ?_
        refine r_iload_n C dX4_sample_78 rfl rfl ?_
        refine r_iald (x := (iI (((wds (cur s) z.toNat).2.2.2 p.toNat : Nat) : Int))) C (by omega) k10 (p.toNat) (by omega) (by omega) (Nat.le_of_ble_eq_true rfl) (hThW12 _ (by omega)) dX4_sample_79 ?_
        exact hret f14 (((wds (cur s) z.toNat).2.2.2 p.toNat : Nat) : Int) _ _ dX4_sample_80 (by unfold aSmp; rw [if_pos (by omega), if_neg (by omega), if_neg (by omega), if_pos (by omega)]) (⟨hMi17, fun q hq => (ow13 _ (by omega))⟩)
      refine r_tout (tgt := 81) C ⟨by omega, by omega⟩ dX4_sample_34 (by omega) (by decide) ?_
      refine r_bipush C ((-2)) (by decide) dX4_sample_81 ?_
      exact hret f14 ((-2)) _ _ dX4_sample_83 (by unfold aSmp; rw [if_pos (by omega), if_neg (by omega), if_neg (by omega), if_neg (by omega)]) (⟨hMi17, fun q hq => (ow13 _ (by omega))⟩)
    · refine r_iconst C ((-1)) (by decide) dX4_sample_31 ?_
      exact hret f14 ((-1)) _ _ dX4_sample_32 (by unfold aSmp; rw [if_neg (by omega)]) (⟨hMi17, fun q hq => (ow13 _ (by omega))⟩)
  · refine r_iconst C ((-1)) (by decide) dX4_sample_8 ?_
    exact hret f ((-1)) _ _ dX4_sample_9 (by unfold aSmp; rw [if_neg (by omega)]) (⟨hM, fun _ _ => rfl⟩)
set_option maxHeartbeats 4000000 in
set_option maxRecDepth 100000 in
/-- told -/
theorem c_X4_told (G : va_G) (tc : Nat → ClassId) (l : Launch) (ad : Nat → Nat) (N : Nat) (f : Nat → va_E) (s : SG) (hM : MI tc ad f s) (ho : okS s) (hN : 98 ≤ N) (z y w : Int) (hz : inR z) (hy : inR y) (hw : inR w)   : Ct G tc l yX4_told wsX4_told { frames := 4, cells := 0, slots := 0, locals := 97 } 0 0 [.ref (ad (88)), .int (iI (z)), .int (iI (y)), .int (iI (w))] ad N f (poI ad N (aTld s z y w) (fun f' => MI tc ad f' s ∧ ∀ q, (q < 88 ∨ 98 ≤ q) → f' q = f q)) := by
  obtain ⟨⟨x1, x2, x3, x4, m88⟩, m89', ⟨bb, m90, hbb⟩, ⟨sb, m91, hsb⟩, ⟨ig, m92, hig⟩, m93, ⟨wc, wv, wo, wn, m94, m95, m96, m97⟩⟩ := id hM
  have m89 : f 89 = eI tc 655 (fun j => iI ((nwF ((cur s).1, (cur s).2.1, (cur s).2.2.1, (cur s).2.2.2) j : Nat) : Int)) := m89'
  obtain ⟨⟨⟨a1, a2⟩, ⟨a3, a4⟩, ⟨a5, a6⟩, a7, a8, a9, a10⟩, o2, o3, o4, o5, o6⟩ := id ho
  refine stI (cc := cX4_told) (maxL := 4) (lv := [(0, .ref (ad (88))), (1, .int (iI (z))), (2, .int (iI (y))), (3, .int (iI (w)))]) (by decide) rfl (Nat.le_of_ble_eq_true rfl) rfl (fun X C hret => ?_)
  have m0 : Cond.fieldLink RX4 7 "WordSamplesModel" "now" "[I" ∈ wsX4_told := by decide +kernel
  have m1 : ∀ w ∈ wsX40, w ∈ wsX4_told := by decide +kernel
  have m2 : Cond.fieldLink RX4 99 "WordSamplesModel" "common" "I" ∈ wsX4_told := by decide +kernel
  have m3 : Cond.fieldLink RX4 102 "WordSamplesModel" "shared" "I" ∈ wsX4_told := by decide +kernel
  refine r_aload_n C dX4_told_0 rfl rfl ?_
  refine r_iload_n C dX4_told_1 rfl rfl ?_
  refine r_callV (As := [.int (iI (z))]) (rest := []) (na := 1) C (c_X4_isRow G tc l ad N _ s hM ho hN z hz) gX4_told_X4_isRow rfl rfl rfl (by decide +kernel) ⟨Nat.le_of_ble_eq_true rfl, Nat.le_of_ble_eq_true rfl⟩ (by omega) m88 (show vwCl[4]? = some (RX4, TX4, 15) from rfl) rfl rfl (Nat.le_of_ble_eq_true rfl) dX4_told_2 ⟨Nat.le_of_ble_eq_true rfl, Nat.le_of_ble_eq_true rfl⟩ (aft_I (fun f1 hF2 => ?_))
  rw [hF2]
  refine r_if_eq (tgt := 16) C ⟨by omega, by omega⟩ dX4_told_5 (by decide) (fun b3 => ?_) (fun b3 => ?_)
  · refine r_iconst C ((-1)) (by decide) dX4_told_16 ?_
    exact hret f ((-1)) _ _ dX4_told_17 (by unfold aTld; rw [if_neg (by omega)]) (⟨hM, fun _ _ => rfl⟩)
  · refine r_aload_n C dX4_told_8 rfl rfl ?_
    refine r_iload_n C dX4_told_9 rfl rfl ?_
    refine r_callV (As := [.int (iI (y))]) (rest := []) (na := 1) C (c_X4_isRow G tc l ad N _ s hM ho hN y hy) gX4_told_X4_isRow rfl rfl rfl (by decide +kernel) ⟨Nat.le_of_ble_eq_true rfl, Nat.le_of_ble_eq_true rfl⟩ (by omega) m88 (show vwCl[4]? = some (RX4, TX4, 15) from rfl) rfl rfl (Nat.le_of_ble_eq_true rfl) dX4_told_10 ⟨Nat.le_of_ble_eq_true rfl, Nat.le_of_ble_eq_true rfl⟩ (aft_I (fun f4 hF5 => ?_))
    rw [hF5]
    refine r_if_ne (tgt := 18) C ⟨by omega, by omega⟩ dX4_told_13 (by decide) (fun b6 => ?_) (fun b6 => ?_)
    · refine r_aload_n C dX4_told_18 rfl rfl ?_
      refine r_iload_n C dX4_told_19 rfl rfl ?_
      rw [show (.int (iI (z)) : Value) = .int (iI ((z.toNat : Nat) : Int)) from by rw [Int.toNat_of_nonneg (by omega)]]
      refine r_iload_n C dX4_told_20 rfl rfl ?_
      rw [show (.int (iI (y)) : Value) = .int (iI ((y.toNat : Nat) : Int)) from by rw [Int.toNat_of_nonneg (by omega)]]
      refine r_aload_n C dX4_told_21 rfl rfl ?_
      refine r_get (v := .ref (ad (89))) C (by omega) m88 (show vwCl[4]? = some (RX4, TX4, 15) from rfl) m1 0 (by decide) m0 rfl rfl dX4_told_22 ?_
      refine r_iconst C ((1 : Nat) : Int) (by decide) dX4_told_25 ?_
      refine r_iald (x := (iI (((cur s).1 1 : Nat) : Int))) C (by omega) m89 (1) rfl (by omega) (Nat.le_of_ble_eq_true rfl) (rfl) dX4_told_26 ?_
      refine r_callV (As := [.int (iI ((z.toNat : Nat) : Int)), .int (iI ((y.toNat : Nat) : Int)), .int (iI (((cur s).1 1 : Nat) : Int))]) (rest := []) (na := 3) C (c_X4_compare G tc l ad N _ s hM ho hN z.toNat y.toNat ((cur s).1 1) (by omega) (by omega) (by omega) _ _ rfl rfl) gX4_told_X4_compare rfl rfl rfl (by decide +kernel) ⟨Nat.le_of_ble_eq_true rfl, Nat.le_of_ble_eq_true rfl⟩ (by omega) m88 (show vwCl[4]? = some (RX4, TX4, 15) from rfl) rfl rfl (Nat.le_of_ble_eq_true rfl) dX4_told_27 ⟨Nat.le_of_ble_eq_true rfl, Nat.le_of_ble_eq_true rfl⟩ (aft_V (fun f20 hF21 => ?_))
      obtain ⟨⟨c7, v8, o9, n10, k11, k12, k13, k14, hWa16, hWb17⟩, k15, ow18⟩ := hF21
      have e191 := wds_le ho.1 (r := z.toNat) (by omega)
      have e192 := wds_le ho.1 (r := y.toNat) (by omega)
      have e193 := eb_le (wds_lt (cur s) z.toNat) (wds_lt (cur s) y.toNat)
      have e194 := lcw_le (wds_lt (cur s) z.toNat) (wds_lt (cur s) y.toNat) ((cur s).1 1)
      have e195 := mcw_le (wds_lt (cur s) z.toNat) (wds_lt (cur s) y.toNat) ((cur s).1 1)
      have e196 := cmw_le (wds (cur s) z.toNat) (wds (cur s) y.toNat) ((cur s).1 1)
      have e197 := mcw_rst (wds (cur s) z.toNat) (wds (cur s) y.toNat) ((cur s).1 1)
      refine r_iload_n C dX4_told_30 rfl rfl ?_
      by_cases s22 : (w) = 0
      · refine r_tin (tgt := 64) C ⟨by omega, by omega⟩ dX4_told_31 (by omega) (by omega) (by rw [s22]; rfl) (by decide) ?_
        refine r_aload_n C dX4_told_64 rfl rfl ?_
        refine r_get (v := .int (iI ((cmw (wds (cur s) z.toNat) (wds (cur s) y.toNat) ((cur s).1 1) : Nat) : Int))) C (by omega) k15 (show vwCl[4]? = some (RX4, TX4, 15) from rfl) m1 11 (by decide) m2 rfl rfl dX4_told_65 ?_
        have hMi23 : MI tc ad f20 s := M_re hM k15 k11 k12 k13 k14 (fun q g1 g2 => (ow18 _ (by omega)))
        exact hret f20 ((cmw (wds (cur s) z.toNat) (wds (cur s) y.toNat) ((cur s).1 1) : Nat) : Int) _ _ dX4_told_68 (by unfold aTld; rw [if_pos (by omega), if_pos (by omega)]) (⟨hMi23, fun q hq => (ow18 _ (by omega))⟩)
      by_cases s24 : (w) = 1
      · refine r_tin (tgt := 69) C ⟨by omega, by omega⟩ dX4_told_31 (by omega) (by omega) (by rw [s24]; rfl) (by decide) ?_
        refine r_aload_n C dX4_told_69 rfl rfl ?_
        refine r_get (v := .int (iI ((lcw (wds (cur s) z.toNat) (wds (cur s) y.toNat) ((cur s).1 1) : Nat) : Int))) C (by omega) k15 (show vwCl[4]? = some (RX4, TX4, 15) from rfl) m1 12 (by decide) m3 rfl rfl dX4_told_70 ?_
        have hMi25 : MI tc ad f20 s := M_re hM k15 k11 k12 k13 k14 (fun q g1 g2 => (ow18 _ (by omega)))
        exact hret f20 ((lcw (wds (cur s) z.toNat) (wds (cur s) y.toNat) ((cur s).1 1) : Nat) : Int) _ _ dX4_told_73 (by unfold aTld; rw [if_pos (by omega), if_neg (by omega), if_pos (by omega)]) (⟨hMi25, fun q hq => (ow18 _ (by omega))⟩)
      by_cases s26 : (w) = 2
      · refine r_tin (tgt := 74) C ⟨by omega, by omega⟩ dX4_told_31 (by omega) (by omega) (by rw [s26]; rfl) (by decide) ?_
        refine r_aload_n C dX4_told_74 rfl rfl ?_
        refine r_get (v := .int (iI ((lcw (wds (cur s) z.toNat) (wds (cur s) y.toNat) ((cur s).1 1) : Nat) : Int))) C (by omega) k15 (show vwCl[4]? = some (RX4, TX4, 15) from rfl) m1 12 (by decide) m3 rfl rfl dX4_told_75 ?_
        refine r_aload_n C dX4_told_78 rfl rfl ?_
        refine r_get (v := .int (iI ((cmw (wds (cur s) z.toNat) (wds (cur s) y.toNat) ((cur s).1 1) : Nat) : Int))) C (by omega) k15 (show vwCl[4]? = some (RX4, TX4, 15) from rfl) m1 11 (by decide) m2 rfl rfl dX4_told_79 ?_
        refine r_callS (As := [.int (iI ((lcw (wds (cur s) z.toNat) (wds (cur s) y.toNat) ((cur s).1 1) : Nat) : Int)), .int (iI ((cmw (wds (cur s) z.toNat) (wds (cur s) y.toNat) ((cur s).1 1) : Nat) : Int))]) (rest := []) (na := 2) C (c_X4_share G tc l ad N _ (lcw (wds (cur s) z.toNat) (wds (cur s) y.toNat) ((cur s).1 1)) (cmw (wds (cur s) z.toNat) (wds (cur s) y.toNat) ((cur s).1 1)) (by omega) (by omega)) gX4_told_X4_share rfl rfl rfl (by decide +kernel) ⟨Nat.le_of_ble_eq_true rfl, Nat.le_of_ble_eq_true rfl⟩ rfl rfl (Nat.le_of_ble_eq_true rfl) dX4_told_82 ⟨Nat.le_of_ble_eq_true rfl, Nat.le_of_ble_eq_true rfl⟩ (aft_I (fun f27 hF28 => ?_))
        rw [hF28]
        have hMi29 : MI tc ad f20 s := M_re hM k15 k11 k12 k13 k14 (fun q g1 g2 => (ow18 _ (by omega)))
        exact hret f20 ((tol (wds (cur s) z.toNat) (wds (cur s) y.toNat) ((cur s).1 1) : Nat) : Int) _ _ dX4_told_85 (by unfold aTld; rw [if_pos (by omega), if_neg (by omega), if_neg (by omega), if_pos (by omega)]) (⟨hMi29, fun q hq => (ow18 _ (by omega))⟩)
      by_cases s30 : (w) = 3
      · refine r_tin (tgt := 86) C ⟨by omega, by omega⟩ dX4_told_31 (by omega) (by omega) (by rw [s30]; rfl) (by decide) ?_
        refine r_aload_n C dX4_told_86 rfl rfl ?_
        refine r_callV (As := []) (rest := []) (na := 0) C (c_X4_lower G tc l ad N _ (kno s) (pln s) (wds (cur s) z.toNat) (wds (cur s) y.toNat) ((cur s).1 1) n10 e191 e192 e193 e194 e195 hN hWa16.1 hWb17.1 k15 k14) gX4_told_X4_lower rfl rfl rfl (by decide +kernel) ⟨Nat.le_of_ble_eq_true rfl, Nat.le_of_ble_eq_true rfl⟩ (by omega) k15 (show vwCl[4]? = some (RX4, TX4, 15) from rfl) rfl rfl (Nat.le_of_ble_eq_true rfl) dX4_told_87 ⟨Nat.le_of_ble_eq_true rfl, Nat.le_of_ble_eq_true rfl⟩ (aft_I (fun f31 hF32 => ?_))
        rw [hF32]
        have hMi33 : MI tc ad f20 s := M_re hM k15 k11 k12 k13 k14 (fun q g1 g2 => (ow18 _ (by omega)))
        exact hret f20 ((low (wds (cur s) z.toNat) (wds (cur s) y.toNat) ((cur s).1 1) : Nat) : Int) _ _ dX4_told_90 (by unfold aTld; rw [if_pos (by omega), if_neg (by omega), if_neg (by omega), if_neg (by omega), if_pos (by omega)]) (⟨hMi33, fun q hq => (ow18 _ (by omega))⟩)
      by_cases s34 : (w) = 4
      · refine r_tin (tgt := 91) C ⟨by omega, by omega⟩ dX4_told_31 (by omega) (by omega) (by rw [s34]; rfl) (by decide) ?_
        refine r_aload_n C dX4_told_91 rfl rfl ?_
        refine r_callV (As := []) (rest := []) (na := 0) C (c_X4_upper G tc l ad N _ (kno s) (pln s) (wds (cur s) z.toNat) (wds (cur s) y.toNat) ((cur s).1 1) n10 e191 e192 e193 e194 e195 hN hWa16.1 hWb17.1 k15 k14) gX4_told_X4_upper rfl rfl rfl (by decide +kernel) ⟨Nat.le_of_ble_eq_true rfl, Nat.le_of_ble_eq_true rfl⟩ (by omega) k15 (show vwCl[4]? = some (RX4, TX4, 15) from rfl) rfl rfl (Nat.le_of_ble_eq_true rfl) dX4_told_92 ⟨Nat.le_of_ble_eq_true rfl, Nat.le_of_ble_eq_true rfl⟩ (aft_I (fun f35 hF36 => ?_))
        rw [hF36]
        have hMi37 : MI tc ad f20 s := M_re hM k15 k11 k12 k13 k14 (fun q g1 g2 => (ow18 _ (by omega)))
        exact hret f20 ((upp (wds (cur s) z.toNat) (wds (cur s) y.toNat) ((cur s).1 1) : Nat) : Int) _ _ dX4_told_95 (by unfold aTld; rw [if_pos (by omega), if_neg (by omega), if_neg (by omega), if_neg (by omega), if_neg (by omega), if_pos (by omega)]) (⟨hMi37, fun q hq => (ow18 _ (by omega))⟩)
      refine r_tout (tgt := 96) C ⟨by omega, by omega⟩ dX4_told_31 (by omega) (by decide) ?_
      refine r_bipush C ((-2)) (by decide) dX4_told_96 ?_
      have hMi38 : MI tc ad f20 s := M_re hM k15 k11 k12 k13 k14 (fun q g1 g2 => (ow18 _ (by omega)))
      exact hret f20 ((-2)) _ _ dX4_told_98 (by unfold aTld; rw [if_pos (by omega), if_neg (by omega), if_neg (by omega), if_neg (by omega), if_neg (by omega), if_neg (by omega)]) (⟨hMi38, fun q hq => (ow18 _ (by omega))⟩)
    · refine r_iconst C ((-1)) (by decide) dX4_told_16 ?_
      exact hret f ((-1)) _ _ dX4_told_17 (by unfold aTld; rw [if_neg (by omega)]) (⟨hM, fun _ _ => rfl⟩)
set_option maxHeartbeats 4000000 in
set_option maxRecDepth 100000 in
/-- exact -/
theorem c_X4_exact (G : va_G) (tc : Nat → ClassId) (l : Launch) (ad : Nat → Nat) (N : Nat) (f : Nat → va_E) (s : SG) (hM : MI tc ad f s) (ho : okS s) (hN : 98 ≤ N) (z y w : Int) (hz : inR z) (hy : inR y) (hw : inR w)   : Ct G tc l yX4_exact wsX4_exact { frames := 4, cells := 0, slots := 0, locals := 97 } 0 0 [.ref (ad (88)), .int (iI (z)), .int (iI (y)), .int (iI (w))] ad N f (poI ad N (aExa s z y w) (fun f' => MI tc ad f' s ∧ ∀ q, (q < 88 ∨ 98 ≤ q) → f' q = f q)) := by
  obtain ⟨⟨x1, x2, x3, x4, m88⟩, m89', ⟨bb, m90, hbb⟩, ⟨sb, m91, hsb⟩, ⟨ig, m92, hig⟩, m93, ⟨wc, wv, wo, wn, m94, m95, m96, m97⟩⟩ := id hM
  have m89 : f 89 = eI tc 655 (fun j => iI ((nwF ((cur s).1, (cur s).2.1, (cur s).2.2.1, (cur s).2.2.2) j : Nat) : Int)) := m89'
  obtain ⟨⟨⟨a1, a2⟩, ⟨a3, a4⟩, ⟨a5, a6⟩, a7, a8, a9, a10⟩, o2, o3, o4, o5, o6⟩ := id ho
  refine stI (cc := cX4_exact) (maxL := 4) (lv := [(0, .ref (ad (88))), (1, .int (iI (z))), (2, .int (iI (y))), (3, .int (iI (w)))]) (by decide) rfl (Nat.le_of_ble_eq_true rfl) rfl (fun X C hret => ?_)
  have m0 : Cond.fieldLink RX4 7 "WordSamplesModel" "now" "[I" ∈ wsX4_exact := by decide +kernel
  have m1 : ∀ w ∈ wsX40, w ∈ wsX4_exact := by decide +kernel
  have m2 : Cond.fieldLink RX4 108 "WordSamplesModel" "both" "I" ∈ wsX4_exact := by decide +kernel
  refine r_aload_n C dX4_exact_0 rfl rfl ?_
  refine r_iload_n C dX4_exact_1 rfl rfl ?_
  refine r_callV (As := [.int (iI (z))]) (rest := []) (na := 1) C (c_X4_isRow G tc l ad N _ s hM ho hN z hz) gX4_exact_X4_isRow rfl rfl rfl (by decide +kernel) ⟨Nat.le_of_ble_eq_true rfl, Nat.le_of_ble_eq_true rfl⟩ (by omega) m88 (show vwCl[4]? = some (RX4, TX4, 15) from rfl) rfl rfl (Nat.le_of_ble_eq_true rfl) dX4_exact_2 ⟨Nat.le_of_ble_eq_true rfl, Nat.le_of_ble_eq_true rfl⟩ (aft_I (fun f1 hF2 => ?_))
  rw [hF2]
  refine r_if_eq (tgt := 16) C ⟨by omega, by omega⟩ dX4_exact_5 (by decide) (fun b3 => ?_) (fun b3 => ?_)
  · refine r_iconst C ((-1)) (by decide) dX4_exact_16 ?_
    exact hret f ((-1)) _ _ dX4_exact_17 (by unfold aExa; rw [if_neg (by omega)]) (⟨hM, fun _ _ => rfl⟩)
  · refine r_aload_n C dX4_exact_8 rfl rfl ?_
    refine r_iload_n C dX4_exact_9 rfl rfl ?_
    refine r_callV (As := [.int (iI (y))]) (rest := []) (na := 1) C (c_X4_isRow G tc l ad N _ s hM ho hN y hy) gX4_exact_X4_isRow rfl rfl rfl (by decide +kernel) ⟨Nat.le_of_ble_eq_true rfl, Nat.le_of_ble_eq_true rfl⟩ (by omega) m88 (show vwCl[4]? = some (RX4, TX4, 15) from rfl) rfl rfl (Nat.le_of_ble_eq_true rfl) dX4_exact_10 ⟨Nat.le_of_ble_eq_true rfl, Nat.le_of_ble_eq_true rfl⟩ (aft_I (fun f4 hF5 => ?_))
    rw [hF5]
    refine r_if_ne (tgt := 18) C ⟨by omega, by omega⟩ dX4_exact_13 (by decide) (fun b6 => ?_) (fun b6 => ?_)
    · refine r_aload_n C dX4_exact_18 rfl rfl ?_
      refine r_iload_n C dX4_exact_19 rfl rfl ?_
      rw [show (.int (iI (z)) : Value) = .int (iI ((z.toNat : Nat) : Int)) from by rw [Int.toNat_of_nonneg (by omega)]]
      refine r_iload_n C dX4_exact_20 rfl rfl ?_
      rw [show (.int (iI (y)) : Value) = .int (iI ((y.toNat : Nat) : Int)) from by rw [Int.toNat_of_nonneg (by omega)]]
      refine r_aload_n C dX4_exact_21 rfl rfl ?_
      refine r_get (v := .ref (ad (89))) C (by omega) m88 (show vwCl[4]? = some (RX4, TX4, 15) from rfl) m1 0 (by decide) m0 rfl rfl dX4_exact_22 ?_
      refine r_iconst C ((1 : Nat) : Int) (by decide) dX4_exact_25 ?_
      refine r_iald (x := (iI (((cur s).1 1 : Nat) : Int))) C (by omega) m89 (1) rfl (by omega) (Nat.le_of_ble_eq_true rfl) (rfl) dX4_exact_26 ?_
      refine r_callV (As := [.int (iI ((z.toNat : Nat) : Int)), .int (iI ((y.toNat : Nat) : Int)), .int (iI (((cur s).1 1 : Nat) : Int))]) (rest := []) (na := 3) C (c_X4_compare G tc l ad N _ s hM ho hN z.toNat y.toNat ((cur s).1 1) (by omega) (by omega) (by omega) _ _ rfl rfl) gX4_exact_X4_compare rfl rfl rfl (by decide +kernel) ⟨Nat.le_of_ble_eq_true rfl, Nat.le_of_ble_eq_true rfl⟩ (by omega) m88 (show vwCl[4]? = some (RX4, TX4, 15) from rfl) rfl rfl (Nat.le_of_ble_eq_true rfl) dX4_exact_27 ⟨Nat.le_of_ble_eq_true rfl, Nat.le_of_ble_eq_true rfl⟩ (aft_V (fun f20 hF21 => ?_))
      obtain ⟨⟨c7, v8, o9, n10, k11, k12, k13, k14, hWa16, hWb17⟩, k15, ow18⟩ := hF21
      have e191 := wds_le ho.1 (r := z.toNat) (by omega)
      have e192 := wds_le ho.1 (r := y.toNat) (by omega)
      have e193 := eb_le (wds_lt (cur s) z.toNat) (wds_lt (cur s) y.toNat)
      have e194 := lcw_le (wds_lt (cur s) z.toNat) (wds_lt (cur s) y.toNat) ((cur s).1 1)
      have e195 := mcw_le (wds_lt (cur s) z.toNat) (wds_lt (cur s) y.toNat) ((cur s).1 1)
      have e196 := cmw_le (wds (cur s) z.toNat) (wds (cur s) y.toNat) ((cur s).1 1)
      have e197 := mcw_rst (wds (cur s) z.toNat) (wds (cur s) y.toNat) ((cur s).1 1)
      refine r_iload_n C dX4_exact_30 rfl rfl ?_
      by_cases s22 : (w) = 0
      · refine r_tin (tgt := 56) C ⟨by omega, by omega⟩ dX4_exact_31 (by omega) (by omega) (by rw [s22]; rfl) (by decide) ?_
        refine r_aload_n C dX4_exact_56 rfl rfl ?_
        refine r_callV (As := []) (rest := []) (na := 0) C (c_X4_either G tc l ad N _ (kno s) (pln s) (wds (cur s) z.toNat) (wds (cur s) y.toNat) ((cur s).1 1) n10 e191 e192 e193 e194 e195 hN hWa16.1 hWb17.1 k15 k14) gX4_exact_X4_either rfl rfl rfl (by decide +kernel) ⟨Nat.le_of_ble_eq_true rfl, Nat.le_of_ble_eq_true rfl⟩ (by omega) k15 (show vwCl[4]? = some (RX4, TX4, 15) from rfl) rfl rfl (Nat.le_of_ble_eq_true rfl) dX4_exact_57 ⟨Nat.le_of_ble_eq_true rfl, Nat.le_of_ble_eq_true rfl⟩ (aft_I (fun f23 hF24 => ?_))
        rw [hF24]
        have hMi25 : MI tc ad f20 s := M_re hM k15 k11 k12 k13 k14 (fun q g1 g2 => (ow18 _ (by omega)))
        exact hret f20 ((eit (wds (cur s) z.toNat) (wds (cur s) y.toNat) : Nat) : Int) _ _ dX4_exact_60 (by unfold aExa; rw [if_pos (by omega), if_pos (by omega)]) (⟨hMi25, fun q hq => (ow18 _ (by omega))⟩)
      by_cases s26 : (w) = 1
      · refine r_tin (tgt := 61) C ⟨by omega, by omega⟩ dX4_exact_31 (by omega) (by omega) (by rw [s26]; rfl) (by decide) ?_
        refine r_aload_n C dX4_exact_61 rfl rfl ?_
        refine r_get (v := .int (iI ((bth (wds (cur s) z.toNat) (wds (cur s) y.toNat) : Nat) : Int))) C (by omega) k15 (show vwCl[4]? = some (RX4, TX4, 15) from rfl) m1 13 (by decide) m2 rfl rfl dX4_exact_62 ?_
        have hMi27 : MI tc ad f20 s := M_re hM k15 k11 k12 k13 k14 (fun q g1 g2 => (ow18 _ (by omega)))
        exact hret f20 ((bth (wds (cur s) z.toNat) (wds (cur s) y.toNat) : Nat) : Int) _ _ dX4_exact_65 (by unfold aExa; rw [if_pos (by omega), if_neg (by omega), if_pos (by omega)]) (⟨hMi27, fun q hq => (ow18 _ (by omega))⟩)
      by_cases s28 : (w) = 2
      · refine r_tin (tgt := 66) C ⟨by omega, by omega⟩ dX4_exact_31 (by omega) (by omega) (by rw [s28]; rfl) (by decide) ?_
        refine r_aload_n C dX4_exact_66 rfl rfl ?_
        refine r_get (v := .int (iI ((bth (wds (cur s) z.toNat) (wds (cur s) y.toNat) : Nat) : Int))) C (by omega) k15 (show vwCl[4]? = some (RX4, TX4, 15) from rfl) m1 13 (by decide) m2 rfl rfl dX4_exact_67 ?_
        refine r_aload_n C dX4_exact_70 rfl rfl ?_
        refine r_callV (As := []) (rest := [.int (iI ((bth (wds (cur s) z.toNat) (wds (cur s) y.toNat) : Nat) : Int))]) (na := 0) C (c_X4_either G tc l ad N _ (kno s) (pln s) (wds (cur s) z.toNat) (wds (cur s) y.toNat) ((cur s).1 1) n10 e191 e192 e193 e194 e195 hN hWa16.1 hWb17.1 k15 k14) gX4_exact_X4_either rfl rfl rfl (by decide +kernel) ⟨Nat.le_of_ble_eq_true rfl, Nat.le_of_ble_eq_true rfl⟩ (by omega) k15 (show vwCl[4]? = some (RX4, TX4, 15) from rfl) rfl rfl (Nat.le_of_ble_eq_true rfl) dX4_exact_71 ⟨Nat.le_of_ble_eq_true rfl, Nat.le_of_ble_eq_true rfl⟩ (aft_I (fun f29 hF30 => ?_))
        rw [hF30]
        refine r_callS (As := [.int (iI ((bth (wds (cur s) z.toNat) (wds (cur s) y.toNat) : Nat) : Int)), .int (iI ((eit (wds (cur s) z.toNat) (wds (cur s) y.toNat) : Nat) : Int))]) (rest := []) (na := 2) C (c_X4_share G tc l ad N _ (bth (wds (cur s) z.toNat) (wds (cur s) y.toNat)) (eit (wds (cur s) z.toNat) (wds (cur s) y.toNat)) (by omega) (by omega)) gX4_exact_X4_share rfl rfl rfl (by decide +kernel) ⟨Nat.le_of_ble_eq_true rfl, Nat.le_of_ble_eq_true rfl⟩ rfl rfl (Nat.le_of_ble_eq_true rfl) dX4_exact_74 ⟨Nat.le_of_ble_eq_true rfl, Nat.le_of_ble_eq_true rfl⟩ (aft_I (fun f31 hF32 => ?_))
        rw [hF32]
        have hMi33 : MI tc ad f20 s := M_re hM k15 k11 k12 k13 k14 (fun q g1 g2 => (ow18 _ (by omega)))
        exact hret f20 ((tru (wds (cur s) z.toNat) (wds (cur s) y.toNat) : Nat) : Int) _ _ dX4_exact_77 (by unfold aExa; rw [if_pos (by omega), if_neg (by omega), if_neg (by omega), if_pos (by omega)]) (⟨hMi33, fun q hq => (ow18 _ (by omega))⟩)
      refine r_tout (tgt := 78) C ⟨by omega, by omega⟩ dX4_exact_31 (by omega) (by decide) ?_
      refine r_bipush C ((-2)) (by decide) dX4_exact_78 ?_
      have hMi34 : MI tc ad f20 s := M_re hM k15 k11 k12 k13 k14 (fun q g1 g2 => (ow18 _ (by omega)))
      exact hret f20 ((-2)) _ _ dX4_exact_80 (by unfold aExa; rw [if_pos (by omega), if_neg (by omega), if_neg (by omega), if_neg (by omega)]) (⟨hMi34, fun q hq => (ow18 _ (by omega))⟩)
    · refine r_iconst C ((-1)) (by decide) dX4_exact_16 ?_
      exact hret f ((-1)) _ _ dX4_exact_17 (by unfold aExa; rw [if_neg (by omega)]) (⟨hM, fun _ _ => rfl⟩)
set_option maxHeartbeats 4000000 in
set_option maxRecDepth 100000 in
/-- inside -/
theorem c_X4_inside (G : va_G) (tc : Nat → ClassId) (l : Launch) (ad : Nat → Nat) (N : Nat) (f : Nat → va_E) (s : SG) (hM : MI tc ad f s) (ho : okS s) (hN : 98 ≤ N) (z y w : Int) (hz : inR z) (hy : inR y) (hw : inR w)   : Ct G tc l yX4_inside wsX4_inside { frames := 4, cells := 0, slots := 0, locals := 97 } 0 0 [.ref (ad (88)), .int (iI (z)), .int (iI (y)), .int (iI (w))] ad N f (poI ad N (aIns s z y w) (fun f' => MI tc ad f' s ∧ ∀ q, (q < 88 ∨ 98 ≤ q) → f' q = f q)) := by
  obtain ⟨⟨x1, x2, x3, x4, m88⟩, m89', ⟨bb, m90, hbb⟩, ⟨sb, m91, hsb⟩, ⟨ig, m92, hig⟩, m93, ⟨wc, wv, wo, wn, m94, m95, m96, m97⟩⟩ := id hM
  have m89 : f 89 = eI tc 655 (fun j => iI ((nwF ((cur s).1, (cur s).2.1, (cur s).2.2.1, (cur s).2.2.2) j : Nat) : Int)) := m89'
  obtain ⟨⟨⟨a1, a2⟩, ⟨a3, a4⟩, ⟨a5, a6⟩, a7, a8, a9, a10⟩, o2, o3, o4, o5, o6⟩ := id ho
  refine stI (cc := cX4_inside) (maxL := 4) (lv := [(0, .ref (ad (88))), (1, .int (iI (z))), (2, .int (iI (y))), (3, .int (iI (w)))]) (by decide) rfl (Nat.le_of_ble_eq_true rfl) rfl (fun X C hret => ?_)
  have m0 : Cond.fieldLink RX4 7 "WordSamplesModel" "now" "[I" ∈ wsX4_inside := by decide +kernel
  have m1 : ∀ w ∈ wsX40, w ∈ wsX4_inside := by decide +kernel
  have m2 : Cond.fieldLink RX4 108 "WordSamplesModel" "both" "I" ∈ wsX4_inside := by decide +kernel
  have m3 : Cond.fieldLink RX4 35 "WordSamplesModel" "words" "[I" ∈ wsX4_inside := by decide +kernel
  have m4 : Cond.fieldLink RX4 102 "WordSamplesModel" "shared" "I" ∈ wsX4_inside := by decide +kernel
  have m5 : Cond.fieldLink RX4 105 "WordSamplesModel" "rest" "I" ∈ wsX4_inside := by decide +kernel
  refine r_aload_n C dX4_inside_0 rfl rfl ?_
  refine r_iload_n C dX4_inside_1 rfl rfl ?_
  refine r_callV (As := [.int (iI (z))]) (rest := []) (na := 1) C (c_X4_isRow G tc l ad N _ s hM ho hN z hz) gX4_inside_X4_isRow rfl rfl rfl (by decide +kernel) ⟨Nat.le_of_ble_eq_true rfl, Nat.le_of_ble_eq_true rfl⟩ (by omega) m88 (show vwCl[4]? = some (RX4, TX4, 15) from rfl) rfl rfl (Nat.le_of_ble_eq_true rfl) dX4_inside_2 ⟨Nat.le_of_ble_eq_true rfl, Nat.le_of_ble_eq_true rfl⟩ (aft_I (fun f1 hF2 => ?_))
  rw [hF2]
  refine r_if_eq (tgt := 16) C ⟨by omega, by omega⟩ dX4_inside_5 (by decide) (fun b3 => ?_) (fun b3 => ?_)
  · refine r_iconst C ((-1)) (by decide) dX4_inside_16 ?_
    exact hret f ((-1)) _ _ dX4_inside_17 (by unfold aIns; rw [if_neg (by omega)]) (⟨hM, fun _ _ => rfl⟩)
  · refine r_aload_n C dX4_inside_8 rfl rfl ?_
    refine r_iload_n C dX4_inside_9 rfl rfl ?_
    refine r_callV (As := [.int (iI (y))]) (rest := []) (na := 1) C (c_X4_isRow G tc l ad N _ s hM ho hN y hy) gX4_inside_X4_isRow rfl rfl rfl (by decide +kernel) ⟨Nat.le_of_ble_eq_true rfl, Nat.le_of_ble_eq_true rfl⟩ (by omega) m88 (show vwCl[4]? = some (RX4, TX4, 15) from rfl) rfl rfl (Nat.le_of_ble_eq_true rfl) dX4_inside_10 ⟨Nat.le_of_ble_eq_true rfl, Nat.le_of_ble_eq_true rfl⟩ (aft_I (fun f4 hF5 => ?_))
    rw [hF5]
    refine r_if_ne (tgt := 18) C ⟨by omega, by omega⟩ dX4_inside_13 (by decide) (fun b6 => ?_) (fun b6 => ?_)
    · refine r_aload_n C dX4_inside_18 rfl rfl ?_
      refine r_iload_n C dX4_inside_19 rfl rfl ?_
      rw [show (.int (iI (z)) : Value) = .int (iI ((z.toNat : Nat) : Int)) from by rw [Int.toNat_of_nonneg (by omega)]]
      refine r_iload_n C dX4_inside_20 rfl rfl ?_
      rw [show (.int (iI (y)) : Value) = .int (iI ((y.toNat : Nat) : Int)) from by rw [Int.toNat_of_nonneg (by omega)]]
      refine r_aload_n C dX4_inside_21 rfl rfl ?_
      refine r_get (v := .ref (ad (89))) C (by omega) m88 (show vwCl[4]? = some (RX4, TX4, 15) from rfl) m1 0 (by decide) m0 rfl rfl dX4_inside_22 ?_
      refine r_iconst C ((1 : Nat) : Int) (by decide) dX4_inside_25 ?_
      refine r_iald (x := (iI (((cur s).1 1 : Nat) : Int))) C (by omega) m89 (1) rfl (by omega) (Nat.le_of_ble_eq_true rfl) (rfl) dX4_inside_26 ?_
      refine r_callV (As := [.int (iI ((z.toNat : Nat) : Int)), .int (iI ((y.toNat : Nat) : Int)), .int (iI (((cur s).1 1 : Nat) : Int))]) (rest := []) (na := 3) C (c_X4_compare G tc l ad N _ s hM ho hN z.toNat y.toNat ((cur s).1 1) (by omega) (by omega) (by omega) _ _ rfl rfl) gX4_inside_X4_compare rfl rfl rfl (by decide +kernel) ⟨Nat.le_of_ble_eq_true rfl, Nat.le_of_ble_eq_true rfl⟩ (by omega) m88 (show vwCl[4]? = some (RX4, TX4, 15) from rfl) rfl rfl (Nat.le_of_ble_eq_true rfl) dX4_inside_27 ⟨Nat.le_of_ble_eq_true rfl, Nat.le_of_ble_eq_true rfl⟩ (aft_V (fun f20 hF21 => ?_))
      obtain ⟨⟨c7, v8, o9, n10, k11, k12, k13, k14, hWa16, hWb17⟩, k15, ow18⟩ := hF21
      have e191 := wds_le ho.1 (r := z.toNat) (by omega)
      have e192 := wds_le ho.1 (r := y.toNat) (by omega)
      have e193 := eb_le (wds_lt (cur s) z.toNat) (wds_lt (cur s) y.toNat)
      have e194 := lcw_le (wds_lt (cur s) z.toNat) (wds_lt (cur s) y.toNat) ((cur s).1 1)
      have e195 := mcw_le (wds_lt (cur s) z.toNat) (wds_lt (cur s) y.toNat) ((cur s).1 1)
      have e196 := cmw_le (wds (cur s) z.toNat) (wds (cur s) y.toNat) ((cur s).1 1)
      have e197 := mcw_rst (wds (cur s) z.toNat) (wds (cur s) y.toNat) ((cur s).1 1)
      refine r_iload_n C dX4_inside_30 rfl rfl ?_
      by_cases s22 : (w) = 0
      · refine r_tin (tgt := 56) C ⟨by omega, by omega⟩ dX4_inside_31 (by omega) (by omega) (by rw [s22]; rfl) (by decide) ?_
        refine r_aload_n C dX4_inside_56 rfl rfl ?_
        refine r_get (v := .int (iI ((bth (wds (cur s) z.toNat) (wds (cur s) y.toNat) : Nat) : Int))) C (by omega) k15 (show vwCl[4]? = some (RX4, TX4, 15) from rfl) m1 13 (by decide) m2 rfl rfl dX4_inside_57 ?_
        refine r_aload_n C dX4_inside_60 rfl rfl ?_
        refine r_get (v := .ref (ad (97))) C (by omega) k15 (show vwCl[4]? = some (RX4, TX4, 15) from rfl) m1 10 (by decide) m3 rfl rfl dX4_inside_61 ?_
        refine r_iconst C ((0 : Nat) : Int) (by decide) dX4_inside_64 ?_
        refine r_iald (x := (iI (((wds (cur s) z.toNat).1 : Nat) : Int))) C (by omega) k14 (0) rfl (by omega) (Nat.le_of_ble_eq_true rfl) (hWa16.1) dX4_inside_65 ?_
        refine r_callS (As := [.int (iI ((bth (wds (cur s) z.toNat) (wds (cur s) y.toNat) : Nat) : Int)), .int (iI (((wds (cur s) z.toNat).1 : Nat) : Int))]) (rest := []) (na := 2) C (c_X4_share G tc l ad N _ (bth (wds (cur s) z.toNat) (wds (cur s) y.toNat)) ((wds (cur s) z.toNat).1) (by omega) (by omega)) gX4_inside_X4_share rfl rfl rfl (by decide +kernel) ⟨Nat.le_of_ble_eq_true rfl, Nat.le_of_ble_eq_true rfl⟩ rfl rfl (Nat.le_of_ble_eq_true rfl) dX4_inside_66 ⟨Nat.le_of_ble_eq_true rfl, Nat.le_of_ble_eq_true rfl⟩ (aft_I (fun f23 hF24 => ?_))
        rw [hF24]
        have hMi25 : MI tc ad f20 s := M_re hM k15 k11 k12 k13 k14 (fun q g1 g2 => (ow18 _ (by omega)))
        exact hret f20 ((shd (bth (wds (cur s) z.toNat) (wds (cur s) y.toNat)) (wds (cur s) z.toNat).1 : Nat) : Int) _ _ dX4_inside_69 (by unfold aIns; rw [if_pos (by omega), if_pos (by omega)]) (⟨hMi25, fun q hq => (ow18 _ (by omega))⟩)
      by_cases s26 : (w) = 1
      · refine r_tin (tgt := 70) C ⟨by omega, by omega⟩ dX4_inside_31 (by omega) (by omega) (by rw [s26]; rfl) (by decide) ?_
        refine r_aload_n C dX4_inside_70 rfl rfl ?_
        refine r_get (v := .int (iI ((lcw (wds (cur s) z.toNat) (wds (cur s) y.toNat) ((cur s).1 1) : Nat) : Int))) C (by omega) k15 (show vwCl[4]? = some (RX4, TX4, 15) from rfl) m1 12 (by decide) m4 rfl rfl dX4_inside_71 ?_
        refine r_aload_n C dX4_inside_74 rfl rfl ?_
        refine r_get (v := .ref (ad (97))) C (by omega) k15 (show vwCl[4]? = some (RX4, TX4, 15) from rfl) m1 10 (by decide) m3 rfl rfl dX4_inside_75 ?_
        refine r_iconst C ((0 : Nat) : Int) (by decide) dX4_inside_78 ?_
        refine r_iald (x := (iI (((wds (cur s) z.toNat).1 : Nat) : Int))) C (by omega) k14 (0) rfl (by omega) (Nat.le_of_ble_eq_true rfl) (hWa16.1) dX4_inside_79 ?_
        refine r_callS (As := [.int (iI ((lcw (wds (cur s) z.toNat) (wds (cur s) y.toNat) ((cur s).1 1) : Nat) : Int)), .int (iI (((wds (cur s) z.toNat).1 : Nat) : Int))]) (rest := []) (na := 2) C (c_X4_share G tc l ad N _ (lcw (wds (cur s) z.toNat) (wds (cur s) y.toNat) ((cur s).1 1)) ((wds (cur s) z.toNat).1) (by omega) (by omega)) gX4_inside_X4_share rfl rfl rfl (by decide +kernel) ⟨Nat.le_of_ble_eq_true rfl, Nat.le_of_ble_eq_true rfl⟩ rfl rfl (Nat.le_of_ble_eq_true rfl) dX4_inside_80 ⟨Nat.le_of_ble_eq_true rfl, Nat.le_of_ble_eq_true rfl⟩ (aft_I (fun f27 hF28 => ?_))
        rw [hF28]
        have hMi29 : MI tc ad f20 s := M_re hM k15 k11 k12 k13 k14 (fun q g1 g2 => (ow18 _ (by omega)))
        exact hret f20 ((shd (lcw (wds (cur s) z.toNat) (wds (cur s) y.toNat) ((cur s).1 1)) (wds (cur s) z.toNat).1 : Nat) : Int) _ _ dX4_inside_83 (by unfold aIns; rw [if_pos (by omega), if_neg (by omega), if_pos (by omega)]) (⟨hMi29, fun q hq => (ow18 _ (by omega))⟩)
      by_cases s30 : (w) = 2
      · refine r_tin (tgt := 84) C ⟨by omega, by omega⟩ dX4_inside_31 (by omega) (by omega) (by rw [s30]; rfl) (by decide) ?_
        refine r_aload_n C dX4_inside_84 rfl rfl ?_
        refine r_get (v := .int (iI ((lcw (wds (cur s) z.toNat) (wds (cur s) y.toNat) ((cur s).1 1) : Nat) : Int))) C (by omega) k15 (show vwCl[4]? = some (RX4, TX4, 15) from rfl) m1 12 (by decide) m4 rfl rfl dX4_inside_85 ?_
        refine r_aload_n C dX4_inside_88 rfl rfl ?_
        refine r_get (v := .int (iI ((rst (wds (cur s) z.toNat) (wds (cur s) y.toNat) ((cur s).1 1) : Nat) : Int))) C (by omega) k15 (show vwCl[4]? = some (RX4, TX4, 15) from rfl) m1 14 (by decide) m5 rfl rfl dX4_inside_89 ?_
        refine r_iadd C ((mcw (wds (cur s) z.toNat) (wds (cur s) y.toNat) ((cur s).1 1) : Nat) : Int) (by omega) dX4_inside_92 ?_
        refine r_aload_n C dX4_inside_93 rfl rfl ?_
        refine r_get (v := .ref (ad (97))) C (by omega) k15 (show vwCl[4]? = some (RX4, TX4, 15) from rfl) m1 10 (by decide) m3 rfl rfl dX4_inside_94 ?_
        refine r_iconst C ((0 : Nat) : Int) (by decide) dX4_inside_97 ?_
        refine r_iald (x := (iI (((wds (cur s) z.toNat).1 : Nat) : Int))) C (by omega) k14 (0) rfl (by omega) (Nat.le_of_ble_eq_true rfl) (hWa16.1) dX4_inside_98 ?_
        refine r_callS (As := [.int (iI ((mcw (wds (cur s) z.toNat) (wds (cur s) y.toNat) ((cur s).1 1) : Nat) : Int)), .int (iI (((wds (cur s) z.toNat).1 : Nat) : Int))]) (rest := []) (na := 2) C (c_X4_shareUp G tc l ad N _ (mcw (wds (cur s) z.toNat) (wds (cur s) y.toNat) ((cur s).1 1)) ((wds (cur s) z.toNat).1) (by omega) (by omega)) gX4_inside_X4_shareUp rfl rfl rfl (by decide +kernel) ⟨Nat.le_of_ble_eq_true rfl, Nat.le_of_ble_eq_true rfl⟩ rfl rfl (Nat.le_of_ble_eq_true rfl) dX4_inside_99 ⟨Nat.le_of_ble_eq_true rfl, Nat.le_of_ble_eq_true rfl⟩ (aft_I (fun f31 hF32 => ?_))
        rw [hF32]
        have hMi33 : MI tc ad f20 s := M_re hM k15 k11 k12 k13 k14 (fun q g1 g2 => (ow18 _ (by omega)))
        exact hret f20 ((shu (mcw (wds (cur s) z.toNat) (wds (cur s) y.toNat) ((cur s).1 1)) (wds (cur s) z.toNat).1 : Nat) : Int) _ _ dX4_inside_102 (by unfold aIns; rw [if_pos (by omega), if_neg (by omega), if_neg (by omega), if_pos (by omega)]) (⟨hMi33, fun q hq => (ow18 _ (by omega))⟩)
      refine r_tout (tgt := 103) C ⟨by omega, by omega⟩ dX4_inside_31 (by omega) (by decide) ?_
      refine r_bipush C ((-2)) (by decide) dX4_inside_103 ?_
      have hMi34 : MI tc ad f20 s := M_re hM k15 k11 k12 k13 k14 (fun q g1 g2 => (ow18 _ (by omega)))
      exact hret f20 ((-2)) _ _ dX4_inside_105 (by unfold aIns; rw [if_pos (by omega), if_neg (by omega), if_neg (by omega), if_neg (by omega)]) (⟨hMi34, fun q hq => (ow18 _ (by omega))⟩)
    · refine r_iconst C ((-1)) (by decide) dX4_inside_16 ?_
      exact hret f ((-1)) _ _ dX4_inside_17 (by unfold aIns; rw [if_neg (by omega)]) (⟨hM, fun _ _ => rfl⟩)
set_option maxHeartbeats 4000000 in
set_option maxRecDepth 100000 in
/-- nearest -/
theorem c_X4_nearest (G : va_G) (tc : Nat → ClassId) (l : Launch) (ad : Nat → Nat) (N : Nat) (f : Nat → va_E) (s : SG) (hM : MI tc ad f s) (ho : okS s) (hN : 98 ≤ N) (z w : Int) (hz : inR z) (hw : inR w)   : Ct G tc l yX4_nearest wsX4_nearest { frames := 4, cells := 0, slots := 0, locals := 97 } 0 0 [.ref (ad (88)), .int (iI (z)), .int (iI (w))] ad N f (poI ad N (aNea s z w) (fun f' => MI tc ad f' s ∧ ∀ q, (q < 88 ∨ 98 ≤ q) → f' q = f q)) := by
  obtain ⟨⟨x1, x2, x3, x4, m88⟩, m89', ⟨bb, m90, hbb⟩, ⟨sb, m91, hsb⟩, ⟨ig, m92, hig⟩, m93, ⟨wc, wv, wo, wn, m94, m95, m96, m97⟩⟩ := id hM
  have m89 : f 89 = eI tc 655 (fun j => iI ((nwF ((cur s).1, (cur s).2.1, (cur s).2.2.1, (cur s).2.2.2) j : Nat) : Int)) := m89'
  obtain ⟨⟨⟨a1, a2⟩, ⟨a3, a4⟩, ⟨a5, a6⟩, a7, a8, a9, a10⟩, o2, o3, o4, o5, o6⟩ := id ho
  refine stI (cc := cX4_nearest) (maxL := 7) (lv := [(0, .ref (ad (88))), (1, .int (iI (z))), (2, .int (iI (w)))]) (by decide) rfl (Nat.le_of_ble_eq_true rfl) rfl (fun X C hret => ?_)
  have m0 : Cond.fieldLink RX4 7 "WordSamplesModel" "now" "[I" ∈ wsX4_nearest := by decide +kernel
  have m1 : ∀ w ∈ wsX40, w ∈ wsX4_nearest := by decide +kernel
  have m2 : Cond.fieldLink RX4 108 "WordSamplesModel" "both" "I" ∈ wsX4_nearest := by decide +kernel
  have m3 : Cond.fieldLink RX4 102 "WordSamplesModel" "shared" "I" ∈ wsX4_nearest := by decide +kernel
  have m4 : Cond.fieldLink RX4 99 "WordSamplesModel" "common" "I" ∈ wsX4_nearest := by decide +kernel
  refine r_aload_n C dX4_nearest_0 rfl rfl ?_
  refine r_iload_n C dX4_nearest_1 rfl rfl ?_
  refine r_callV (As := [.int (iI (z))]) (rest := []) (na := 1) C (c_X4_isRow G tc l ad N _ s hM ho hN z hz) gX4_nearest_X4_isRow rfl rfl rfl (by decide +kernel) ⟨Nat.le_of_ble_eq_true rfl, Nat.le_of_ble_eq_true rfl⟩ (by omega) m88 (show vwCl[4]? = some (RX4, TX4, 15) from rfl) rfl rfl (Nat.le_of_ble_eq_true rfl) dX4_nearest_2 ⟨Nat.le_of_ble_eq_true rfl, Nat.le_of_ble_eq_true rfl⟩ (aft_I (fun f1 hF2 => ?_))
  rw [hF2]
  refine r_if_ne (tgt := 10) C ⟨by omega, by omega⟩ dX4_nearest_5 (by decide) (fun b3 => ?_) (fun b3 => ?_)
  · refine r_iload_n C dX4_nearest_10 rfl rfl ?_
    refine r_iconst C ((0 : Nat) : Int) (by decide) dX4_nearest_11 ?_
    refine r_iconst C ((1 : Nat) : Int) (by decide) dX4_nearest_12 ?_
    refine r_callS (As := [.int (iI (w)), .int (iI ((0 : Nat) : Int)), .int (iI ((1 : Nat) : Int))]) (rest := []) (na := 3) C (c_X4_in G tc l ad N _ (w) ((0 : Nat) : Int) ((1 : Nat) : Int) ⟨by omega, by omega⟩ ⟨by omega, by omega⟩ ⟨by omega, by omega⟩) gX4_nearest_X4_in rfl rfl rfl (by decide +kernel) ⟨Nat.le_of_ble_eq_true rfl, Nat.le_of_ble_eq_true rfl⟩ rfl rfl (Nat.le_of_ble_eq_true rfl) dX4_nearest_13 ⟨Nat.le_of_ble_eq_true rfl, Nat.le_of_ble_eq_true rfl⟩ (aft_I (fun f4 hF5 => ?_))
    rw [hF5]
    refine r_if_ne (tgt := 22) C ⟨by omega, by omega⟩ dX4_nearest_16 (by decide) (fun b6 => ?_) (fun b6 => ?_)
    · rw [show (.int (iI (z)) : Value) = .int (iI ((z.toNat : Nat) : Int)) from by rw [Int.toNat_of_nonneg (by omega)]]
      refine r_bipush C ((-6)) (by decide) dX4_nearest_22 ?_
      refine r_istore_n (lv' := [(0, .ref (ad (88))), (1, .int (iI ((z.toNat : Nat) : Int))), (2, .int (iI (w))), (3, .int (iI ((-6))))]) C dX4_nearest_24 rfl (by decide) rfl ?_
      refine r_iconst C ((-1)) (by decide) dX4_nearest_25 ?_
      refine r_istore (lv' := [(0, .ref (ad (88))), (1, .int (iI ((z.toNat : Nat) : Int))), (2, .int (iI (w))), (3, .int (iI ((-6)))), (4, .int (iI ((-1))))]) C dX4_nearest_26 (by decide) rfl ?_
      refine r_iconst C ((0 : Nat) : Int) (by decide) dX4_nearest_28 ?_
      refine r_istore (lv' := [(0, .ref (ad (88))), (1, .int (iI ((z.toNat : Nat) : Int))), (2, .int (iI (w))), (3, .int (iI ((-6)))), (4, .int (iI ((-1)))), (5, .int (iI ((0 : Nat) : Int)))]) C dX4_nearest_29 (by decide) rfl ?_
      have hL9 : ∀ (m_10 : Nat) (k : Nat) (f7 : Nat → va_E) (ho8 : ∀ q, (q < 88 ∨ 98 ≤ q) → f7 q = f q) (hMl : MI tc ad f7 s) (hk : k ≤ (cur s).2.2.2), (cur s).2.2.2 - k < m_10 → VV X ad N f7 0 0 31 [(0, .ref (ad (88))), (1, .int (iI ((z.toNat : Nat) : Int))), (2, .int (iI (w))), (3, .int (iI ((nea (shN s z w) z.toNat k).1))), (4, .int (iI ((nea (shN s z w) z.toNat k).2))), (5, .int (iI ((k : Nat) : Int)))] [] := by
        intro m_10
        induction m_10 with
        | zero => intros; omega
        | succ m_10 ih11 =>
          intro k f7 ho8 hMl hk hm12
          obtain ⟨⟨n13, n14, n15, n16, n17⟩, n18, -, -, -, -, ⟨n19, n20, n21, n22, n23, n24, n25, n26⟩⟩ := id hMl
          have n27 : f7 89 = eI tc 655 (fun j => iI ((nwF ((cur s).1, (cur s).2.1, (cur s).2.2.1, (cur s).2.2.2) j : Nat) : Int)) := n18
          refine r_iload C dX4_nearest_31 rfl ?_
          refine r_aload_n C dX4_nearest_33 rfl rfl ?_
          refine r_get (v := .ref (ad (89))) C (by omega) n17 (show vwCl[4]? = some (RX4, TX4, 15) from rfl) m1 0 (by decide) m0 rfl rfl dX4_nearest_34 ?_
          refine r_iconst C ((4 : Nat) : Int) (by decide) dX4_nearest_37 ?_
          refine r_iald (x := (iI (((cur s).2.2.2 : Nat) : Int))) C (by omega) n27 (4) rfl (by omega) (Nat.le_of_ble_eq_true rfl) (rfl) dX4_nearest_38 ?_
          refine r_icmp_ge (tgt := 128) C ⟨by omega, by omega⟩ ⟨by omega, by omega⟩ dX4_nearest_39 (by decide) (fun b33 => ?_) (fun b33 => ?_)
          · refine r_iload_n C dX4_nearest_128 rfl rfl ?_
            exact hret f7 ((nea (shN s z w) z.toNat k).1) _ _ dX4_nearest_129 (by unfold aNea; rw [if_pos (by omega), if_pos (by omega), show (cur s).2.2.2 = k from by omega]) (⟨hMl, fun q hq => (ho8 _ (by omega))⟩)
          · refine r_iload C dX4_nearest_42 rfl ?_
            refine r_iload_n C dX4_nearest_44 rfl rfl ?_
            refine r_icmp_eq (tgt := 122) C ⟨by omega, by omega⟩ ⟨by omega, by omega⟩ dX4_nearest_45 (by decide) (fun b34 => ?_) (fun b34 => ?_)
            · refine r_lveq (lv' := [(0, .ref (ad (88))), (1, .int (iI ((z.toNat : Nat) : Int))), (2, .int (iI (w))), (3, .int (iI ((nea (shN s z w) z.toNat (k + 1)).1))), (4, .int (iI ((nea (shN s z w) z.toNat (k + 1)).2))), (5, .int (iI ((k : Nat) : Int)))]) (by rw [nea_skip (sh := shN s z w) (by omega)]) ?_
              refine r_iinc (lv' := [(0, .ref (ad (88))), (1, .int (iI ((z.toNat : Nat) : Int))), (2, .int (iI (w))), (3, .int (iI ((nea (shN s z w) z.toNat (k + 1)).1))), (4, .int (iI ((nea (shN s z w) z.toNat (k + 1)).2))), (5, .int (iI ((k + 1 : Nat) : Int)))]) C ((k + 1 : Nat) : Int) (by omega) dX4_nearest_122 rfl (by decide) rfl ?_
              refine r_goto (tgt := 31) C dX4_nearest_125 (by decide) ?_
              exact ih11 (k + 1) f7 (fun q hq => (ho8 _ (by omega))) hMl (by omega) (by omega)
            · refine r_aload_n C dX4_nearest_48 rfl rfl ?_
              refine r_iload_n C dX4_nearest_49 rfl rfl ?_
              refine r_iload C dX4_nearest_50 rfl ?_
              refine r_aload_n C dX4_nearest_52 rfl rfl ?_
              refine r_get (v := .ref (ad (89))) C (by omega) n17 (show vwCl[4]? = some (RX4, TX4, 15) from rfl) m1 0 (by decide) m0 rfl rfl dX4_nearest_53 ?_
              refine r_iconst C ((1 : Nat) : Int) (by decide) dX4_nearest_56 ?_
              refine r_iald (x := (iI (((cur s).1 1 : Nat) : Int))) C (by omega) n27 (1) rfl (by omega) (Nat.le_of_ble_eq_true rfl) (rfl) dX4_nearest_57 ?_
              refine r_callV (As := [.int (iI ((z.toNat : Nat) : Int)), .int (iI ((k : Nat) : Int)), .int (iI (((cur s).1 1 : Nat) : Int))]) (rest := []) (na := 3) C (c_X4_compare G tc l ad N _ s hMl ho hN z.toNat k ((cur s).1 1) (by omega) (by omega) (by omega) _ _ rfl rfl) gX4_nearest_X4_compare rfl rfl rfl (by decide +kernel) ⟨Nat.le_of_ble_eq_true rfl, Nat.le_of_ble_eq_true rfl⟩ (by omega) n17 (show vwCl[4]? = some (RX4, TX4, 15) from rfl) rfl rfl (Nat.le_of_ble_eq_true rfl) dX4_nearest_58 ⟨Nat.le_of_ble_eq_true rfl, Nat.le_of_ble_eq_true rfl⟩ (aft_V (fun f48 hF49 => ?_))
              obtain ⟨⟨c35, v36, o37, n38, k39, k40, k41, k42, hWa44, hWb45⟩, k43, ow46⟩ := hF49
              have e471 := wds_le ho.1 (r := z.toNat) (by omega)
              have e472 := wds_le ho.1 (r := k) (by omega)
              have e473 := eb_le (wds_lt (cur s) z.toNat) (wds_lt (cur s) k)
              have e474 := lcw_le (wds_lt (cur s) z.toNat) (wds_lt (cur s) k) ((cur s).1 1)
              have e475 := mcw_le (wds_lt (cur s) z.toNat) (wds_lt (cur s) k) ((cur s).1 1)
              have e476 := cmw_le (wds (cur s) z.toNat) (wds (cur s) k) ((cur s).1 1)
              have e477 := mcw_rst (wds (cur s) z.toNat) (wds (cur s) k) ((cur s).1 1)
              refine r_iload_n C dX4_nearest_61 rfl rfl ?_
              refine r_if_ne (tgt := 79) C ⟨by omega, by omega⟩ dX4_nearest_62 (by decide) (fun b50 => ?_) (fun b50 => ?_)
              · refine r_aload_n C dX4_nearest_79 rfl rfl ?_
                refine r_get (v := .int (iI ((bth (wds (cur s) z.toNat) (wds (cur s) k) : Nat) : Int))) C (by omega) k43 (show vwCl[4]? = some (RX4, TX4, 15) from rfl) m1 13 (by decide) m2 rfl rfl dX4_nearest_80 ?_
                refine r_aload_n C dX4_nearest_83 rfl rfl ?_
                refine r_callV (As := []) (rest := [.int (iI ((bth (wds (cur s) z.toNat) (wds (cur s) k) : Nat) : Int))]) (na := 0) C (c_X4_either G tc l ad N _ (kno s) (pln s) (wds (cur s) z.toNat) (wds (cur s) k) ((cur s).1 1) n38 e471 e472 e473 e474 e475 hN hWa44.1 hWb45.1 k43 k42) gX4_nearest_X4_either rfl rfl rfl (by decide +kernel) ⟨Nat.le_of_ble_eq_true rfl, Nat.le_of_ble_eq_true rfl⟩ (by omega) k43 (show vwCl[4]? = some (RX4, TX4, 15) from rfl) rfl rfl (Nat.le_of_ble_eq_true rfl) dX4_nearest_84 ⟨Nat.le_of_ble_eq_true rfl, Nat.le_of_ble_eq_true rfl⟩ (aft_I (fun f51 hF52 => ?_))
                rw [hF52]
                refine r_callS (As := [.int (iI ((bth (wds (cur s) z.toNat) (wds (cur s) k) : Nat) : Int)), .int (iI ((eit (wds (cur s) z.toNat) (wds (cur s) k) : Nat) : Int))]) (rest := []) (na := 2) C (c_X4_share G tc l ad N _ (bth (wds (cur s) z.toNat) (wds (cur s) k)) (eit (wds (cur s) z.toNat) (wds (cur s) k)) (by omega) (by omega)) gX4_nearest_X4_share rfl rfl rfl (by decide +kernel) ⟨Nat.le_of_ble_eq_true rfl, Nat.le_of_ble_eq_true rfl⟩ rfl rfl (Nat.le_of_ble_eq_true rfl) dX4_nearest_87 ⟨Nat.le_of_ble_eq_true rfl, Nat.le_of_ble_eq_true rfl⟩ (aft_I (fun f53 hF54 => ?_))
                rw [hF54]
                have hsk : shN s z w k = tru (wds (cur s) z.toNat) (wds (cur s) k) := if_neg (by omega)
                refine r_istore (lv' := [(0, .ref (ad (88))), (1, .int (iI ((z.toNat : Nat) : Int))), (2, .int (iI (w))), (3, .int (iI ((nea (shN s z w) z.toNat k).1))), (4, .int (iI ((nea (shN s z w) z.toNat k).2))), (5, .int (iI ((k : Nat) : Int))), (6, .int (iI ((tru (wds (cur s) z.toNat) (wds (cur s) k) : Nat) : Int)))]) C dX4_nearest_90 (by decide) rfl ?_
                have hnr := nea_rng (sh := shN s z w) z.toNat (M := 640000) (fun o => shN_le ho.1 z w (by omega) o) (n := k)
                have hsl := shN_le ho.1 z w (by omega) k
                refine r_iload C dX4_nearest_92 rfl ?_
                refine r_iload C dX4_nearest_94 rfl ?_
                refine r_icmp_le (tgt := 104) C ⟨by omega, by omega⟩ ⟨by omega, by omega⟩ dX4_nearest_96 (by decide) (fun b55 => ?_) (fun b55 => ?_)
                · refine r_iload_n C dX4_nearest_104 rfl rfl ?_
                  refine r_istore_n (lv' := [(0, .ref (ad (88))), (1, .int (iI ((z.toNat : Nat) : Int))), (2, .int (iI (w))), (3, .int (iI ((nea (shN s z w) z.toNat k).1))), (4, .int (iI ((nea (shN s z w) z.toNat k).2))), (5, .int (iI ((k : Nat) : Int))), (6, .int (iI ((tru (wds (cur s) z.toNat) (wds (cur s) k) : Nat) : Int)))]) C dX4_nearest_105 rfl (by decide) rfl ?_
                  refine r_iload C dX4_nearest_106 rfl ?_
                  refine r_iload C dX4_nearest_108 rfl ?_
                  refine r_icmp_le (tgt := 118) C ⟨by omega, by omega⟩ ⟨by omega, by omega⟩ dX4_nearest_110 (by decide) (fun b56 => ?_) (fun b56 => False.elim (by omega))
                  refine r_iload C dX4_nearest_118 rfl ?_
                  refine r_istore (lv' := [(0, .ref (ad (88))), (1, .int (iI ((z.toNat : Nat) : Int))), (2, .int (iI (w))), (3, .int (iI ((nea (shN s z w) z.toNat k).1))), (4, .int (iI ((nea (shN s z w) z.toNat k).2))), (5, .int (iI ((k : Nat) : Int))), (6, .int (iI ((tru (wds (cur s) z.toNat) (wds (cur s) k) : Nat) : Int)))]) C dX4_nearest_120 (by decide) rfl ?_
                  refine r_lveq (lv' := [(0, .ref (ad (88))), (1, .int (iI ((z.toNat : Nat) : Int))), (2, .int (iI (w))), (3, .int (iI ((nea (shN s z w) z.toNat (k + 1)).1))), (4, .int (iI ((nea (shN s z w) z.toNat (k + 1)).2))), (5, .int (iI ((k : Nat) : Int))), (6, .int (iI ((tru (wds (cur s) z.toNat) (wds (cur s) k) : Nat) : Int)))]) (by rw [nea_old (sh := shN s z w) (by omega) (by omega)]) ?_
                  refine r_iinc (lv' := [(0, .ref (ad (88))), (1, .int (iI ((z.toNat : Nat) : Int))), (2, .int (iI (w))), (3, .int (iI ((nea (shN s z w) z.toNat (k + 1)).1))), (4, .int (iI ((nea (shN s z w) z.toNat (k + 1)).2))), (5, .int (iI ((k + 1 : Nat) : Int))), (6, .int (iI ((tru (wds (cur s) z.toNat) (wds (cur s) k) : Nat) : Int)))]) C ((k + 1 : Nat) : Int) (by omega) dX4_nearest_122 rfl (by decide) rfl ?_
                  refine r_goto (tgt := 31) C dX4_nearest_125 (by decide) ?_
                  refine r_sub (ks := [0, 1, 2, 3, 4, 5]) (lv' := [(0, .ref (ad (88))), (1, .int (iI ((z.toNat : Nat) : Int))), (2, .int (iI (w))), (3, .int (iI ((nea (shN s z w) z.toNat (k + 1)).1))), (4, .int (iI ((nea (shN s z w) z.toNat (k + 1)).2))), (5, .int (iI ((k + 1 : Nat) : Int)))]) rfl ?_
                  have hMi57 : MI tc ad f48 s := M_re hMl k43 k39 k40 k41 k42 (fun q g1 g2 => (ow46 _ (by omega)))
                  exact ih11 (k + 1) f48 (fun q hq => ((ow46 _ (by omega))).trans (ho8 _ (by omega))) hMi57 (by omega) (by omega)
                · refine r_iload C dX4_nearest_99 rfl ?_
                  refine r_goto (tgt := 105) C dX4_nearest_101 (by decide) ?_
                  refine r_istore_n (lv' := [(0, .ref (ad (88))), (1, .int (iI ((z.toNat : Nat) : Int))), (2, .int (iI (w))), (3, .int (iI ((k : Nat) : Int))), (4, .int (iI ((nea (shN s z w) z.toNat k).2))), (5, .int (iI ((k : Nat) : Int))), (6, .int (iI ((tru (wds (cur s) z.toNat) (wds (cur s) k) : Nat) : Int)))]) C dX4_nearest_105 rfl (by decide) rfl ?_
                  refine r_iload C dX4_nearest_106 rfl ?_
                  refine r_iload C dX4_nearest_108 rfl ?_
                  refine r_icmp_le (tgt := 118) C ⟨by omega, by omega⟩ ⟨by omega, by omega⟩ dX4_nearest_110 (by decide) (fun b58 => False.elim (by omega)) (fun b58 => ?_)
                  refine r_iload C dX4_nearest_113 rfl ?_
                  refine r_goto (tgt := 120) C dX4_nearest_115 (by decide) ?_
                  refine r_istore (lv' := [(0, .ref (ad (88))), (1, .int (iI ((z.toNat : Nat) : Int))), (2, .int (iI (w))), (3, .int (iI ((k : Nat) : Int))), (4, .int (iI ((tru (wds (cur s) z.toNat) (wds (cur s) k) : Nat) : Int))), (5, .int (iI ((k : Nat) : Int))), (6, .int (iI ((tru (wds (cur s) z.toNat) (wds (cur s) k) : Nat) : Int)))]) C dX4_nearest_120 (by decide) rfl ?_
                  refine r_lveq (lv' := [(0, .ref (ad (88))), (1, .int (iI ((z.toNat : Nat) : Int))), (2, .int (iI (w))), (3, .int (iI ((nea (shN s z w) z.toNat (k + 1)).1))), (4, .int (iI ((nea (shN s z w) z.toNat (k + 1)).2))), (5, .int (iI ((k : Nat) : Int))), (6, .int (iI ((tru (wds (cur s) z.toNat) (wds (cur s) k) : Nat) : Int)))]) (by rw [nea_new (sh := shN s z w) (by omega) (by omega), hsk]) ?_
                  refine r_iinc (lv' := [(0, .ref (ad (88))), (1, .int (iI ((z.toNat : Nat) : Int))), (2, .int (iI (w))), (3, .int (iI ((nea (shN s z w) z.toNat (k + 1)).1))), (4, .int (iI ((nea (shN s z w) z.toNat (k + 1)).2))), (5, .int (iI ((k + 1 : Nat) : Int))), (6, .int (iI ((tru (wds (cur s) z.toNat) (wds (cur s) k) : Nat) : Int)))]) C ((k + 1 : Nat) : Int) (by omega) dX4_nearest_122 rfl (by decide) rfl ?_
                  refine r_goto (tgt := 31) C dX4_nearest_125 (by decide) ?_
                  refine r_sub (ks := [0, 1, 2, 3, 4, 5]) (lv' := [(0, .ref (ad (88))), (1, .int (iI ((z.toNat : Nat) : Int))), (2, .int (iI (w))), (3, .int (iI ((nea (shN s z w) z.toNat (k + 1)).1))), (4, .int (iI ((nea (shN s z w) z.toNat (k + 1)).2))), (5, .int (iI ((k + 1 : Nat) : Int)))]) rfl ?_
                  have hMi59 : MI tc ad f48 s := M_re hMl k43 k39 k40 k41 k42 (fun q g1 g2 => (ow46 _ (by omega)))
                  exact ih11 (k + 1) f48 (fun q hq => ((ow46 _ (by omega))).trans (ho8 _ (by omega))) hMi59 (by omega) (by omega)
              · refine r_aload_n C dX4_nearest_65 rfl rfl ?_
                refine r_get (v := .int (iI ((lcw (wds (cur s) z.toNat) (wds (cur s) k) ((cur s).1 1) : Nat) : Int))) C (by omega) k43 (show vwCl[4]? = some (RX4, TX4, 15) from rfl) m1 12 (by decide) m3 rfl rfl dX4_nearest_66 ?_
                refine r_aload_n C dX4_nearest_69 rfl rfl ?_
                refine r_get (v := .int (iI ((cmw (wds (cur s) z.toNat) (wds (cur s) k) ((cur s).1 1) : Nat) : Int))) C (by omega) k43 (show vwCl[4]? = some (RX4, TX4, 15) from rfl) m1 11 (by decide) m4 rfl rfl dX4_nearest_70 ?_
                refine r_callS (As := [.int (iI ((lcw (wds (cur s) z.toNat) (wds (cur s) k) ((cur s).1 1) : Nat) : Int)), .int (iI ((cmw (wds (cur s) z.toNat) (wds (cur s) k) ((cur s).1 1) : Nat) : Int))]) (rest := []) (na := 2) C (c_X4_share G tc l ad N _ (lcw (wds (cur s) z.toNat) (wds (cur s) k) ((cur s).1 1)) (cmw (wds (cur s) z.toNat) (wds (cur s) k) ((cur s).1 1)) (by omega) (by omega)) gX4_nearest_X4_share rfl rfl rfl (by decide +kernel) ⟨Nat.le_of_ble_eq_true rfl, Nat.le_of_ble_eq_true rfl⟩ rfl rfl (Nat.le_of_ble_eq_true rfl) dX4_nearest_73 ⟨Nat.le_of_ble_eq_true rfl, Nat.le_of_ble_eq_true rfl⟩ (aft_I (fun f60 hF61 => ?_))
                rw [hF61]
                refine r_goto (tgt := 90) C dX4_nearest_76 (by decide) ?_
                have hsk : shN s z w k = tol (wds (cur s) z.toNat) (wds (cur s) k) ((cur s).1 1) := if_pos (by omega)
                refine r_istore (lv' := [(0, .ref (ad (88))), (1, .int (iI ((z.toNat : Nat) : Int))), (2, .int (iI (w))), (3, .int (iI ((nea (shN s z w) z.toNat k).1))), (4, .int (iI ((nea (shN s z w) z.toNat k).2))), (5, .int (iI ((k : Nat) : Int))), (6, .int (iI ((tol (wds (cur s) z.toNat) (wds (cur s) k) ((cur s).1 1) : Nat) : Int)))]) C dX4_nearest_90 (by decide) rfl ?_
                have hnr := nea_rng (sh := shN s z w) z.toNat (M := 640000) (fun o => shN_le ho.1 z w (by omega) o) (n := k)
                have hsl := shN_le ho.1 z w (by omega) k
                refine r_iload C dX4_nearest_92 rfl ?_
                refine r_iload C dX4_nearest_94 rfl ?_
                refine r_icmp_le (tgt := 104) C ⟨by omega, by omega⟩ ⟨by omega, by omega⟩ dX4_nearest_96 (by decide) (fun b62 => ?_) (fun b62 => ?_)
                · refine r_iload_n C dX4_nearest_104 rfl rfl ?_
                  refine r_istore_n (lv' := [(0, .ref (ad (88))), (1, .int (iI ((z.toNat : Nat) : Int))), (2, .int (iI (w))), (3, .int (iI ((nea (shN s z w) z.toNat k).1))), (4, .int (iI ((nea (shN s z w) z.toNat k).2))), (5, .int (iI ((k : Nat) : Int))), (6, .int (iI ((tol (wds (cur s) z.toNat) (wds (cur s) k) ((cur s).1 1) : Nat) : Int)))]) C dX4_nearest_105 rfl (by decide) rfl ?_
                  refine r_iload C dX4_nearest_106 rfl ?_
                  refine r_iload C dX4_nearest_108 rfl ?_
                  refine r_icmp_le (tgt := 118) C ⟨by omega, by omega⟩ ⟨by omega, by omega⟩ dX4_nearest_110 (by decide) (fun b63 => ?_) (fun b63 => False.elim (by omega))
                  refine r_iload C dX4_nearest_118 rfl ?_
                  refine r_istore (lv' := [(0, .ref (ad (88))), (1, .int (iI ((z.toNat : Nat) : Int))), (2, .int (iI (w))), (3, .int (iI ((nea (shN s z w) z.toNat k).1))), (4, .int (iI ((nea (shN s z w) z.toNat k).2))), (5, .int (iI ((k : Nat) : Int))), (6, .int (iI ((tol (wds (cur s) z.toNat) (wds (cur s) k) ((cur s).1 1) : Nat) : Int)))]) C dX4_nearest_120 (by decide) rfl ?_
                  refine r_lveq (lv' := [(0, .ref (ad (88))), (1, .int (iI ((z.toNat : Nat) : Int))), (2, .int (iI (w))), (3, .int (iI ((nea (shN s z w) z.toNat (k + 1)).1))), (4, .int (iI ((nea (shN s z w) z.toNat (k + 1)).2))), (5, .int (iI ((k : Nat) : Int))), (6, .int (iI ((tol (wds (cur s) z.toNat) (wds (cur s) k) ((cur s).1 1) : Nat) : Int)))]) (by rw [nea_old (sh := shN s z w) (by omega) (by omega)]) ?_
                  refine r_iinc (lv' := [(0, .ref (ad (88))), (1, .int (iI ((z.toNat : Nat) : Int))), (2, .int (iI (w))), (3, .int (iI ((nea (shN s z w) z.toNat (k + 1)).1))), (4, .int (iI ((nea (shN s z w) z.toNat (k + 1)).2))), (5, .int (iI ((k + 1 : Nat) : Int))), (6, .int (iI ((tol (wds (cur s) z.toNat) (wds (cur s) k) ((cur s).1 1) : Nat) : Int)))]) C ((k + 1 : Nat) : Int) (by omega) dX4_nearest_122 rfl (by decide) rfl ?_
                  refine r_goto (tgt := 31) C dX4_nearest_125 (by decide) ?_
                  refine r_sub (ks := [0, 1, 2, 3, 4, 5]) (lv' := [(0, .ref (ad (88))), (1, .int (iI ((z.toNat : Nat) : Int))), (2, .int (iI (w))), (3, .int (iI ((nea (shN s z w) z.toNat (k + 1)).1))), (4, .int (iI ((nea (shN s z w) z.toNat (k + 1)).2))), (5, .int (iI ((k + 1 : Nat) : Int)))]) rfl ?_
                  have hMi64 : MI tc ad f48 s := M_re hMl k43 k39 k40 k41 k42 (fun q g1 g2 => (ow46 _ (by omega)))
                  exact ih11 (k + 1) f48 (fun q hq => ((ow46 _ (by omega))).trans (ho8 _ (by omega))) hMi64 (by omega) (by omega)
                · refine r_iload C dX4_nearest_99 rfl ?_
                  refine r_goto (tgt := 105) C dX4_nearest_101 (by decide) ?_
                  refine r_istore_n (lv' := [(0, .ref (ad (88))), (1, .int (iI ((z.toNat : Nat) : Int))), (2, .int (iI (w))), (3, .int (iI ((k : Nat) : Int))), (4, .int (iI ((nea (shN s z w) z.toNat k).2))), (5, .int (iI ((k : Nat) : Int))), (6, .int (iI ((tol (wds (cur s) z.toNat) (wds (cur s) k) ((cur s).1 1) : Nat) : Int)))]) C dX4_nearest_105 rfl (by decide) rfl ?_
                  refine r_iload C dX4_nearest_106 rfl ?_
                  refine r_iload C dX4_nearest_108 rfl ?_
                  refine r_icmp_le (tgt := 118) C ⟨by omega, by omega⟩ ⟨by omega, by omega⟩ dX4_nearest_110 (by decide) (fun b65 => False.elim (by omega)) (fun b65 => ?_)
                  refine r_iload C dX4_nearest_113 rfl ?_
                  refine r_goto (tgt := 120) C dX4_nearest_115 (by decide) ?_
                  refine r_istore (lv' := [(0, .ref (ad (88))), (1, .int (iI ((z.toNat : Nat) : Int))), (2, .int (iI (w))), (3, .int (iI ((k : Nat) : Int))), (4, .int (iI ((tol (wds (cur s) z.toNat) (wds (cur s) k) ((cur s).1 1) : Nat) : Int))), (5, .int (iI ((k : Nat) : Int))), (6, .int (iI ((tol (wds (cur s) z.toNat) (wds (cur s) k) ((cur s).1 1) : Nat) : Int)))]) C dX4_nearest_120 (by decide) rfl ?_
                  refine r_lveq (lv' := [(0, .ref (ad (88))), (1, .int (iI ((z.toNat : Nat) : Int))), (2, .int (iI (w))), (3, .int (iI ((nea (shN s z w) z.toNat (k + 1)).1))), (4, .int (iI ((nea (shN s z w) z.toNat (k + 1)).2))), (5, .int (iI ((k : Nat) : Int))), (6, .int (iI ((tol (wds (cur s) z.toNat) (wds (cur s) k) ((cur s).1 1) : Nat) : Int)))]) (by rw [nea_new (sh := shN s z w) (by omega) (by omega), hsk]) ?_
                  refine r_iinc (lv' := [(0, .ref (ad (88))), (1, .int (iI ((z.toNat : Nat) : Int))), (2, .int (iI (w))), (3, .int (iI ((nea (shN s z w) z.toNat (k + 1)).1))), (4, .int (iI ((nea (shN s z w) z.toNat (k + 1)).2))), (5, .int (iI ((k + 1 : Nat) : Int))), (6, .int (iI ((tol (wds (cur s) z.toNat) (wds (cur s) k) ((cur s).1 1) : Nat) : Int)))]) C ((k + 1 : Nat) : Int) (by omega) dX4_nearest_122 rfl (by decide) rfl ?_
                  refine r_goto (tgt := 31) C dX4_nearest_125 (by decide) ?_
                  refine r_sub (ks := [0, 1, 2, 3, 4, 5]) (lv' := [(0, .ref (ad (88))), (1, .int (iI ((z.toNat : Nat) : Int))), (2, .int (iI (w))), (3, .int (iI ((nea (shN s z w) z.toNat (k + 1)).1))), (4, .int (iI ((nea (shN s z w) z.toNat (k + 1)).2))), (5, .int (iI ((k + 1 : Nat) : Int)))]) rfl ?_
                  have hMi66 : MI tc ad f48 s := M_re hMl k43 k39 k40 k41 k42 (fun q g1 g2 => (ow46 _ (by omega)))
                  exact ih11 (k + 1) f48 (fun q hq => ((ow46 _ (by omega))).trans (ho8 _ (by omega))) hMi66 (by omega) (by omega)
      exact hL9 _ 0 f (fun _ _ => rfl) hM (by omega) (Nat.lt_succ_self _)
    · refine r_bipush C ((-2)) (by decide) dX4_nearest_19 ?_
      exact hret f ((-2)) _ _ dX4_nearest_21 (by unfold aNea; rw [if_pos (by omega), if_neg (by omega)]) (⟨hM, fun _ _ => rfl⟩)
  · refine r_iconst C ((-1)) (by decide) dX4_nearest_8 ?_
    exact hret f ((-1)) _ _ dX4_nearest_9 (by unfold aNea; rw [if_neg (by omega)]) (⟨hM, fun _ _ => rfl⟩)
set_option maxHeartbeats 4000000 in
set_option maxRecDepth 100000 in
/-- candidates -/
theorem c_X4_candidates (G : va_G) (tc : Nat → ClassId) (l : Launch) (ad : Nat → Nat) (N : Nat) (f : Nat → va_E) (s : SG) (hM : MI tc ad f s) (ho : okS s) (hN : 98 ≤ N) (z : Int) (hz : inR z)   : Ct G tc l yX4_candidates wsX4_candidates { frames := 4, cells := 0, slots := 0, locals := 97 } 0 0 [.ref (ad (88)), .int (iI (z))] ad N f (poI ad N (aCan s z) (fun f' => MI tc ad f' s ∧ ∀ q, (q < 88 ∨ 98 ≤ q) → f' q = f q)) := by
  obtain ⟨⟨x1, x2, x3, x4, m88⟩, m89', ⟨bb, m90, hbb⟩, ⟨sb, m91, hsb⟩, ⟨ig, m92, hig⟩, m93, ⟨wc, wv, wo, wn, m94, m95, m96, m97⟩⟩ := id hM
  have m89 : f 89 = eI tc 655 (fun j => iI ((nwF ((cur s).1, (cur s).2.1, (cur s).2.2.1, (cur s).2.2.2) j : Nat) : Int)) := m89'
  obtain ⟨⟨⟨a1, a2⟩, ⟨a3, a4⟩, ⟨a5, a6⟩, a7, a8, a9, a10⟩, o2, o3, o4, o5, o6⟩ := id ho
  refine stI (cc := cX4_candidates) (maxL := 5) (lv := [(0, .ref (ad (88))), (1, .int (iI (z)))]) (by decide) rfl (Nat.le_of_ble_eq_true rfl) rfl (fun X C hret => ?_)
  have m0 : Cond.fieldLink RX4 7 "WordSamplesModel" "now" "[I" ∈ wsX4_candidates := by decide +kernel
  have m1 : ∀ w ∈ wsX40, w ∈ wsX4_candidates := by decide +kernel
  refine r_aload_n C dX4_candidates_0 rfl rfl ?_
  refine r_iload_n C dX4_candidates_1 rfl rfl ?_
  refine r_callV (As := [.int (iI (z))]) (rest := []) (na := 1) C (c_X4_isRow G tc l ad N _ s hM ho hN z hz) gX4_candidates_X4_isRow rfl rfl rfl (by decide +kernel) ⟨Nat.le_of_ble_eq_true rfl, Nat.le_of_ble_eq_true rfl⟩ (by omega) m88 (show vwCl[4]? = some (RX4, TX4, 15) from rfl) rfl rfl (Nat.le_of_ble_eq_true rfl) dX4_candidates_2 ⟨Nat.le_of_ble_eq_true rfl, Nat.le_of_ble_eq_true rfl⟩ (aft_I (fun f1 hF2 => ?_))
  rw [hF2]
  refine r_if_ne (tgt := 10) C ⟨by omega, by omega⟩ dX4_candidates_5 (by decide) (fun b3 => ?_) (fun b3 => ?_)
  · rw [show (.int (iI (z)) : Value) = .int (iI ((z.toNat : Nat) : Int)) from by rw [Int.toNat_of_nonneg (by omega)]]
    refine r_iconst C ((0 : Nat) : Int) (by decide) dX4_candidates_10 ?_
    refine r_istore_n (lv' := [(0, .ref (ad (88))), (1, .int (iI ((z.toNat : Nat) : Int))), (2, .int (iI ((0 : Nat) : Int)))]) C dX4_candidates_11 rfl (by decide) rfl ?_
    refine r_iconst C ((0 : Nat) : Int) (by decide) dX4_candidates_12 ?_
    refine r_istore_n (lv' := [(0, .ref (ad (88))), (1, .int (iI ((z.toNat : Nat) : Int))), (2, .int (iI ((0 : Nat) : Int))), (3, .int (iI ((0 : Nat) : Int)))]) C dX4_candidates_13 rfl (by decide) rfl ?_
    have hL6 : ∀ (m_7 : Nat) (k : Nat) (f4 : Nat → va_E) (ho5 : ∀ q, (q < 88 ∨ 98 ≤ q) → f4 q = f q) (hMl : MI tc ad f4 s) (hk : k ≤ (cur s).2.2.2), (cur s).2.2.2 - k < m_7 → VV X ad N f4 0 0 14 [(0, .ref (ad (88))), (1, .int (iI ((z.toNat : Nat) : Int))), (2, .int (iI ((gre (fun o => low (wds (cur s) z.toNat) (wds (cur s) o) ((cur s).1 1)) z.toNat k : Nat) : Int))), (3, .int (iI ((k : Nat) : Int)))] [] := by
      intro m_7
      induction m_7 with
      | zero => intros; omega
      | succ m_7 ih8 =>
        intro k f4 ho5 hMl hk hm9
        obtain ⟨⟨n10, n11, n12, n13, n14⟩, n15, -, -, -, -, ⟨n16, n17, n18, n19, n20, n21, n22, n23⟩⟩ := id hMl
        have n24 : f4 89 = eI tc 655 (fun j => iI ((nwF ((cur s).1, (cur s).2.1, (cur s).2.2.1, (cur s).2.2.2) j : Nat) : Int)) := n15
        refine r_iload_n C dX4_candidates_14 rfl rfl ?_
        refine r_aload_n C dX4_candidates_15 rfl rfl ?_
        refine r_get (v := .ref (ad (89))) C (by omega) n14 (show vwCl[4]? = some (RX4, TX4, 15) from rfl) m1 0 (by decide) m0 rfl rfl dX4_candidates_16 ?_
        refine r_iconst C ((4 : Nat) : Int) (by decide) dX4_candidates_19 ?_
        refine r_iald (x := (iI (((cur s).2.2.2 : Nat) : Int))) C (by omega) n24 (4) rfl (by omega) (Nat.le_of_ble_eq_true rfl) (rfl) dX4_candidates_20 ?_
        refine r_icmp_ge (tgt := 64) C ⟨by omega, by omega⟩ ⟨by omega, by omega⟩ dX4_candidates_21 (by decide) (fun b30 => ?_) (fun b30 => ?_)
        · have hke : k = (cur s).2.2.2 := by omega
          refine r_iconst C ((0 : Nat) : Int) (by decide) dX4_candidates_64 ?_
          refine r_istore_n (lv' := [(0, .ref (ad (88))), (1, .int (iI ((z.toNat : Nat) : Int))), (2, .int (iI ((gre (fun o => low (wds (cur s) z.toNat) (wds (cur s) o) ((cur s).1 1)) z.toNat k : Nat) : Int))), (3, .int (iI ((0 : Nat) : Int)))]) C dX4_candidates_65 rfl (by decide) rfl ?_
          refine r_lveq (lv' := [(0, .ref (ad (88))), (1, .int (iI ((z.toNat : Nat) : Int))), (2, .int (iI ((gre (fun o => low (wds (cur s) z.toNat) (wds (cur s) o) ((cur s).1 1)) z.toNat ((cur s).2.2.2) : Nat) : Int))), (3, .int (iI ((0 : Nat) : Int)))]) (by rw [hke]) ?_
          refine r_iconst C ((0 : Nat) : Int) (by decide) dX4_candidates_66 ?_
          refine r_istore (lv' := [(0, .ref (ad (88))), (1, .int (iI ((z.toNat : Nat) : Int))), (2, .int (iI ((gre (fun o => low (wds (cur s) z.toNat) (wds (cur s) o) ((cur s).1 1)) z.toNat ((cur s).2.2.2) : Nat) : Int))), (3, .int (iI ((0 : Nat) : Int))), (4, .int (iI ((0 : Nat) : Int)))]) C dX4_candidates_67 (by decide) rfl ?_
          have hL33 : ∀ (m_34 : Nat) (k : Nat) (f31 : Nat → va_E) (ho32 : ∀ q, (q < 88 ∨ 98 ≤ q) → f31 q = f4 q) (hMl : MI tc ad f31 s) (hk : k ≤ (cur s).2.2.2), (cur s).2.2.2 - k < m_34 → VV X ad N f31 0 0 69 [(0, .ref (ad (88))), (1, .int (iI ((z.toNat : Nat) : Int))), (2, .int (iI ((gre (fun o => low (wds (cur s) z.toNat) (wds (cur s) o) ((cur s).1 1)) z.toNat ((cur s).2.2.2) : Nat) : Int))), (3, .int (iI ((cnd (fun o => upp (wds (cur s) z.toNat) (wds (cur s) o) ((cur s).1 1)) (gre (fun o => low (wds (cur s) z.toNat) (wds (cur s) o) ((cur s).1 1)) z.toNat (cur s).2.2.2) z.toNat k : Nat) : Int))), (4, .int (iI ((k : Nat) : Int)))] [] := by
            intro m_34
            induction m_34 with
            | zero => intros; omega
            | succ m_34 ih35 =>
              intro k f31 ho32 hMl hk hm36
              obtain ⟨⟨n37, n38, n39, n40, n41⟩, n42, -, -, -, -, ⟨n43, n44, n45, n46, n47, n48, n49, n50⟩⟩ := id hMl
              have n51 : f31 89 = eI tc 655 (fun j => iI ((nwF ((cur s).1, (cur s).2.1, (cur s).2.2.1, (cur s).2.2.2) j : Nat) : Int)) := n42
              refine r_iload C dX4_candidates_69 rfl ?_
              refine r_aload_n C dX4_candidates_71 rfl rfl ?_
              refine r_get (v := .ref (ad (89))) C (by omega) n41 (show vwCl[4]? = some (RX4, TX4, 15) from rfl) m1 0 (by decide) m0 rfl rfl dX4_candidates_72 ?_
              refine r_iconst C ((4 : Nat) : Int) (by decide) dX4_candidates_75 ?_
              refine r_iald (x := (iI (((cur s).2.2.2 : Nat) : Int))) C (by omega) n51 (4) rfl (by omega) (Nat.le_of_ble_eq_true rfl) (rfl) dX4_candidates_76 ?_
              refine r_icmp_ge (tgt := 124) C ⟨by omega, by omega⟩ ⟨by omega, by omega⟩ dX4_candidates_77 (by decide) (fun b57 => ?_) (fun b57 => ?_)
              · refine r_iload_n C dX4_candidates_124 rfl rfl ?_
                exact hret f31 ((cnd (fun o => upp (wds (cur s) z.toNat) (wds (cur s) o) ((cur s).1 1)) (gre (fun o => low (wds (cur s) z.toNat) (wds (cur s) o) ((cur s).1 1)) z.toNat (cur s).2.2.2) z.toNat k : Nat) : Int) _ _ dX4_candidates_125 (by unfold aCan; rw [if_pos (by omega), show (cur s).2.2.2 = k from by omega]) (⟨hMl, fun q hq => ((ho32 _ (by omega))).trans (ho5 _ (by omega))⟩)
              · refine r_iload C dX4_candidates_80 rfl ?_
                refine r_iload_n C dX4_candidates_82 rfl rfl ?_
                refine r_icmp_eq (tgt := 118) C ⟨by omega, by omega⟩ ⟨by omega, by omega⟩ dX4_candidates_83 (by decide) (fun b58 => ?_) (fun b58 => ?_)
                · refine r_lveq (lv' := [(0, .ref (ad (88))), (1, .int (iI ((z.toNat : Nat) : Int))), (2, .int (iI ((gre (fun o => low (wds (cur s) z.toNat) (wds (cur s) o) ((cur s).1 1)) z.toNat ((cur s).2.2.2) : Nat) : Int))), (3, .int (iI ((cnd (fun o => upp (wds (cur s) z.toNat) (wds (cur s) o) ((cur s).1 1)) (gre (fun o => low (wds (cur s) z.toNat) (wds (cur s) o) ((cur s).1 1)) z.toNat (cur s).2.2.2) z.toNat (k + 1) : Nat) : Int))), (4, .int (iI ((k : Nat) : Int)))]) (by rw [cnd_old (by omega)]) ?_
                  refine r_iinc (lv' := [(0, .ref (ad (88))), (1, .int (iI ((z.toNat : Nat) : Int))), (2, .int (iI ((gre (fun o => low (wds (cur s) z.toNat) (wds (cur s) o) ((cur s).1 1)) z.toNat ((cur s).2.2.2) : Nat) : Int))), (3, .int (iI ((cnd (fun o => upp (wds (cur s) z.toNat) (wds (cur s) o) ((cur s).1 1)) (gre (fun o => low (wds (cur s) z.toNat) (wds (cur s) o) ((cur s).1 1)) z.toNat (cur s).2.2.2) z.toNat (k + 1) : Nat) : Int))), (4, .int (iI ((k + 1 : Nat) : Int)))]) C ((k + 1 : Nat) : Int) (by omega) dX4_candidates_118 rfl (by decide) rfl ?_
                  refine r_goto (tgt := 69) C dX4_candidates_121 (by decide) ?_
                  exact ih35 (k + 1) f31 (fun q hq => (ho32 _ (by omega))) hMl (by omega) (by omega)
                · refine r_aload_n C dX4_candidates_86 rfl rfl ?_
                  refine r_iload_n C dX4_candidates_87 rfl rfl ?_
                  refine r_iload C dX4_candidates_88 rfl ?_
                  refine r_aload_n C dX4_candidates_90 rfl rfl ?_
                  refine r_get (v := .ref (ad (89))) C (by omega) n41 (show vwCl[4]? = some (RX4, TX4, 15) from rfl) m1 0 (by decide) m0 rfl rfl dX4_candidates_91 ?_
                  refine r_iconst C ((1 : Nat) : Int) (by decide) dX4_candidates_94 ?_
                  refine r_iald (x := (iI (((cur s).1 1 : Nat) : Int))) C (by omega) n51 (1) rfl (by omega) (Nat.le_of_ble_eq_true rfl) (rfl) dX4_candidates_95 ?_
                  refine r_callV (As := [.int (iI ((z.toNat : Nat) : Int)), .int (iI ((k : Nat) : Int)), .int (iI (((cur s).1 1 : Nat) : Int))]) (rest := []) (na := 3) C (c_X4_compare G tc l ad N _ s hMl ho hN z.toNat k ((cur s).1 1) (by omega) (by omega) (by omega) _ _ rfl rfl) gX4_candidates_X4_compare rfl rfl rfl (by decide +kernel) ⟨Nat.le_of_ble_eq_true rfl, Nat.le_of_ble_eq_true rfl⟩ (by omega) n41 (show vwCl[4]? = some (RX4, TX4, 15) from rfl) rfl rfl (Nat.le_of_ble_eq_true rfl) dX4_candidates_96 ⟨Nat.le_of_ble_eq_true rfl, Nat.le_of_ble_eq_true rfl⟩ (aft_V (fun f72 hF73 => ?_))
                  obtain ⟨⟨c59, v60, o61, n62, k63, k64, k65, k66, hWa68, hWb69⟩, k67, ow70⟩ := hF73
                  have e711 := wds_le ho.1 (r := z.toNat) (by omega)
                  have e712 := wds_le ho.1 (r := k) (by omega)
                  have e713 := eb_le (wds_lt (cur s) z.toNat) (wds_lt (cur s) k)
                  have e714 := lcw_le (wds_lt (cur s) z.toNat) (wds_lt (cur s) k) ((cur s).1 1)
                  have e715 := mcw_le (wds_lt (cur s) z.toNat) (wds_lt (cur s) k) ((cur s).1 1)
                  have e716 := cmw_le (wds (cur s) z.toNat) (wds (cur s) k) ((cur s).1 1)
                  have e717 := mcw_rst (wds (cur s) z.toNat) (wds (cur s) k) ((cur s).1 1)
                  refine r_iload_n C dX4_candidates_99 rfl rfl ?_
                  refine r_aload_n C dX4_candidates_100 rfl rfl ?_
                  refine r_callV (As := []) (rest := [.int (iI ((cnd (fun o => upp (wds (cur s) z.toNat) (wds (cur s) o) ((cur s).1 1)) (gre (fun o => low (wds (cur s) z.toNat) (wds (cur s) o) ((cur s).1 1)) z.toNat (cur s).2.2.2) z.toNat k : Nat) : Int))]) (na := 0) C (c_X4_upper G tc l ad N _ (kno s) (pln s) (wds (cur s) z.toNat) (wds (cur s) k) ((cur s).1 1) n62 e711 e712 e713 e714 e715 hN hWa68.1 hWb69.1 k67 k66) gX4_candidates_X4_upper rfl rfl rfl (by decide +kernel) ⟨Nat.le_of_ble_eq_true rfl, Nat.le_of_ble_eq_true rfl⟩ (by omega) k67 (show vwCl[4]? = some (RX4, TX4, 15) from rfl) rfl rfl (Nat.le_of_ble_eq_true rfl) dX4_candidates_101 ⟨Nat.le_of_ble_eq_true rfl, Nat.le_of_ble_eq_true rfl⟩ (aft_I (fun f74 hF75 => ?_))
                  rw [hF75]
                  have hgr := gre_le (lo := (fun o => low (wds (cur s) z.toNat) (wds (cur s) o) ((cur s).1 1))) z.toNat (M := 640000) (fun o ho2 => low_le (wds_le ho.1 (by omega)) (wds_lt _ _) (wds_lt _ _) _) (k := (cur s).2.2.2)
                  have hup := upp_le (wds_le ho.1 (r := z.toNat) (by omega)) (wds_le ho.1 (r := k) (by omega)) (wds_lt (cur s) z.toNat) (wds_lt (cur s) k) ((cur s).1 1)
                  refine r_iload_n C dX4_candidates_104 rfl rfl ?_
                  refine r_icmp_lt (tgt := 115) C ⟨by omega, by omega⟩ ⟨by omega, by omega⟩ dX4_candidates_105 (by decide) (fun b76 => ?_) (fun b76 => ?_)
                  · refine r_iconst C ((0 : Nat) : Int) (by decide) dX4_candidates_115 ?_
                    refine r_ior C dX4_candidates_116 ?_
                    rw [show (.int ((iI ((cnd (fun o => upp (wds (cur s) z.toNat) (wds (cur s) o) ((cur s).1 1)) (gre (fun o => low (wds (cur s) z.toNat) (wds (cur s) o) ((cur s).1 1)) z.toNat (cur s).2.2.2) z.toNat k : Nat) : Int)) ||| (iI ((0 : Nat) : Int))) : Value) = .int (iI ((cnd (fun o => upp (wds (cur s) z.toNat) (wds (cur s) o) ((cur s).1 1)) (gre (fun o => low (wds (cur s) z.toNat) (wds (cur s) o) ((cur s).1 1)) z.toNat (cur s).2.2.2) z.toNat k : Nat) : Int)) from by rw [iI_or, Nat.or_zero]]
                    refine r_istore_n (lv' := [(0, .ref (ad (88))), (1, .int (iI ((z.toNat : Nat) : Int))), (2, .int (iI ((gre (fun o => low (wds (cur s) z.toNat) (wds (cur s) o) ((cur s).1 1)) z.toNat ((cur s).2.2.2) : Nat) : Int))), (3, .int (iI ((cnd (fun o => upp (wds (cur s) z.toNat) (wds (cur s) o) ((cur s).1 1)) (gre (fun o => low (wds (cur s) z.toNat) (wds (cur s) o) ((cur s).1 1)) z.toNat (cur s).2.2.2) z.toNat k : Nat) : Int))), (4, .int (iI ((k : Nat) : Int)))]) C dX4_candidates_117 rfl (by decide) rfl ?_
                    refine r_lveq (lv' := [(0, .ref (ad (88))), (1, .int (iI ((z.toNat : Nat) : Int))), (2, .int (iI ((gre (fun o => low (wds (cur s) z.toNat) (wds (cur s) o) ((cur s).1 1)) z.toNat ((cur s).2.2.2) : Nat) : Int))), (3, .int (iI ((cnd (fun o => upp (wds (cur s) z.toNat) (wds (cur s) o) ((cur s).1 1)) (gre (fun o => low (wds (cur s) z.toNat) (wds (cur s) o) ((cur s).1 1)) z.toNat (cur s).2.2.2) z.toNat (k + 1) : Nat) : Int))), (4, .int (iI ((k : Nat) : Int)))]) (by rw [cnd_old (by omega)]) ?_
                    refine r_iinc (lv' := [(0, .ref (ad (88))), (1, .int (iI ((z.toNat : Nat) : Int))), (2, .int (iI ((gre (fun o => low (wds (cur s) z.toNat) (wds (cur s) o) ((cur s).1 1)) z.toNat ((cur s).2.2.2) : Nat) : Int))), (3, .int (iI ((cnd (fun o => upp (wds (cur s) z.toNat) (wds (cur s) o) ((cur s).1 1)) (gre (fun o => low (wds (cur s) z.toNat) (wds (cur s) o) ((cur s).1 1)) z.toNat (cur s).2.2.2) z.toNat (k + 1) : Nat) : Int))), (4, .int (iI ((k + 1 : Nat) : Int)))]) C ((k + 1 : Nat) : Int) (by omega) dX4_candidates_118 rfl (by decide) rfl ?_
                    refine r_goto (tgt := 69) C dX4_candidates_121 (by decide) ?_
                    have hMi77 : MI tc ad f72 s := M_re hMl k67 k63 k64 k65 k66 (fun q g1 g2 => (ow70 _ (by omega)))
                    exact ih35 (k + 1) f72 (fun q hq => ((ow70 _ (by omega))).trans (ho32 _ (by omega))) hMi77 (by omega) (by omega)
                  · refine r_iconst C ((1 : Nat) : Int) (by decide) dX4_candidates_108 ?_
                    refine r_iload C dX4_candidates_109 rfl ?_
                    refine r_ishl C dX4_candidates_111 ?_
                    rw [show (.int ((iI ((1 : Nat) : Int)) <<< ((iI ((k : Nat) : Int)) &&& 31)) : Value) = .int (iI ((2 ^ k : Nat) : Int)) from by rw [iI_shl1 (by omega)]]
                    refine r_goto (tgt := 116) C dX4_candidates_112 (by decide) ?_
                    refine r_ior C dX4_candidates_116 ?_
                    rw [show (.int ((iI ((cnd (fun o => upp (wds (cur s) z.toNat) (wds (cur s) o) ((cur s).1 1)) (gre (fun o => low (wds (cur s) z.toNat) (wds (cur s) o) ((cur s).1 1)) z.toNat (cur s).2.2.2) z.toNat k : Nat) : Int)) ||| (iI ((2 ^ k : Nat) : Int))) : Value) = .int (iI ((cnd (fun o => upp (wds (cur s) z.toNat) (wds (cur s) o) ((cur s).1 1)) (gre (fun o => low (wds (cur s) z.toNat) (wds (cur s) o) ((cur s).1 1)) z.toNat (cur s).2.2.2) z.toNat k ||| 2 ^ k : Nat) : Int)) from by rw [iI_or]]
                    refine r_istore_n (lv' := [(0, .ref (ad (88))), (1, .int (iI ((z.toNat : Nat) : Int))), (2, .int (iI ((gre (fun o => low (wds (cur s) z.toNat) (wds (cur s) o) ((cur s).1 1)) z.toNat ((cur s).2.2.2) : Nat) : Int))), (3, .int (iI ((cnd (fun o => upp (wds (cur s) z.toNat) (wds (cur s) o) ((cur s).1 1)) (gre (fun o => low (wds (cur s) z.toNat) (wds (cur s) o) ((cur s).1 1)) z.toNat (cur s).2.2.2) z.toNat k ||| 2 ^ k : Nat) : Int))), (4, .int (iI ((k : Nat) : Int)))]) C dX4_candidates_117 rfl (by decide) rfl ?_
                    refine r_lveq (lv' := [(0, .ref (ad (88))), (1, .int (iI ((z.toNat : Nat) : Int))), (2, .int (iI ((gre (fun o => low (wds (cur s) z.toNat) (wds (cur s) o) ((cur s).1 1)) z.toNat ((cur s).2.2.2) : Nat) : Int))), (3, .int (iI ((cnd (fun o => upp (wds (cur s) z.toNat) (wds (cur s) o) ((cur s).1 1)) (gre (fun o => low (wds (cur s) z.toNat) (wds (cur s) o) ((cur s).1 1)) z.toNat (cur s).2.2.2) z.toNat (k + 1) : Nat) : Int))), (4, .int (iI ((k : Nat) : Int)))]) (by rw [cnd_new (by omega) (by omega)]) ?_
                    refine r_iinc (lv' := [(0, .ref (ad (88))), (1, .int (iI ((z.toNat : Nat) : Int))), (2, .int (iI ((gre (fun o => low (wds (cur s) z.toNat) (wds (cur s) o) ((cur s).1 1)) z.toNat ((cur s).2.2.2) : Nat) : Int))), (3, .int (iI ((cnd (fun o => upp (wds (cur s) z.toNat) (wds (cur s) o) ((cur s).1 1)) (gre (fun o => low (wds (cur s) z.toNat) (wds (cur s) o) ((cur s).1 1)) z.toNat (cur s).2.2.2) z.toNat (k + 1) : Nat) : Int))), (4, .int (iI ((k + 1 : Nat) : Int)))]) C ((k + 1 : Nat) : Int) (by omega) dX4_candidates_118 rfl (by decide) rfl ?_
                    refine r_goto (tgt := 69) C dX4_candidates_121 (by decide) ?_
                    have hMi78 : MI tc ad f72 s := M_re hMl k67 k63 k64 k65 k66 (fun q g1 g2 => (ow70 _ (by omega)))
                    exact ih35 (k + 1) f72 (fun q hq => ((ow70 _ (by omega))).trans (ho32 _ (by omega))) hMi78 (by omega) (by omega)
          exact hL33 _ 0 f4 (fun _ _ => rfl) hMl (by omega) (Nat.lt_succ_self _)
        · refine r_iload_n C dX4_candidates_24 rfl rfl ?_
          refine r_iload_n C dX4_candidates_25 rfl rfl ?_
          refine r_icmp_eq (tgt := 58) C ⟨by omega, by omega⟩ ⟨by omega, by omega⟩ dX4_candidates_26 (by decide) (fun b79 => ?_) (fun b79 => ?_)
          · refine r_lveq (lv' := [(0, .ref (ad (88))), (1, .int (iI ((z.toNat : Nat) : Int))), (2, .int (iI ((gre (fun o => low (wds (cur s) z.toNat) (wds (cur s) o) ((cur s).1 1)) z.toNat (k + 1) : Nat) : Int))), (3, .int (iI ((k : Nat) : Int)))]) (by rw [gre_skip (by omega)]) ?_
            refine r_iinc (lv' := [(0, .ref (ad (88))), (1, .int (iI ((z.toNat : Nat) : Int))), (2, .int (iI ((gre (fun o => low (wds (cur s) z.toNat) (wds (cur s) o) ((cur s).1 1)) z.toNat (k + 1) : Nat) : Int))), (3, .int (iI ((k + 1 : Nat) : Int)))]) C ((k + 1 : Nat) : Int) (by omega) dX4_candidates_58 rfl (by decide) rfl ?_
            refine r_goto (tgt := 14) C dX4_candidates_61 (by decide) ?_
            exact ih8 (k + 1) f4 (fun q hq => (ho5 _ (by omega))) hMl (by omega) (by omega)
          · refine r_aload_n C dX4_candidates_29 rfl rfl ?_
            refine r_iload_n C dX4_candidates_30 rfl rfl ?_
            refine r_iload_n C dX4_candidates_31 rfl rfl ?_
            refine r_aload_n C dX4_candidates_32 rfl rfl ?_
            refine r_get (v := .ref (ad (89))) C (by omega) n14 (show vwCl[4]? = some (RX4, TX4, 15) from rfl) m1 0 (by decide) m0 rfl rfl dX4_candidates_33 ?_
            refine r_iconst C ((1 : Nat) : Int) (by decide) dX4_candidates_36 ?_
            refine r_iald (x := (iI (((cur s).1 1 : Nat) : Int))) C (by omega) n24 (1) rfl (by omega) (Nat.le_of_ble_eq_true rfl) (rfl) dX4_candidates_37 ?_
            refine r_callV (As := [.int (iI ((z.toNat : Nat) : Int)), .int (iI ((k : Nat) : Int)), .int (iI (((cur s).1 1 : Nat) : Int))]) (rest := []) (na := 3) C (c_X4_compare G tc l ad N _ s hMl ho hN z.toNat k ((cur s).1 1) (by omega) (by omega) (by omega) _ _ rfl rfl) gX4_candidates_X4_compare rfl rfl rfl (by decide +kernel) ⟨Nat.le_of_ble_eq_true rfl, Nat.le_of_ble_eq_true rfl⟩ (by omega) n14 (show vwCl[4]? = some (RX4, TX4, 15) from rfl) rfl rfl (Nat.le_of_ble_eq_true rfl) dX4_candidates_38 ⟨Nat.le_of_ble_eq_true rfl, Nat.le_of_ble_eq_true rfl⟩ (aft_V (fun f93 hF94 => ?_))
            obtain ⟨⟨c80, v81, o82, n83, k84, k85, k86, k87, hWa89, hWb90⟩, k88, ow91⟩ := hF94
            have e921 := wds_le ho.1 (r := z.toNat) (by omega)
            have e922 := wds_le ho.1 (r := k) (by omega)
            have e923 := eb_le (wds_lt (cur s) z.toNat) (wds_lt (cur s) k)
            have e924 := lcw_le (wds_lt (cur s) z.toNat) (wds_lt (cur s) k) ((cur s).1 1)
            have e925 := mcw_le (wds_lt (cur s) z.toNat) (wds_lt (cur s) k) ((cur s).1 1)
            have e926 := cmw_le (wds (cur s) z.toNat) (wds (cur s) k) ((cur s).1 1)
            have e927 := mcw_rst (wds (cur s) z.toNat) (wds (cur s) k) ((cur s).1 1)
            refine r_aload_n C dX4_candidates_41 rfl rfl ?_
            refine r_callV (As := []) (rest := []) (na := 0) C (c_X4_lower G tc l ad N _ (kno s) (pln s) (wds (cur s) z.toNat) (wds (cur s) k) ((cur s).1 1) n83 e921 e922 e923 e924 e925 hN hWa89.1 hWb90.1 k88 k87) gX4_candidates_X4_lower rfl rfl rfl (by decide +kernel) ⟨Nat.le_of_ble_eq_true rfl, Nat.le_of_ble_eq_true rfl⟩ (by omega) k88 (show vwCl[4]? = some (RX4, TX4, 15) from rfl) rfl rfl (Nat.le_of_ble_eq_true rfl) dX4_candidates_42 ⟨Nat.le_of_ble_eq_true rfl, Nat.le_of_ble_eq_true rfl⟩ (aft_I (fun f95 hF96 => ?_))
            rw [hF96]
            have hgr := gre_le (lo := (fun o => low (wds (cur s) z.toNat) (wds (cur s) o) ((cur s).1 1))) z.toNat (M := 640000) (fun o ho2 => low_le (wds_le ho.1 (by omega)) (wds_lt _ _) (wds_lt _ _) _) (k := k)
            have hlo := low_le (wds_le ho.1 (r := z.toNat) (by omega)) (wds_lt (cur s) z.toNat) (wds_lt (cur s) k) ((cur s).1 1)
            refine r_iload_n C dX4_candidates_45 rfl rfl ?_
            refine r_icmp_le (tgt := 56) C ⟨by omega, by omega⟩ ⟨by omega, by omega⟩ dX4_candidates_46 (by decide) (fun b97 => ?_) (fun b97 => ?_)
            · refine r_iload_n C dX4_candidates_56 rfl rfl ?_
              rw [show (.int (iI ((gre (fun o => low (wds (cur s) z.toNat) (wds (cur s) o) ((cur s).1 1)) z.toNat k : Nat) : Int)) : Value) = .int (iI ((max (gre (fun o => low (wds (cur s) z.toNat) (wds (cur s) o) ((cur s).1 1)) z.toNat k) (low (wds (cur s) z.toNat) (wds (cur s) k) ((cur s).1 1)) : Nat) : Int)) from congrArg (fun q : Nat => Value.int (iI ((q : Nat) : Int))) (show (gre (fun o => low (wds (cur s) z.toNat) (wds (cur s) o) ((cur s).1 1)) z.toNat k : Nat) = max (gre (fun o => low (wds (cur s) z.toNat) (wds (cur s) o) ((cur s).1 1)) z.toNat k) (low (wds (cur s) z.toNat) (wds (cur s) k) ((cur s).1 1)) from by omega)]
              refine r_istore_n (lv' := [(0, .ref (ad (88))), (1, .int (iI ((z.toNat : Nat) : Int))), (2, .int (iI ((max (gre (fun o => low (wds (cur s) z.toNat) (wds (cur s) o) ((cur s).1 1)) z.toNat k) (low (wds (cur s) z.toNat) (wds (cur s) k) ((cur s).1 1)) : Nat) : Int))), (3, .int (iI ((k : Nat) : Int)))]) C dX4_candidates_57 rfl (by decide) rfl ?_
              refine r_lveq (lv' := [(0, .ref (ad (88))), (1, .int (iI ((z.toNat : Nat) : Int))), (2, .int (iI ((gre (fun o => low (wds (cur s) z.toNat) (wds (cur s) o) ((cur s).1 1)) z.toNat (k + 1) : Nat) : Int))), (3, .int (iI ((k : Nat) : Int)))]) (by rw [gre_new (by omega)]) ?_
              refine r_iinc (lv' := [(0, .ref (ad (88))), (1, .int (iI ((z.toNat : Nat) : Int))), (2, .int (iI ((gre (fun o => low (wds (cur s) z.toNat) (wds (cur s) o) ((cur s).1 1)) z.toNat (k + 1) : Nat) : Int))), (3, .int (iI ((k + 1 : Nat) : Int)))]) C ((k + 1 : Nat) : Int) (by omega) dX4_candidates_58 rfl (by decide) rfl ?_
              refine r_goto (tgt := 14) C dX4_candidates_61 (by decide) ?_
              have hMi98 : MI tc ad f93 s := M_re hMl k88 k84 k85 k86 k87 (fun q g1 g2 => (ow91 _ (by omega)))
              exact ih8 (k + 1) f93 (fun q hq => ((ow91 _ (by omega))).trans (ho5 _ (by omega))) hMi98 (by omega) (by omega)
            · refine r_aload_n C dX4_candidates_49 rfl rfl ?_
              refine r_callV (As := []) (rest := []) (na := 0) C (c_X4_lower G tc l ad N _ (kno s) (pln s) (wds (cur s) z.toNat) (wds (cur s) k) ((cur s).1 1) n83 e921 e922 e923 e924 e925 hN hWa89.1 hWb90.1 k88 k87) gX4_candidates_X4_lower rfl rfl rfl (by decide +kernel) ⟨Nat.le_of_ble_eq_true rfl, Nat.le_of_ble_eq_true rfl⟩ (by omega) k88 (show vwCl[4]? = some (RX4, TX4, 15) from rfl) rfl rfl (Nat.le_of_ble_eq_true rfl) dX4_candidates_50 ⟨Nat.le_of_ble_eq_true rfl, Nat.le_of_ble_eq_true rfl⟩ (aft_I (fun f99 hF100 => ?_))
              rw [hF100]
              refine r_goto (tgt := 57) C dX4_candidates_53 (by decide) ?_
              rw [show (.int (iI ((low (wds (cur s) z.toNat) (wds (cur s) k) ((cur s).1 1) : Nat) : Int)) : Value) = .int (iI ((max (gre (fun o => low (wds (cur s) z.toNat) (wds (cur s) o) ((cur s).1 1)) z.toNat k) (low (wds (cur s) z.toNat) (wds (cur s) k) ((cur s).1 1)) : Nat) : Int)) from congrArg (fun q : Nat => Value.int (iI ((q : Nat) : Int))) (show (low (wds (cur s) z.toNat) (wds (cur s) k) ((cur s).1 1) : Nat) = max (gre (fun o => low (wds (cur s) z.toNat) (wds (cur s) o) ((cur s).1 1)) z.toNat k) (low (wds (cur s) z.toNat) (wds (cur s) k) ((cur s).1 1)) from by omega)]
              refine r_istore_n (lv' := [(0, .ref (ad (88))), (1, .int (iI ((z.toNat : Nat) : Int))), (2, .int (iI ((max (gre (fun o => low (wds (cur s) z.toNat) (wds (cur s) o) ((cur s).1 1)) z.toNat k) (low (wds (cur s) z.toNat) (wds (cur s) k) ((cur s).1 1)) : Nat) : Int))), (3, .int (iI ((k : Nat) : Int)))]) C dX4_candidates_57 rfl (by decide) rfl ?_
              refine r_lveq (lv' := [(0, .ref (ad (88))), (1, .int (iI ((z.toNat : Nat) : Int))), (2, .int (iI ((gre (fun o => low (wds (cur s) z.toNat) (wds (cur s) o) ((cur s).1 1)) z.toNat (k + 1) : Nat) : Int))), (3, .int (iI ((k : Nat) : Int)))]) (by rw [gre_new (by omega)]) ?_
              refine r_iinc (lv' := [(0, .ref (ad (88))), (1, .int (iI ((z.toNat : Nat) : Int))), (2, .int (iI ((gre (fun o => low (wds (cur s) z.toNat) (wds (cur s) o) ((cur s).1 1)) z.toNat (k + 1) : Nat) : Int))), (3, .int (iI ((k + 1 : Nat) : Int)))]) C ((k + 1 : Nat) : Int) (by omega) dX4_candidates_58 rfl (by decide) rfl ?_
              refine r_goto (tgt := 14) C dX4_candidates_61 (by decide) ?_
              have hMi101 : MI tc ad f93 s := M_re hMl k88 k84 k85 k86 k87 (fun q g1 g2 => (ow91 _ (by omega)))
              exact ih8 (k + 1) f93 (fun q hq => ((ow91 _ (by omega))).trans (ho5 _ (by omega))) hMi101 (by omega) (by omega)
    exact hL6 _ 0 f (fun _ _ => rfl) hM (by omega) (Nat.lt_succ_self _)
  · refine r_iconst C ((-1)) (by decide) dX4_candidates_8 ?_
    exact hret f ((-1)) _ _ dX4_candidates_9 (by unfold aCan; rw [if_neg (by omega)]) (⟨hM, fun _ _ => rfl⟩)
set_option maxHeartbeats 4000000 in
set_option maxRecDepth 100000 in
/-- off(r, o, kept) -/
theorem c_X4_off (G : va_G) (tc : Nat → ClassId) (l : Launch) (ad : Nat → Nat) (N : Nat) (f : Nat → va_E) (s : SG) (hM : MI tc ad f s) (ho : okS s) (hN : 98 ≤ N) (r o kp : Nat) (hr : r < 10) (ho2 : o < 10) (hkp : kp ≤ 2147483647)   : Ct G tc l yX4_off wsX4_off { frames := 4, cells := 0, slots := 0, locals := 97 } 0 0 [.ref (ad (88)), .int (iI ((r : Nat) : Int)), .int (iI ((o : Nat) : Int)), .int (iI ((kp : Nat) : Int))] ad N f (poI ad N (((err (wds (cur s) r) (wds (cur s) o) kp : Nat) : Int)) (fun f' => MI tc ad f' s ∧ ∀ q, (q < 88 ∨ 98 ≤ q) → f' q = f q)) := by
  obtain ⟨⟨x1, x2, x3, x4, m88⟩, m89', ⟨bb, m90, hbb⟩, ⟨sb, m91, hsb⟩, ⟨ig, m92, hig⟩, m93, ⟨wc, wv, wo, wn, m94, m95, m96, m97⟩⟩ := id hM
  have m89 : f 89 = eI tc 655 (fun j => iI ((nwF ((cur s).1, (cur s).2.1, (cur s).2.2.1, (cur s).2.2.2) j : Nat) : Int)) := m89'
  obtain ⟨⟨⟨a1, a2⟩, ⟨a3, a4⟩, ⟨a5, a6⟩, a7, a8, a9, a10⟩, o2, o3, o4, o5, o6⟩ := id ho
  refine stI (cc := cX4_off) (maxL := 5) (lv := [(0, .ref (ad (88))), (1, .int (iI ((r : Nat) : Int))), (2, .int (iI ((o : Nat) : Int))), (3, .int (iI ((kp : Nat) : Int)))]) (by decide) rfl (Nat.le_of_ble_eq_true rfl) rfl (fun X C hret => ?_)
  have m0 : Cond.fieldLink RX4 102 "WordSamplesModel" "shared" "I" ∈ wsX4_off := by decide +kernel
  have m1 : ∀ w ∈ wsX40, w ∈ wsX4_off := by decide +kernel
  have m2 : Cond.fieldLink RX4 99 "WordSamplesModel" "common" "I" ∈ wsX4_off := by decide +kernel
  have m3 : Cond.fieldLink RX4 108 "WordSamplesModel" "both" "I" ∈ wsX4_off := by decide +kernel
  refine r_aload_n C dX4_off_0 rfl rfl ?_
  refine r_iload_n C dX4_off_1 rfl rfl ?_
  refine r_iload_n C dX4_off_2 rfl rfl ?_
  refine r_iload_n C dX4_off_3 rfl rfl ?_
  refine r_callV (As := [.int (iI ((r : Nat) : Int)), .int (iI ((o : Nat) : Int)), .int (iI ((kp : Nat) : Int))]) (rest := []) (na := 3) C (c_X4_compare G tc l ad N _ s hM ho hN r o kp (by omega) (by omega) (by omega) _ _ rfl rfl) gX4_off_X4_compare rfl rfl rfl (by decide +kernel) ⟨Nat.le_of_ble_eq_true rfl, Nat.le_of_ble_eq_true rfl⟩ (by omega) m88 (show vwCl[4]? = some (RX4, TX4, 15) from rfl) rfl rfl (Nat.le_of_ble_eq_true rfl) dX4_off_4 ⟨Nat.le_of_ble_eq_true rfl, Nat.le_of_ble_eq_true rfl⟩ (aft_V (fun f14 hF15 => ?_))
  obtain ⟨⟨c1, v2, o3, n4, k5, k6, k7, k8, hWa10, hWb11⟩, k9, ow12⟩ := hF15
  have e131 := wds_le ho.1 (r := r) (by omega)
  have e132 := wds_le ho.1 (r := o) (by omega)
  have e133 := eb_le (wds_lt (cur s) r) (wds_lt (cur s) o)
  have e134 := lcw_le (wds_lt (cur s) r) (wds_lt (cur s) o) (kp)
  have e135 := mcw_le (wds_lt (cur s) r) (wds_lt (cur s) o) (kp)
  have e136 := cmw_le (wds (cur s) r) (wds (cur s) o) (kp)
  have e137 := mcw_rst (wds (cur s) r) (wds (cur s) o) (kp)
  have hea := err_abs (wds (cur s) r) (wds (cur s) o) kp
  have het := tol_le (wds_le ho.1 hr) (wds_lt (cur s) r) (wds_lt (cur s) o) kp
  have heu := tru_le (wds_le ho.1 hr) (wds_le ho.1 ho2) (wds_lt (cur s) r) (wds_lt (cur s) o)
  refine r_aload_n C dX4_off_7 rfl rfl ?_
  refine r_get (v := .int (iI ((lcw (wds (cur s) r) (wds (cur s) o) (kp) : Nat) : Int))) C (by omega) k9 (show vwCl[4]? = some (RX4, TX4, 15) from rfl) m1 12 (by decide) m0 rfl rfl dX4_off_8 ?_
  refine r_aload_n C dX4_off_11 rfl rfl ?_
  refine r_get (v := .int (iI ((cmw (wds (cur s) r) (wds (cur s) o) (kp) : Nat) : Int))) C (by omega) k9 (show vwCl[4]? = some (RX4, TX4, 15) from rfl) m1 11 (by decide) m2 rfl rfl dX4_off_12 ?_
  refine r_callS (As := [.int (iI ((lcw (wds (cur s) r) (wds (cur s) o) (kp) : Nat) : Int)), .int (iI ((cmw (wds (cur s) r) (wds (cur s) o) (kp) : Nat) : Int))]) (rest := []) (na := 2) C (c_X4_share G tc l ad N _ (lcw (wds (cur s) r) (wds (cur s) o) (kp)) (cmw (wds (cur s) r) (wds (cur s) o) (kp)) (by omega) (by omega)) gX4_off_X4_share rfl rfl rfl (by decide +kernel) ⟨Nat.le_of_ble_eq_true rfl, Nat.le_of_ble_eq_true rfl⟩ rfl rfl (Nat.le_of_ble_eq_true rfl) dX4_off_15 ⟨Nat.le_of_ble_eq_true rfl, Nat.le_of_ble_eq_true rfl⟩ (aft_I (fun f16 hF17 => ?_))
  rw [hF17]
  refine r_aload_n C dX4_off_18 rfl rfl ?_
  refine r_get (v := .int (iI ((bth (wds (cur s) r) (wds (cur s) o) : Nat) : Int))) C (by omega) k9 (show vwCl[4]? = some (RX4, TX4, 15) from rfl) m1 13 (by decide) m3 rfl rfl dX4_off_19 ?_
  refine r_aload_n C dX4_off_22 rfl rfl ?_
  refine r_callV (As := []) (rest := [.int (iI ((bth (wds (cur s) r) (wds (cur s) o) : Nat) : Int)), .int (iI ((tol (wds (cur s) r) (wds (cur s) o) (kp) : Nat) : Int))]) (na := 0) C (c_X4_either G tc l ad N _ (kno s) (pln s) (wds (cur s) r) (wds (cur s) o) (kp) n4 e131 e132 e133 e134 e135 hN hWa10.1 hWb11.1 k9 k8) gX4_off_X4_either rfl rfl rfl (by decide +kernel) ⟨Nat.le_of_ble_eq_true rfl, Nat.le_of_ble_eq_true rfl⟩ (by omega) k9 (show vwCl[4]? = some (RX4, TX4, 15) from rfl) rfl rfl (Nat.le_of_ble_eq_true rfl) dX4_off_23 ⟨Nat.le_of_ble_eq_true rfl, Nat.le_of_ble_eq_true rfl⟩ (aft_I (fun f18 hF19 => ?_))
  rw [hF19]
  refine r_callS (As := [.int (iI ((bth (wds (cur s) r) (wds (cur s) o) : Nat) : Int)), .int (iI ((eit (wds (cur s) r) (wds (cur s) o) : Nat) : Int))]) (rest := [.int (iI ((tol (wds (cur s) r) (wds (cur s) o) (kp) : Nat) : Int))]) (na := 2) C (c_X4_share G tc l ad N _ (bth (wds (cur s) r) (wds (cur s) o)) (eit (wds (cur s) r) (wds (cur s) o)) (by omega) (by omega)) gX4_off_X4_share rfl rfl rfl (by decide +kernel) ⟨Nat.le_of_ble_eq_true rfl, Nat.le_of_ble_eq_true rfl⟩ rfl rfl (Nat.le_of_ble_eq_true rfl) dX4_off_26 ⟨Nat.le_of_ble_eq_true rfl, Nat.le_of_ble_eq_true rfl⟩ (aft_I (fun f20 hF21 => ?_))
  rw [hF21]
  refine r_isub C (((tol (wds (cur s) r) (wds (cur s) o) (kp) : Nat) : Int) - ((tru (wds (cur s) r) (wds (cur s) o) : Nat) : Int)) rfl dX4_off_29 ?_
  refine r_istore (lv' := [(0, .ref (ad (88))), (1, .int (iI ((r : Nat) : Int))), (2, .int (iI ((o : Nat) : Int))), (3, .int (iI ((kp : Nat) : Int))), (4, .int (iI (((tol (wds (cur s) r) (wds (cur s) o) (kp) : Nat) : Int) - ((tru (wds (cur s) r) (wds (cur s) o) : Nat) : Int))))]) C dX4_off_30 (by decide) rfl ?_
  refine r_iload C dX4_off_32 rfl ?_
  refine r_if_ge (tgt := 43) C ⟨by omega, by omega⟩ dX4_off_34 (by decide) (fun b22 => ?_) (fun b22 => ?_)
  · refine r_iload C dX4_off_43 rfl ?_
    have hMi23 : MI tc ad f14 s := M_re hM k9 k5 k6 k7 k8 (fun q g1 g2 => (ow12 _ (by omega)))
    exact hret f14 (((tol (wds (cur s) r) (wds (cur s) o) (kp) : Nat) : Int) - ((tru (wds (cur s) r) (wds (cur s) o) : Nat) : Int)) _ _ dX4_off_45 (by omega) (⟨hMi23, fun q hq => (ow12 _ (by omega))⟩)
  · refine r_iload C dX4_off_37 rfl ?_
    refine r_ineg C dX4_off_39 ?_
    refine r_goto (tgt := 45) C dX4_off_40 (by decide) ?_
    have hMi24 : MI tc ad f14 s := M_re hM k9 k5 k6 k7 k8 (fun q g1 g2 => (ow12 _ (by omega)))
    exact hret f14 (-(((tol (wds (cur s) r) (wds (cur s) o) (kp) : Nat) : Int) - ((tru (wds (cur s) r) (wds (cur s) o) : Nat) : Int))) _ _ dX4_off_45 (by omega) (⟨hMi24, fun q hq => (ow12 _ (by omega))⟩)
set_option maxHeartbeats 4000000 in
set_option maxRecDepth 100000 in
/-- worst -/
theorem c_X4_worst (G : va_G) (tc : Nat → ClassId) (l : Launch) (ad : Nat → Nat) (N : Nat) (f : Nat → va_E) (s : SG) (hM : MI tc ad f s) (ho : okS s) (hN : 98 ≤ N) (w : Int) (hw : inR w)   : Ct G tc l yX4_worst wsX4_worst { frames := 5, cells := 0, slots := 0, locals := 121 } 0 0 [.ref (ad (88)), .int (iI (w))] ad N f (poI ad N (aWor s w) (fun f' => MI tc ad f' s ∧ ∀ q, (q < 88 ∨ 98 ≤ q) → f' q = f q)) := by
  obtain ⟨⟨x1, x2, x3, x4, m88⟩, m89', ⟨bb, m90, hbb⟩, ⟨sb, m91, hsb⟩, ⟨ig, m92, hig⟩, m93, ⟨wc, wv, wo, wn, m94, m95, m96, m97⟩⟩ := id hM
  have m89 : f 89 = eI tc 655 (fun j => iI ((nwF ((cur s).1, (cur s).2.1, (cur s).2.2.1, (cur s).2.2.2) j : Nat) : Int)) := m89'
  obtain ⟨⟨⟨a1, a2⟩, ⟨a3, a4⟩, ⟨a5, a6⟩, a7, a8, a9, a10⟩, o2, o3, o4, o5, o6⟩ := id ho
  refine stI (cc := cX4_worst) (maxL := 8) (lv := [(0, .ref (ad (88))), (1, .int (iI (w)))]) (by decide) rfl (Nat.le_of_ble_eq_true rfl) rfl (fun X C hret => ?_)
  have m0 : Cond.fieldLink RX4 7 "WordSamplesModel" "now" "[I" ∈ wsX4_worst := by decide +kernel
  have m1 : ∀ w ∈ wsX40, w ∈ wsX4_worst := by decide +kernel
  refine r_iload_n C dX4_worst_0 rfl rfl ?_
  refine r_iconst C ((0 : Nat) : Int) (by decide) dX4_worst_1 ?_
  refine r_iconst C ((2 : Nat) : Int) (by decide) dX4_worst_2 ?_
  refine r_callS (As := [.int (iI (w)), .int (iI ((0 : Nat) : Int)), .int (iI ((2 : Nat) : Int))]) (rest := []) (na := 3) C (c_X4_in G tc l ad N _ (w) ((0 : Nat) : Int) ((2 : Nat) : Int) ⟨by omega, by omega⟩ ⟨by omega, by omega⟩ ⟨by omega, by omega⟩) gX4_worst_X4_in rfl rfl rfl (by decide +kernel) ⟨Nat.le_of_ble_eq_true rfl, Nat.le_of_ble_eq_true rfl⟩ rfl rfl (Nat.le_of_ble_eq_true rfl) dX4_worst_3 ⟨Nat.le_of_ble_eq_true rfl, Nat.le_of_ble_eq_true rfl⟩ (aft_I (fun f1 hF2 => ?_))
  rw [hF2]
  refine r_if_ne (tgt := 12) C ⟨by omega, by omega⟩ dX4_worst_6 (by decide) (fun b3 => ?_) (fun b3 => ?_)
  · refine r_bipush C ((-6)) (by decide) dX4_worst_12 ?_
    refine r_istore_n (lv' := [(0, .ref (ad (88))), (1, .int (iI (w))), (2, .int (iI ((-6))))]) C dX4_worst_14 rfl (by decide) rfl ?_
    refine r_bipush C ((-6)) (by decide) dX4_worst_15 ?_
    refine r_istore_n (lv' := [(0, .ref (ad (88))), (1, .int (iI (w))), (2, .int (iI ((-6)))), (3, .int (iI ((-6))))]) C dX4_worst_17 rfl (by decide) rfl ?_
    refine r_iconst C ((-1)) (by decide) dX4_worst_18 ?_
    refine r_istore (lv' := [(0, .ref (ad (88))), (1, .int (iI (w))), (2, .int (iI ((-6)))), (3, .int (iI ((-6)))), (4, .int (iI ((-1))))]) C dX4_worst_19 (by decide) rfl ?_
    refine r_iconst C ((0 : Nat) : Int) (by decide) dX4_worst_21 ?_
    refine r_istore (lv' := [(0, .ref (ad (88))), (1, .int (iI (w))), (2, .int (iI ((-6)))), (3, .int (iI ((-6)))), (4, .int (iI ((-1)))), (5, .int (iI ((0 : Nat) : Int)))]) C dX4_worst_22 (by decide) rfl ?_
    have hL6 : ∀ (m_7 : Nat) (r : Nat) (f4 : Nat → va_E) (ho5 : ∀ q, (q < 88 ∨ 98 ≤ q) → f4 q = f q) (hMl : MI tc ad f4 s) (hr : r ≤ (cur s).2.2.2), (cur s).2.2.2 - r < m_7 → VV X ad N f4 0 0 24 [(0, .ref (ad (88))), (1, .int (iI (w))), (2, .int (iI ((wro (fun r o => err (wds (cur s) r) (wds (cur s) o) ((cur s).1 1)) (cur s).2.2.2 (-6, -6, -1) r).1))), (3, .int (iI ((wro (fun r o => err (wds (cur s) r) (wds (cur s) o) ((cur s).1 1)) (cur s).2.2.2 (-6, -6, -1) r).2.1))), (4, .int (iI ((wro (fun r o => err (wds (cur s) r) (wds (cur s) o) ((cur s).1 1)) (cur s).2.2.2 (-6, -6, -1) r).2.2))), (5, .int (iI ((r : Nat) : Int)))] [] := by
      intro m_7
      induction m_7 with
      | zero => intros; omega
      | succ m_7 ih8 =>
        intro r f4 ho5 hMl hr hm9
        obtain ⟨⟨n10, n11, n12, n13, n14⟩, n15, -, -, -, -, ⟨n16, n17, n18, n19, n20, n21, n22, n23⟩⟩ := id hMl
        have n24 : f4 89 = eI tc 655 (fun j => iI ((nwF ((cur s).1, (cur s).2.1, (cur s).2.2.1, (cur s).2.2.2) j : Nat) : Int)) := n15
        have hwo := wro_rg (er := (fun r o => err (wds (cur s) r) (wds (cur s) o) ((cur s).1 1))) (R := (cur s).2.2.2) (M := 640000) (fun r o h1 h2 => err_le (wds_le ho.1 (by omega)) (wds_le ho.1 (by omega)) (wds_lt _ _) (wds_lt _ _) _) (F0 := -1) (by omega) r hr
        refine r_iload C dX4_worst_24 rfl ?_
        refine r_aload_n C dX4_worst_26 rfl rfl ?_
        refine r_get (v := .ref (ad (89))) C (by omega) n14 (show vwCl[4]? = some (RX4, TX4, 15) from rfl) m1 0 (by decide) m0 rfl rfl dX4_worst_27 ?_
        refine r_iconst C ((4 : Nat) : Int) (by decide) dX4_worst_30 ?_
        refine r_iald (x := (iI (((cur s).2.2.2 : Nat) : Int))) C (by omega) n24 (4) rfl (by omega) (Nat.le_of_ble_eq_true rfl) (rfl) dX4_worst_31 ?_
        refine r_icmp_ge (tgt := 97) C ⟨by omega, by omega⟩ ⟨by omega, by omega⟩ dX4_worst_32 (by decide) (fun b30 => ?_) (fun b30 => ?_)
        · have hre : r = (cur s).2.2.2 := by omega
          have hT : wro (fun r o => err (wds (cur s) r) (wds (cur s) o) ((cur s).1 1)) (cur s).2.2.2 (-6, -6, -6) (cur s).2.2.2 = wro (fun r o => err (wds (cur s) r) (wds (cur s) o) ((cur s).1 1)) (cur s).2.2.2 (-6, -6, -6) r := by rw [hre]
          have hrl := wro_rel (fun r o => err (wds (cur s) r) (wds (cur s) o) ((cur s).1 1)) (cur s).2.2.2 r
          refine r_iload C dX4_worst_97 rfl ?_
          refine r_if_lt (tgt := 106) C ⟨by omega, by omega⟩ dX4_worst_99 (by decide) (fun b31 => ?_) (fun b31 => ?_)
          · refine r_iload_n C dX4_worst_106 rfl rfl ?_
            refine r_goto (tgt := 121) C dX4_worst_107 (by decide) ?_
            exact hret f4 ((wro (fun r o => err (wds (cur s) r) (wds (cur s) o) ((cur s).1 1)) (cur s).2.2.2 (-6, -6, -1) r).1) _ _ dX4_worst_121 (by unfold aWor; rw [if_pos (by omega), hT]; omega) (⟨hMl, fun q hq => (ho5 _ (by omega))⟩)
          · refine r_iload_n C dX4_worst_102 rfl rfl ?_
            refine r_if_ne (tgt := 110) C ⟨by omega, by omega⟩ dX4_worst_103 (by decide) (fun b32 => ?_) (fun b32 => ?_)
            · refine r_iload_n C dX4_worst_110 rfl rfl ?_
              refine r_iconst C ((1 : Nat) : Int) (by decide) dX4_worst_111 ?_
              refine r_icmp_ne (tgt := 119) C ⟨by omega, by omega⟩ ⟨by omega, by omega⟩ dX4_worst_112 (by decide) (fun b33 => ?_) (fun b33 => ?_)
              · refine r_iload C dX4_worst_119 rfl ?_
                exact hret f4 ((wro (fun r o => err (wds (cur s) r) (wds (cur s) o) ((cur s).1 1)) (cur s).2.2.2 (-6, -6, -1) r).2.2) _ _ dX4_worst_121 (by unfold aWor; rw [if_pos (by omega), hT]; omega) (⟨hMl, fun q hq => (ho5 _ (by omega))⟩)
              · refine r_iload_n C dX4_worst_115 rfl rfl ?_
                refine r_goto (tgt := 121) C dX4_worst_116 (by decide) ?_
                exact hret f4 ((wro (fun r o => err (wds (cur s) r) (wds (cur s) o) ((cur s).1 1)) (cur s).2.2.2 (-6, -6, -1) r).2.1) _ _ dX4_worst_121 (by unfold aWor; rw [if_pos (by omega), hT]; omega) (⟨hMl, fun q hq => (ho5 _ (by omega))⟩)
            · refine r_iload_n C dX4_worst_106 rfl rfl ?_
              refine r_goto (tgt := 121) C dX4_worst_107 (by decide) ?_
              exact hret f4 ((wro (fun r o => err (wds (cur s) r) (wds (cur s) o) ((cur s).1 1)) (cur s).2.2.2 (-6, -6, -1) r).1) _ _ dX4_worst_121 (by unfold aWor; rw [if_pos (by omega), hT]; omega) (⟨hMl, fun q hq => (ho5 _ (by omega))⟩)
        · refine r_iload C dX4_worst_35 rfl ?_
          refine r_iconst C ((1 : Nat) : Int) (by decide) dX4_worst_37 ?_
          refine r_iadd C ((r + 1 : Nat) : Int) (by omega) dX4_worst_38 ?_
          refine r_istore (lv' := [(0, .ref (ad (88))), (1, .int (iI (w))), (2, .int (iI ((wro (fun r o => err (wds (cur s) r) (wds (cur s) o) ((cur s).1 1)) (cur s).2.2.2 (-6, -6, -1) r).1))), (3, .int (iI ((wro (fun r o => err (wds (cur s) r) (wds (cur s) o) ((cur s).1 1)) (cur s).2.2.2 (-6, -6, -1) r).2.1))), (4, .int (iI ((wro (fun r o => err (wds (cur s) r) (wds (cur s) o) ((cur s).1 1)) (cur s).2.2.2 (-6, -6, -1) r).2.2))), (5, .int (iI ((r : Nat) : Int))), (6, .int (iI ((r + 1 : Nat) : Int)))]) C dX4_worst_39 (by decide) rfl ?_
          have hL36 : ∀ (m_37 : Nat) (d : Nat) (f34 : Nat → va_E) (ho35 : ∀ q, (q < 88 ∨ 98 ≤ q) → f34 q = f4 q) (hMm : MI tc ad f34 s) (hd : r + 1 + d ≤ (cur s).2.2.2), (cur s).2.2.2 - (r + 1 + d) < m_37 → VV X ad N f34 0 0 41 [(0, .ref (ad (88))), (1, .int (iI (w))), (2, .int (iI ((wri (fun r o => err (wds (cur s) r) (wds (cur s) o) ((cur s).1 1)) r (wro (fun r o => err (wds (cur s) r) (wds (cur s) o) ((cur s).1 1)) (cur s).2.2.2 (-6, -6, -1) r) d).1))), (3, .int (iI ((wri (fun r o => err (wds (cur s) r) (wds (cur s) o) ((cur s).1 1)) r (wro (fun r o => err (wds (cur s) r) (wds (cur s) o) ((cur s).1 1)) (cur s).2.2.2 (-6, -6, -1) r) d).2.1))), (4, .int (iI ((wri (fun r o => err (wds (cur s) r) (wds (cur s) o) ((cur s).1 1)) r (wro (fun r o => err (wds (cur s) r) (wds (cur s) o) ((cur s).1 1)) (cur s).2.2.2 (-6, -6, -1) r) d).2.2))), (5, .int (iI ((r : Nat) : Int))), (6, .int (iI ((r + 1 + d : Nat) : Int)))] [] := by
            intro m_37
            induction m_37 with
            | zero => intros; omega
            | succ m_37 ih38 =>
              intro d f34 ho35 hMm hd hm39
              obtain ⟨⟨n40, n41, n42, n43, n44⟩, n45, -, -, -, -, ⟨n46, n47, n48, n49, n50, n51, n52, n53⟩⟩ := id hMm
              have n54 : f34 89 = eI tc 655 (fun j => iI ((nwF ((cur s).1, (cur s).2.1, (cur s).2.2.1, (cur s).2.2.2) j : Nat) : Int)) := n45
              refine r_iload C dX4_worst_41 rfl ?_
              refine r_aload_n C dX4_worst_43 rfl rfl ?_
              refine r_get (v := .ref (ad (89))) C (by omega) n44 (show vwCl[4]? = some (RX4, TX4, 15) from rfl) m1 0 (by decide) m0 rfl rfl dX4_worst_44 ?_
              refine r_iconst C ((4 : Nat) : Int) (by decide) dX4_worst_47 ?_
              refine r_iald (x := (iI (((cur s).2.2.2 : Nat) : Int))) C (by omega) n54 (4) rfl (by omega) (Nat.le_of_ble_eq_true rfl) (rfl) dX4_worst_48 ?_
              refine r_icmp_ge (tgt := 91) C ⟨by omega, by omega⟩ ⟨by omega, by omega⟩ dX4_worst_49 (by decide) (fun b60 => ?_) (fun b60 => ?_)
              · refine r_lveq (lv' := [(0, .ref (ad (88))), (1, .int (iI (w))), (2, .int (iI ((wro (fun r o => err (wds (cur s) r) (wds (cur s) o) ((cur s).1 1)) (cur s).2.2.2 (-6, -6, -1) (r + 1)).1))), (3, .int (iI ((wro (fun r o => err (wds (cur s) r) (wds (cur s) o) ((cur s).1 1)) (cur s).2.2.2 (-6, -6, -1) (r + 1)).2.1))), (4, .int (iI ((wro (fun r o => err (wds (cur s) r) (wds (cur s) o) ((cur s).1 1)) (cur s).2.2.2 (-6, -6, -1) (r + 1)).2.2))), (5, .int (iI ((r : Nat) : Int))), (6, .int (iI ((r + 1 + d : Nat) : Int)))]) (by rw [wro, show (cur s).2.2.2 - (r + 1) = d from by omega]) ?_
                refine r_iinc (lv' := [(0, .ref (ad (88))), (1, .int (iI (w))), (2, .int (iI ((wro (fun r o => err (wds (cur s) r) (wds (cur s) o) ((cur s).1 1)) (cur s).2.2.2 (-6, -6, -1) (r + 1)).1))), (3, .int (iI ((wro (fun r o => err (wds (cur s) r) (wds (cur s) o) ((cur s).1 1)) (cur s).2.2.2 (-6, -6, -1) (r + 1)).2.1))), (4, .int (iI ((wro (fun r o => err (wds (cur s) r) (wds (cur s) o) ((cur s).1 1)) (cur s).2.2.2 (-6, -6, -1) (r + 1)).2.2))), (5, .int (iI ((r + 1 : Nat) : Int))), (6, .int (iI ((r + 1 + d : Nat) : Int)))]) C ((r + 1 : Nat) : Int) (by omega) dX4_worst_91 rfl (by decide) rfl ?_
                refine r_goto (tgt := 24) C dX4_worst_94 (by decide) ?_
                refine r_sub (ks := [0, 1, 2, 3, 4, 5]) (lv' := [(0, .ref (ad (88))), (1, .int (iI (w))), (2, .int (iI ((wro (fun r o => err (wds (cur s) r) (wds (cur s) o) ((cur s).1 1)) (cur s).2.2.2 (-6, -6, -1) (r + 1)).1))), (3, .int (iI ((wro (fun r o => err (wds (cur s) r) (wds (cur s) o) ((cur s).1 1)) (cur s).2.2.2 (-6, -6, -1) (r + 1)).2.1))), (4, .int (iI ((wro (fun r o => err (wds (cur s) r) (wds (cur s) o) ((cur s).1 1)) (cur s).2.2.2 (-6, -6, -1) (r + 1)).2.2))), (5, .int (iI ((r + 1 : Nat) : Int)))]) rfl ?_
                exact ih8 (r + 1) f34 (fun q hq => ((ho35 _ (by omega))).trans (ho5 _ (by omega))) hMm (by omega) (by omega)
              · refine r_aload_n C dX4_worst_52 rfl rfl ?_
                refine r_iload C dX4_worst_53 rfl ?_
                refine r_iload C dX4_worst_55 rfl ?_
                refine r_aload_n C dX4_worst_57 rfl rfl ?_
                refine r_get (v := .ref (ad (89))) C (by omega) n44 (show vwCl[4]? = some (RX4, TX4, 15) from rfl) m1 0 (by decide) m0 rfl rfl dX4_worst_58 ?_
                refine r_iconst C ((1 : Nat) : Int) (by decide) dX4_worst_61 ?_
                refine r_iald (x := (iI (((cur s).1 1 : Nat) : Int))) C (by omega) n54 (1) rfl (by omega) (Nat.le_of_ble_eq_true rfl) (rfl) dX4_worst_62 ?_
                refine r_callV (As := [.int (iI ((r : Nat) : Int)), .int (iI ((r + 1 + d : Nat) : Int)), .int (iI (((cur s).1 1 : Nat) : Int))]) (rest := []) (na := 3) C (c_X4_off G tc l ad N _ s hMm ho hN r (r + 1 + d) ((cur s).1 1) (by omega) (by omega) (by omega)) gX4_worst_X4_off rfl rfl rfl (by decide +kernel) ⟨Nat.le_of_ble_eq_true rfl, Nat.le_of_ble_eq_true rfl⟩ (by omega) n44 (show vwCl[4]? = some (RX4, TX4, 15) from rfl) rfl rfl (Nat.le_of_ble_eq_true rfl) dX4_worst_63 ⟨Nat.le_of_ble_eq_true rfl, Nat.le_of_ble_eq_true rfl⟩ (aft_I (fun f63 hF64 => ?_))
                obtain ⟨hMo61, ow62⟩ := hF64
                have hehMo61 := err_le (wds_le ho.1 (r := r) (by omega)) (wds_le ho.1 (r := r + 1 + d) (by omega)) (wds_lt (cur s) r) (wds_lt (cur s) (r + 1 + d)) ((cur s).1 1)
                refine r_istore (lv' := [(0, .ref (ad (88))), (1, .int (iI (w))), (2, .int (iI ((wri (fun r o => err (wds (cur s) r) (wds (cur s) o) ((cur s).1 1)) r (wro (fun r o => err (wds (cur s) r) (wds (cur s) o) ((cur s).1 1)) (cur s).2.2.2 (-6, -6, -1) r) d).1))), (3, .int (iI ((wri (fun r o => err (wds (cur s) r) (wds (cur s) o) ((cur s).1 1)) r (wro (fun r o => err (wds (cur s) r) (wds (cur s) o) ((cur s).1 1)) (cur s).2.2.2 (-6, -6, -1) r) d).2.1))), (4, .int (iI ((wri (fun r o => err (wds (cur s) r) (wds (cur s) o) ((cur s).1 1)) r (wro (fun r o => err (wds (cur s) r) (wds (cur s) o) ((cur s).1 1)) (cur s).2.2.2 (-6, -6, -1) r) d).2.2))), (5, .int (iI ((r : Nat) : Int))), (6, .int (iI ((r + 1 + d : Nat) : Int))), (7, .int (iI ((err (wds (cur s) r) (wds (cur s) (r + 1 + d)) ((cur s).1 1) : Nat) : Int)))]) C dX4_worst_66 (by decide) rfl ?_
                have hwr := wri_rng (er := (fun r o => err (wds (cur s) r) (wds (cur s) o) ((cur s).1 1))) (R := (cur s).2.2.2) (M := 640000) (fun r o h1 h2 => err_le (wds_le ho.1 (by omega)) (wds_le ho.1 (by omega)) (wds_lt _ _) (wds_lt _ _) _) (F0 := -1) (by omega) (r := r) (d := d) (by omega)
                refine r_iload C dX4_worst_68 rfl ?_
                refine r_iload C dX4_worst_70 rfl ?_
                refine r_icmp_le (tgt := 85) C ⟨by omega, by omega⟩ ⟨by omega, by omega⟩ dX4_worst_72 (by decide) (fun b65 => ?_) (fun b65 => ?_)
                · refine r_lveq (lv' := [(0, .ref (ad (88))), (1, .int (iI (w))), (2, .int (iI ((wri (fun r o => err (wds (cur s) r) (wds (cur s) o) ((cur s).1 1)) r (wro (fun r o => err (wds (cur s) r) (wds (cur s) o) ((cur s).1 1)) (cur s).2.2.2 (-6, -6, -1) r) (d + 1)).1))), (3, .int (iI ((wri (fun r o => err (wds (cur s) r) (wds (cur s) o) ((cur s).1 1)) r (wro (fun r o => err (wds (cur s) r) (wds (cur s) o) ((cur s).1 1)) (cur s).2.2.2 (-6, -6, -1) r) (d + 1)).2.1))), (4, .int (iI ((wri (fun r o => err (wds (cur s) r) (wds (cur s) o) ((cur s).1 1)) r (wro (fun r o => err (wds (cur s) r) (wds (cur s) o) ((cur s).1 1)) (cur s).2.2.2 (-6, -6, -1) r) (d + 1)).2.2))), (5, .int (iI ((r : Nat) : Int))), (6, .int (iI ((r + 1 + d : Nat) : Int))), (7, .int (iI ((err (wds (cur s) r) (wds (cur s) (r + 1 + d)) ((cur s).1 1) : Nat) : Int)))]) (by rw [wri_old (by omega)]) ?_
                  refine r_iinc (lv' := [(0, .ref (ad (88))), (1, .int (iI (w))), (2, .int (iI ((wri (fun r o => err (wds (cur s) r) (wds (cur s) o) ((cur s).1 1)) r (wro (fun r o => err (wds (cur s) r) (wds (cur s) o) ((cur s).1 1)) (cur s).2.2.2 (-6, -6, -1) r) (d + 1)).1))), (3, .int (iI ((wri (fun r o => err (wds (cur s) r) (wds (cur s) o) ((cur s).1 1)) r (wro (fun r o => err (wds (cur s) r) (wds (cur s) o) ((cur s).1 1)) (cur s).2.2.2 (-6, -6, -1) r) (d + 1)).2.1))), (4, .int (iI ((wri (fun r o => err (wds (cur s) r) (wds (cur s) o) ((cur s).1 1)) r (wro (fun r o => err (wds (cur s) r) (wds (cur s) o) ((cur s).1 1)) (cur s).2.2.2 (-6, -6, -1) r) (d + 1)).2.2))), (5, .int (iI ((r : Nat) : Int))), (6, .int (iI ((r + 1 + (d + 1) : Nat) : Int))), (7, .int (iI ((err (wds (cur s) r) (wds (cur s) (r + 1 + d)) ((cur s).1 1) : Nat) : Int)))]) C ((r + 1 + (d + 1) : Nat) : Int) (by omega) dX4_worst_85 rfl (by decide) rfl ?_
                  refine r_goto (tgt := 41) C dX4_worst_88 (by decide) ?_
                  refine r_sub (ks := [0, 1, 2, 3, 4, 5, 6]) (lv' := [(0, .ref (ad (88))), (1, .int (iI (w))), (2, .int (iI ((wri (fun r o => err (wds (cur s) r) (wds (cur s) o) ((cur s).1 1)) r (wro (fun r o => err (wds (cur s) r) (wds (cur s) o) ((cur s).1 1)) (cur s).2.2.2 (-6, -6, -1) r) (d + 1)).1))), (3, .int (iI ((wri (fun r o => err (wds (cur s) r) (wds (cur s) o) ((cur s).1 1)) r (wro (fun r o => err (wds (cur s) r) (wds (cur s) o) ((cur s).1 1)) (cur s).2.2.2 (-6, -6, -1) r) (d + 1)).2.1))), (4, .int (iI ((wri (fun r o => err (wds (cur s) r) (wds (cur s) o) ((cur s).1 1)) r (wro (fun r o => err (wds (cur s) r) (wds (cur s) o) ((cur s).1 1)) (cur s).2.2.2 (-6, -6, -1) r) (d + 1)).2.2))), (5, .int (iI ((r : Nat) : Int))), (6, .int (iI ((r + 1 + (d + 1) : Nat) : Int)))]) rfl ?_
                  exact ih38 (d + 1) f63 (fun q hq => ((ow62 _ (by omega))).trans (ho35 _ (by omega))) hMo61 (by omega) (by omega)
                · refine r_iload C dX4_worst_75 rfl ?_
                  refine r_istore_n (lv' := [(0, .ref (ad (88))), (1, .int (iI (w))), (2, .int (iI ((r : Nat) : Int))), (3, .int (iI ((wri (fun r o => err (wds (cur s) r) (wds (cur s) o) ((cur s).1 1)) r (wro (fun r o => err (wds (cur s) r) (wds (cur s) o) ((cur s).1 1)) (cur s).2.2.2 (-6, -6, -1) r) d).2.1))), (4, .int (iI ((wri (fun r o => err (wds (cur s) r) (wds (cur s) o) ((cur s).1 1)) r (wro (fun r o => err (wds (cur s) r) (wds (cur s) o) ((cur s).1 1)) (cur s).2.2.2 (-6, -6, -1) r) d).2.2))), (5, .int (iI ((r : Nat) : Int))), (6, .int (iI ((r + 1 + d : Nat) : Int))), (7, .int (iI ((err (wds (cur s) r) (wds (cur s) (r + 1 + d)) ((cur s).1 1) : Nat) : Int)))]) C dX4_worst_77 rfl (by decide) rfl ?_
                  refine r_iload C dX4_worst_78 rfl ?_
                  refine r_istore_n (lv' := [(0, .ref (ad (88))), (1, .int (iI (w))), (2, .int (iI ((r : Nat) : Int))), (3, .int (iI ((r + 1 + d : Nat) : Int))), (4, .int (iI ((wri (fun r o => err (wds (cur s) r) (wds (cur s) o) ((cur s).1 1)) r (wro (fun r o => err (wds (cur s) r) (wds (cur s) o) ((cur s).1 1)) (cur s).2.2.2 (-6, -6, -1) r) d).2.2))), (5, .int (iI ((r : Nat) : Int))), (6, .int (iI ((r + 1 + d : Nat) : Int))), (7, .int (iI ((err (wds (cur s) r) (wds (cur s) (r + 1 + d)) ((cur s).1 1) : Nat) : Int)))]) C dX4_worst_80 rfl (by decide) rfl ?_
                  refine r_iload C dX4_worst_81 rfl ?_
                  refine r_istore (lv' := [(0, .ref (ad (88))), (1, .int (iI (w))), (2, .int (iI ((r : Nat) : Int))), (3, .int (iI ((r + 1 + d : Nat) : Int))), (4, .int (iI ((err (wds (cur s) r) (wds (cur s) (r + 1 + d)) ((cur s).1 1) : Nat) : Int))), (5, .int (iI ((r : Nat) : Int))), (6, .int (iI ((r + 1 + d : Nat) : Int))), (7, .int (iI ((err (wds (cur s) r) (wds (cur s) (r + 1 + d)) ((cur s).1 1) : Nat) : Int)))]) C dX4_worst_83 (by decide) rfl ?_
                  refine r_lveq (lv' := [(0, .ref (ad (88))), (1, .int (iI (w))), (2, .int (iI ((wri (fun r o => err (wds (cur s) r) (wds (cur s) o) ((cur s).1 1)) r (wro (fun r o => err (wds (cur s) r) (wds (cur s) o) ((cur s).1 1)) (cur s).2.2.2 (-6, -6, -1) r) (d + 1)).1))), (3, .int (iI ((wri (fun r o => err (wds (cur s) r) (wds (cur s) o) ((cur s).1 1)) r (wro (fun r o => err (wds (cur s) r) (wds (cur s) o) ((cur s).1 1)) (cur s).2.2.2 (-6, -6, -1) r) (d + 1)).2.1))), (4, .int (iI ((wri (fun r o => err (wds (cur s) r) (wds (cur s) o) ((cur s).1 1)) r (wro (fun r o => err (wds (cur s) r) (wds (cur s) o) ((cur s).1 1)) (cur s).2.2.2 (-6, -6, -1) r) (d + 1)).2.2))), (5, .int (iI ((r : Nat) : Int))), (6, .int (iI ((r + 1 + d : Nat) : Int))), (7, .int (iI ((err (wds (cur s) r) (wds (cur s) (r + 1 + d)) ((cur s).1 1) : Nat) : Int)))]) (by rw [wri_new (by omega)]) ?_
                  refine r_iinc (lv' := [(0, .ref (ad (88))), (1, .int (iI (w))), (2, .int (iI ((wri (fun r o => err (wds (cur s) r) (wds (cur s) o) ((cur s).1 1)) r (wro (fun r o => err (wds (cur s) r) (wds (cur s) o) ((cur s).1 1)) (cur s).2.2.2 (-6, -6, -1) r) (d + 1)).1))), (3, .int (iI ((wri (fun r o => err (wds (cur s) r) (wds (cur s) o) ((cur s).1 1)) r (wro (fun r o => err (wds (cur s) r) (wds (cur s) o) ((cur s).1 1)) (cur s).2.2.2 (-6, -6, -1) r) (d + 1)).2.1))), (4, .int (iI ((wri (fun r o => err (wds (cur s) r) (wds (cur s) o) ((cur s).1 1)) r (wro (fun r o => err (wds (cur s) r) (wds (cur s) o) ((cur s).1 1)) (cur s).2.2.2 (-6, -6, -1) r) (d + 1)).2.2))), (5, .int (iI ((r : Nat) : Int))), (6, .int (iI ((r + 1 + (d + 1) : Nat) : Int))), (7, .int (iI ((err (wds (cur s) r) (wds (cur s) (r + 1 + d)) ((cur s).1 1) : Nat) : Int)))]) C ((r + 1 + (d + 1) : Nat) : Int) (by omega) dX4_worst_85 rfl (by decide) rfl ?_
                  refine r_goto (tgt := 41) C dX4_worst_88 (by decide) ?_
                  refine r_sub (ks := [0, 1, 2, 3, 4, 5, 6]) (lv' := [(0, .ref (ad (88))), (1, .int (iI (w))), (2, .int (iI ((wri (fun r o => err (wds (cur s) r) (wds (cur s) o) ((cur s).1 1)) r (wro (fun r o => err (wds (cur s) r) (wds (cur s) o) ((cur s).1 1)) (cur s).2.2.2 (-6, -6, -1) r) (d + 1)).1))), (3, .int (iI ((wri (fun r o => err (wds (cur s) r) (wds (cur s) o) ((cur s).1 1)) r (wro (fun r o => err (wds (cur s) r) (wds (cur s) o) ((cur s).1 1)) (cur s).2.2.2 (-6, -6, -1) r) (d + 1)).2.1))), (4, .int (iI ((wri (fun r o => err (wds (cur s) r) (wds (cur s) o) ((cur s).1 1)) r (wro (fun r o => err (wds (cur s) r) (wds (cur s) o) ((cur s).1 1)) (cur s).2.2.2 (-6, -6, -1) r) (d + 1)).2.2))), (5, .int (iI ((r : Nat) : Int))), (6, .int (iI ((r + 1 + (d + 1) : Nat) : Int)))]) rfl ?_
                  exact ih38 (d + 1) f63 (fun q hq => ((ow62 _ (by omega))).trans (ho35 _ (by omega))) hMo61 (by omega) (by omega)
          exact hL36 _ 0 f4 (fun _ _ => rfl) hMl (by omega) (Nat.lt_succ_self _)
    exact hL6 _ 0 f (fun _ _ => rfl) hM (by omega) (Nat.lt_succ_self _)
  · refine r_bipush C ((-2)) (by decide) dX4_worst_9 ?_
    exact hret f ((-2)) _ _ dX4_worst_11 (by unfold aWor; rw [if_neg (by omega)]) (⟨hM, fun _ _ => rfl⟩)
end MC1
