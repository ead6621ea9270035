section XW1
theorem vatN_hit {w : WW} {k x : Nat} (h : vatN w k = x) (hx : x < 1000003) : k < w.1 ∧ w.2.1 k = x := by
  unfold vatN at h
  split at h
  · exact ⟨by assumption, h⟩
  · omega
theorem vatN_no {w : WW} {k x : Nat} (h : ¬ vatN w k = x) : ¬ (k < w.1 ∧ w.2.1 k = x) := by
  intro q
  apply h
  unfold vatN
  rw [if_pos q.1, q.2]
set_option maxHeartbeats 4000000 in
set_option maxRecDepth 100000 in
/-- valueAt(z) -/
theorem c_X2_valueAt (G : va_G) (tc : Nat → ClassId) (l : Launch) (ad : Nat → Nat) (N : Nat) (f : Nat → va_E) (i : Nat) (w : WW) (hw : isWd tc ad f i w) (hi : i + 4 ≤ N) (hw64 : w.1 ≤ 64) (hv : ∀ j, j < w.1 → w.2.1 j < 1000003) (z : Int) (hz : inR z)   : Ct G tc l yX2_valueAt wsX2_valueAt { frames := 0, cells := 0, slots := 0, locals := 0 } 0 0 [.ref (ad (i)), .int (iI (z))] ad N f (poI ad N (vat w z) (fun f' => f' = f)) := by
  obtain ⟨wv, wc, wt, g0, g1, g2, g3, gw⟩ := id hw
  refine stI (cc := cX2_valueAt) (maxL := 2) (lv := [(0, .ref (ad (i))), (1, .int (iI (z)))]) (by decide) rfl (Nat.le_of_ble_eq_true rfl) rfl (fun X C hret => ?_)
  have m0 : Cond.constant RX2 46 (1000003) ∈ wsX2_valueAt := by decide +kernel
  have m1 : Cond.fieldLink RX2 21 "WordSamples$Words" "size" "I" ∈ wsX2_valueAt := by decide +kernel
  have m2 : ∀ w ∈ wsX20, w ∈ wsX2_valueAt := by decide +kernel
  have m3 : Cond.fieldLink RX2 9 "WordSamples$Words" "values" "[I" ∈ wsX2_valueAt := by decide +kernel
  refine r_iload_n C dX2_valueAt_0 rfl rfl ?_
  refine r_if_lt (tgt := 21) C ⟨by omega, by omega⟩ dX2_valueAt_1 (by decide) (fun b1 => ?_) (fun b1 => ?_)
  · refine r_ldc C ((1000003 : Nat) : Int) (by decide) m0 dX2_valueAt_21 ?_
    exact hret f ((1000003 : Nat) : Int) _ _ dX2_valueAt_23 (by unfold vat; rw [if_neg (by omega)]; rfl) rfl
  · refine r_iload_n C dX2_valueAt_4 rfl rfl ?_
    refine r_aload_n C dX2_valueAt_5 rfl rfl ?_
    refine r_get (v := .int (iI ((w.1 : Nat) : Int))) C (by omega) g0 (show vwCl[2]? = some (RX2, TX2, 4) from rfl) m2 3 (by decide) m1 rfl rfl dX2_valueAt_6 ?_
    refine r_icmp_ge (tgt := 21) C ⟨by omega, by omega⟩ ⟨by omega, by omega⟩ dX2_valueAt_9 (by decide) (fun b2 => ?_) (fun b2 => ?_)
    · refine r_ldc C ((1000003 : Nat) : Int) (by decide) m0 dX2_valueAt_21 ?_
      exact hret f ((1000003 : Nat) : Int) _ _ dX2_valueAt_23 (by unfold vat; rw [if_neg (by omega)]; rfl) rfl
    · refine r_aload_n C dX2_valueAt_12 rfl rfl ?_
      refine r_get (v := .ref (ad (i + 1))) C (by omega) g0 (show vwCl[2]? = some (RX2, TX2, 4) from rfl) m2 0 (by decide) m3 rfl rfl dX2_valueAt_13 ?_
      refine r_iload_n C dX2_valueAt_16 rfl rfl ?_
      refine r_iald (x := (iI ((w.2.1 z.toNat : Nat) : Int))) C (by omega) g1 (z.toNat) (by omega) (by omega) (Nat.le_of_ble_eq_true rfl) ((gw _ (by omega)).1) dX2_valueAt_17 ?_
      refine r_goto (tgt := 23) C dX2_valueAt_18 (by decide) ?_
      exact hret f ((w.2.1 z.toNat : Nat) : Int) _ _ dX2_valueAt_23 (by unfold vat; rw [if_pos (by omega)]) rfl
set_option maxHeartbeats 4000000 in
set_option maxRecDepth 100000 in
/-- codeAt(signs, st, wd) -/
theorem c_X2_codeAt (G : va_G) (tc : Nat → ClassId) (l : Launch) (ad : Nat → Nat) (N : Nat) (f : Nat → va_E) (sx : Nat) (gs : Nat → Nat) (st wd : Nat) (hx : sx < N) (hc : f sx = eI tc 640 (fun j => iI ((gs j : Nat) : Int))) (h1 : st + wd ≤ 640) (h2 : wd ≤ 4)   : Ct G tc l yX2_codeAt wsX2_codeAt { frames := 0, cells := 0, slots := 0, locals := 0 } 0 0 [.ref (ad (sx)), .int (iI ((st : Nat) : Int)), .int (iI ((wd : Nat) : Int))] ad N f (poI ad N (((cod gs st wd : Nat) : Int)) (fun f' => f' = f)) := by
  refine stI (cc := cX2_codeAt) (maxL := 5) (lv := [(0, .ref (ad (sx))), (1, .int (iI ((st : Nat) : Int))), (2, .int (iI ((wd : Nat) : Int)))]) (by decide) rfl (Nat.le_of_ble_eq_true rfl) rfl (fun X C hret => ?_)
  refine r_iconst C ((0 : Nat) : Int) (by decide) dX2_codeAt_0 ?_
  refine r_istore_n (lv' := [(0, .ref (ad (sx))), (1, .int (iI ((st : Nat) : Int))), (2, .int (iI ((wd : Nat) : Int))), (3, .int (iI ((0 : Nat) : Int)))]) C dX2_codeAt_1 rfl (by decide) rfl ?_
  refine r_iconst C ((0 : Nat) : Int) (by decide) dX2_codeAt_2 ?_
  refine r_istore (lv' := [(0, .ref (ad (sx))), (1, .int (iI ((st : Nat) : Int))), (2, .int (iI ((wd : Nat) : Int))), (3, .int (iI ((0 : Nat) : Int))), (4, .int (iI ((0 : Nat) : Int)))]) C dX2_codeAt_3 (by decide) rfl ?_
  have hL1 : ∀ (m_2 : Nat) (k : Nat) (hk : k ≤ wd), wd - k < m_2 → VV X ad N f 0 0 5 [(0, .ref (ad (sx))), (1, .int (iI ((st : Nat) : Int))), (2, .int (iI ((wd : Nat) : Int))), (3, .int (iI ((cod gs st k : Nat) : Int))), (4, .int (iI ((k : Nat) : Int)))] [] := by
    intro m_2
    induction m_2 with
    | zero => intros; omega
    | succ m_2 ih3 =>
      intro k hk hm4
      refine r_iload C dX2_codeAt_5 rfl ?_
      refine r_iload_n C dX2_codeAt_7 rfl rfl ?_
      refine r_icmp_ge (tgt := 29) C ⟨by omega, by omega⟩ ⟨by omega, by omega⟩ dX2_codeAt_8 (by decide) (fun b5 => ?_) (fun b5 => ?_)
      · refine r_iload_n C dX2_codeAt_29 rfl rfl ?_
        exact hret f ((cod gs st k : Nat) : Int) _ _ dX2_codeAt_30 (by rw [show k = wd from by omega]) rfl
      · refine r_iload_n C dX2_codeAt_11 rfl rfl ?_
        refine r_bipush C ((27 : Nat) : Int) (by decide) dX2_codeAt_12 ?_
        refine r_imul C (((cod gs st k) * 27 : Nat) : Int) (by omega) dX2_codeAt_14 ?_
        refine r_aload_n C dX2_codeAt_15 rfl rfl ?_
        refine r_iload_n C dX2_codeAt_16 rfl rfl ?_
        refine r_iload C dX2_codeAt_17 rfl ?_
        refine r_iadd C ((st + k : Nat) : Int) (by omega) dX2_codeAt_19 ?_
        refine r_iald (x := (iI ((gs (st + k) : Nat) : Int))) C (by omega) hc (st + k) rfl (by omega) (Nat.le_of_ble_eq_true rfl) (rfl) dX2_codeAt_20 ?_
        refine r_iadd C (((cod gs st k) * 27 + (gs (st + k)) : Nat) : Int) (by omega) dX2_codeAt_21 ?_
        refine r_istore_n (lv' := [(0, .ref (ad (sx))), (1, .int (iI ((st : Nat) : Int))), (2, .int (iI ((wd : Nat) : Int))), (3, .int (iI (((cod gs st k) * 27 + (gs (st + k)) : Nat) : Int))), (4, .int (iI ((k : Nat) : Int)))]) C dX2_codeAt_22 rfl (by decide) rfl ?_
        refine r_iinc (lv' := [(0, .ref (ad (sx))), (1, .int (iI ((st : Nat) : Int))), (2, .int (iI ((wd : Nat) : Int))), (3, .int (iI (((cod gs st k) * 27 + (gs (st + k)) : Nat) : Int))), (4, .int (iI ((k + 1 : Nat) : Int)))]) C ((k + 1 : Nat) : Int) (by omega) dX2_codeAt_23 rfl (by decide) rfl ?_
        refine r_goto (tgt := 5) C dX2_codeAt_26 (by decide) ?_
        exact ih3 (k + 1) (by omega) (by omega)
  exact hL1 _ 0 (by omega) (Nat.lt_succ_self _)
set_option maxHeartbeats 4000000 in
set_option maxRecDepth 100000 in
/-- enter(c, x): a word comes to its place, or counts once more -/
theorem c_X2_enter (G : va_G) (tc : Nat → ClassId) (l : Launch) (ad : Nat → Nat) (N : Nat) (f : Nat → va_E) (i : Nat) (w : WW) (hw : isWd tc ad f i w) (hi : i + 4 ≤ N) (hw64 : w.1 ≤ 63) (hv : ∀ j, j < w.1 → w.2.1 j < 1000003) (c x : Nat) (hx : x < 1000003)   : Ct G tc l yX2_enter wsX2_enter { frames := 1, cells := 0, slots := 0, locals := 21 } 0 0 [.ref (ad (i)), .int (iI ((c : Nat) : Int)), .int (iI ((x : Nat) : Int))] ad N f (poV ad N (fun f' => isWd tc ad f' i (ins w x c) ∧ ∀ q, (q < i ∨ i + 4 ≤ q) → f' q = f q)) := by
  obtain ⟨wv, wc, wt, g0, g1, g2, g3, gw⟩ := id hw
  refine stV (cc := cX2_enter) (maxL := 4) (lv := [(0, .ref (ad (i))), (1, .int (iI ((c : Nat) : Int))), (2, .int (iI ((x : Nat) : Int)))]) (by decide) rfl (Nat.le_of_ble_eq_true rfl) rfl (fun X C hret => ?_)
  have m0 : Cond.fieldLink RX2 21 "WordSamples$Words" "size" "I" ∈ wsX2_enter := by decide +kernel
  have m1 : ∀ w ∈ wsX20, w ∈ wsX2_enter := by decide +kernel
  have m2 : Cond.fieldLink RX2 9 "WordSamples$Words" "values" "[I" ∈ wsX2_enter := by decide +kernel
  have m3 : Cond.methodLink RX2 51 arraycopyName ∈ wsX2_enter := by decide +kernel
  have m4 : Cond.native arraycopyName ∈ wsX2_enter := by decide +kernel
  have m5 : Cond.static arraycopyName ∈ wsX2_enter := by decide +kernel
  have m6 : Cond.initialized "java/lang/System" ∈ wsX2_enter := by decide +kernel
  have m7 : Cond.fieldLink RX2 15 "WordSamples$Words" "codes" "[I" ∈ wsX2_enter := by decide +kernel
  have m8 : Cond.fieldLink RX2 18 "WordSamples$Words" "times" "[I" ∈ wsX2_enter := by decide +kernel
  refine r_iconst C ((0 : Nat) : Int) (by decide) dX2_enter_0 ?_
  refine r_istore_n (lv' := [(0, .ref (ad (i))), (1, .int (iI ((c : Nat) : Int))), (2, .int (iI ((x : Nat) : Int))), (3, .int (iI ((0 : Nat) : Int)))]) C dX2_enter_1 rfl (by decide) rfl ?_
  have hL1 : ∀ (m_2 : Nat) (k : Nat) (hk : k ≤ w.1) (hlt : ∀ j, j < k → w.2.1 j < x), w.1 - k < m_2 → VV X ad N f 0 0 2 [(0, .ref (ad (i))), (1, .int (iI ((c : Nat) : Int))), (2, .int (iI ((x : Nat) : Int))), (3, .int (iI ((k : Nat) : Int)))] [] := by
    intro m_2
    induction m_2 with
    | zero => intros; omega
    | succ m_2 ih3 =>
      intro k hk hlt hm4
      refine r_iload_n C dX2_enter_2 rfl rfl ?_
      refine r_aload_n C dX2_enter_3 rfl rfl ?_
      refine r_get (v := .int (iI ((w.1 : Nat) : Int))) C (by omega) g0 (show vwCl[2]? = some (RX2, TX2, 4) from rfl) m1 3 (by decide) m0 rfl rfl dX2_enter_4 ?_
      refine r_icmp_ge (tgt := 26) C ⟨by omega, by omega⟩ ⟨by omega, by omega⟩ dX2_enter_7 (by decide) (fun b5 => ?_) (fun b5 => ?_)
      · have hpos : posn w.2.1 x w.1 = k := posn_eq hk hlt (fun h => by omega)
        refine r_aload_n C dX2_enter_26 rfl rfl ?_
        refine r_iload_n C dX2_enter_27 rfl rfl ?_
        refine r_callV (As := [.int (iI ((k : Nat) : Int))]) (rest := []) (na := 1) C (c_X2_valueAt G tc l ad N _ i w hw hi (by omega) hv ((k : Nat) : Int) ⟨by omega, by omega⟩) gX2_enter_X2_valueAt rfl rfl rfl (by decide +kernel) ⟨Nat.le_of_ble_eq_true rfl, Nat.le_of_ble_eq_true rfl⟩ (by omega) g0 (show vwCl[2]? = some (RX2, TX2, 4) from rfl) rfl rfl (Nat.le_of_ble_eq_true rfl) dX2_enter_28 ⟨Nat.le_of_ble_eq_true rfl, Nat.le_of_ble_eq_true rfl⟩ (aft_I (fun f6 hF7 => ?_))
        rw [hF7]
        rw [show (.int (iI (vat w ((k : Nat) : Int))) : Value) = .int (iI ((vatN w k : Nat) : Int)) from by rw [vat_N]]
        have q1 := vatN_le hv k
        refine r_iload_n C dX2_enter_31 rfl rfl ?_
        refine r_icmp_ne (tgt := 46) C ⟨by omega, by omega⟩ ⟨by omega, by omega⟩ dX2_enter_32 (by decide) (fun b8 => ?_) (fun b8 => ?_)
        · have hn2 : ¬ (k < w.1 ∧ w.2.1 k = x) := vatN_no (by omega)
          refine r_aload_n C dX2_enter_46 rfl rfl ?_
          refine r_get (v := .int (iI ((w.1 : Nat) : Int))) C (by omega) g0 (show vwCl[2]? = some (RX2, TX2, 4) from rfl) m1 3 (by decide) m0 rfl rfl dX2_enter_47 ?_
          refine r_bipush C ((64 : Nat) : Int) (by decide) dX2_enter_50 ?_
          refine r_icmp_lt (tgt := 56) C ⟨by omega, by omega⟩ ⟨by omega, by omega⟩ dX2_enter_52 (by decide) (fun b9 => ?_) (fun b9 => False.elim (by omega))
          refine r_aload_n C dX2_enter_56 rfl rfl ?_
          refine r_get (v := .ref (ad (i + 1))) C (by omega) g0 (show vwCl[2]? = some (RX2, TX2, 4) from rfl) m1 0 (by decide) m2 rfl rfl dX2_enter_57 ?_
          refine r_iload_n C dX2_enter_60 rfl rfl ?_
          refine r_aload_n C dX2_enter_61 rfl rfl ?_
          refine r_get (v := .ref (ad (i + 1))) C (by omega) g0 (show vwCl[2]? = some (RX2, TX2, 4) from rfl) m1 0 (by decide) m2 rfl rfl dX2_enter_62 ?_
          refine r_iload_n C dX2_enter_65 rfl rfl ?_
          refine r_iconst C ((1 : Nat) : Int) (by decide) dX2_enter_66 ?_
          refine r_iadd C ((k + 1 : Nat) : Int) (by omega) dX2_enter_67 ?_
          refine r_aload_n C dX2_enter_68 rfl rfl ?_
          refine r_get (v := .int (iI ((w.1 : Nat) : Int))) C (by omega) g0 (show vwCl[2]? = some (RX2, TX2, 4) from rfl) m1 3 (by decide) m0 rfl rfl dX2_enter_69 ?_
          refine r_iload_n C dX2_enter_72 rfl rfl ?_
          refine r_isub C ((w.1 - k : Nat) : Int) (by omega) dX2_enter_73 ?_
          refine r_acp C ⟨m3, m4, m5, m6⟩ (Nat.le_of_ble_eq_true rfl) (Nat.le_of_ble_eq_true rfl) (by omega) g1 (by omega) g1 (k) (k + 1) (w.1 - k) rfl rfl rfl (by omega) (by omega) (Nat.le_of_ble_eq_true rfl) (Nat.le_of_ble_eq_true rfl) dX2_enter_74 (fun f10 hs11 ho12 => ?_)
          refine r_aload_n C dX2_enter_77 rfl rfl ?_
          have c13 : f10 (i) = eO 2 [.ref (ad (i + 1)), .ref (ad (i + 2)), .ref (ad (i + 3)), .int (iI ((w.1 : Nat) : Int))] := (ho12 _ (by omega)).trans g0
          refine r_get (v := .ref (ad (i + 2))) C (by omega) c13 (show vwCl[2]? = some (RX2, TX2, 4) from rfl) m1 1 (by decide) m7 rfl rfl dX2_enter_78 ?_
          refine r_iload_n C dX2_enter_81 rfl rfl ?_
          refine r_aload_n C dX2_enter_82 rfl rfl ?_
          refine r_get (v := .ref (ad (i + 2))) C (by omega) c13 (show vwCl[2]? = some (RX2, TX2, 4) from rfl) m1 1 (by decide) m7 rfl rfl dX2_enter_83 ?_
          refine r_iload_n C dX2_enter_86 rfl rfl ?_
          refine r_iconst C ((1 : Nat) : Int) (by decide) dX2_enter_87 ?_
          refine r_iadd C ((k + 1 : Nat) : Int) (by omega) dX2_enter_88 ?_
          refine r_aload_n C dX2_enter_89 rfl rfl ?_
          refine r_get (v := .int (iI ((w.1 : Nat) : Int))) C (by omega) c13 (show vwCl[2]? = some (RX2, TX2, 4) from rfl) m1 3 (by decide) m0 rfl rfl dX2_enter_90 ?_
          refine r_iload_n C dX2_enter_93 rfl rfl ?_
          refine r_isub C ((w.1 - k : Nat) : Int) (by omega) dX2_enter_94 ?_
          have c14 : f10 (i + 2) = eI tc 64 (wc) := (ho12 _ (by omega)).trans g2
          refine r_acp C ⟨m3, m4, m5, m6⟩ (Nat.le_of_ble_eq_true rfl) (Nat.le_of_ble_eq_true rfl) (by omega) c14 (by omega) c14 (k) (k + 1) (w.1 - k) rfl rfl rfl (by omega) (by omega) (Nat.le_of_ble_eq_true rfl) (Nat.le_of_ble_eq_true rfl) dX2_enter_95 (fun f15 hs16 ho17 => ?_)
          refine r_aload_n C dX2_enter_98 rfl rfl ?_
          have c18 : f15 (i) = eO 2 [.ref (ad (i + 1)), .ref (ad (i + 2)), .ref (ad (i + 3)), .int (iI ((w.1 : Nat) : Int))] := (ho17 _ (by omega)).trans c13
          refine r_get (v := .ref (ad (i + 3))) C (by omega) c18 (show vwCl[2]? = some (RX2, TX2, 4) from rfl) m1 2 (by decide) m8 rfl rfl dX2_enter_99 ?_
          refine r_iload_n C dX2_enter_102 rfl rfl ?_
          refine r_aload_n C dX2_enter_103 rfl rfl ?_
          refine r_get (v := .ref (ad (i + 3))) C (by omega) c18 (show vwCl[2]? = some (RX2, TX2, 4) from rfl) m1 2 (by decide) m8 rfl rfl dX2_enter_104 ?_
          refine r_iload_n C dX2_enter_107 rfl rfl ?_
          refine r_iconst C ((1 : Nat) : Int) (by decide) dX2_enter_108 ?_
          refine r_iadd C ((k + 1 : Nat) : Int) (by omega) dX2_enter_109 ?_
          refine r_aload_n C dX2_enter_110 rfl rfl ?_
          refine r_get (v := .int (iI ((w.1 : Nat) : Int))) C (by omega) c18 (show vwCl[2]? = some (RX2, TX2, 4) from rfl) m1 3 (by decide) m0 rfl rfl dX2_enter_111 ?_
          refine r_iload_n C dX2_enter_114 rfl rfl ?_
          refine r_isub C ((w.1 - k : Nat) : Int) (by omega) dX2_enter_115 ?_
          have c19 : f10 (i + 3) = eI tc 64 (wt) := (ho12 _ (by omega)).trans g3
          have c20 : f15 (i + 3) = eI tc 64 (wt) := (ho17 _ (by omega)).trans c19
          refine r_acp C ⟨m3, m4, m5, m6⟩ (Nat.le_of_ble_eq_true rfl) (Nat.le_of_ble_eq_true rfl) (by omega) c20 (by omega) c20 (k) (k + 1) (w.1 - k) rfl rfl rfl (by omega) (by omega) (Nat.le_of_ble_eq_true rfl) (Nat.le_of_ble_eq_true rfl) dX2_enter_116 (fun f21 hs22 ho23 => ?_)
          refine r_aload_n C dX2_enter_119 rfl rfl ?_
          have c24 : f21 (i) = eO 2 [.ref (ad (i + 1)), .ref (ad (i + 2)), .ref (ad (i + 3)), .int (iI ((w.1 : Nat) : Int))] := (ho23 _ (by omega)).trans c18
          refine r_get (v := .ref (ad (i + 1))) C (by omega) c24 (show vwCl[2]? = some (RX2, TX2, 4) from rfl) m1 0 (by decide) m2 rfl rfl dX2_enter_120 ?_
          refine r_iload_n C dX2_enter_123 rfl rfl ?_
          refine r_iload_n C dX2_enter_124 rfl rfl ?_
          have c25 : f15 (i + 1) = eI tc 64 (va_cpy (wv) (wv) (k) (k + 1) (w.1 - k)) := (ho17 _ (by omega)).trans hs11
          have c26 : f21 (i + 1) = eI tc 64 (va_cpy (wv) (wv) (k) (k + 1) (w.1 - k)) := (ho23 _ (by omega)).trans c25
          refine r_iast C (by omega) c26 (k) rfl (by omega) (Nat.le_of_ble_eq_true rfl) dX2_enter_125 (fun f27 hs28 ho29 => ?_)
          refine r_aload_n C dX2_enter_126 rfl rfl ?_
          have c30 : f27 (i) = eO 2 [.ref (ad (i + 1)), .ref (ad (i + 2)), .ref (ad (i + 3)), .int (iI ((w.1 : Nat) : Int))] := (ho29 _ (by omega)).trans c24
          refine r_get (v := .ref (ad (i + 2))) C (by omega) c30 (show vwCl[2]? = some (RX2, TX2, 4) from rfl) m1 1 (by decide) m7 rfl rfl dX2_enter_127 ?_
          refine r_iload_n C dX2_enter_130 rfl rfl ?_
          refine r_iload_n C dX2_enter_131 rfl rfl ?_
          have c31 : f21 (i + 2) = eI tc 64 (va_cpy (wc) (wc) (k) (k + 1) (w.1 - k)) := (ho23 _ (by omega)).trans hs16
          have c32 : f27 (i + 2) = eI tc 64 (va_cpy (wc) (wc) (k) (k + 1) (w.1 - k)) := (ho29 _ (by omega)).trans c31
          refine r_iast C (by omega) c32 (k) rfl (by omega) (Nat.le_of_ble_eq_true rfl) dX2_enter_132 (fun f33 hs34 ho35 => ?_)
          refine r_aload_n C dX2_enter_133 rfl rfl ?_
          have c36 : f33 (i) = eO 2 [.ref (ad (i + 1)), .ref (ad (i + 2)), .ref (ad (i + 3)), .int (iI ((w.1 : Nat) : Int))] := (ho35 _ (by omega)).trans c30
          refine r_get (v := .ref (ad (i + 3))) C (by omega) c36 (show vwCl[2]? = some (RX2, TX2, 4) from rfl) m1 2 (by decide) m8 rfl rfl dX2_enter_134 ?_
          refine r_iload_n C dX2_enter_137 rfl rfl ?_
          refine r_iconst C ((1 : Nat) : Int) (by decide) dX2_enter_138 ?_
          have c37 : f27 (i + 3) = eI tc 64 (va_cpy (wt) (wt) (k) (k + 1) (w.1 - k)) := (ho29 _ (by omega)).trans hs22
          have c38 : f33 (i + 3) = eI tc 64 (va_cpy (wt) (wt) (k) (k + 1) (w.1 - k)) := (ho35 _ (by omega)).trans c37
          refine r_iast C (by omega) c38 (k) rfl (by omega) (Nat.le_of_ble_eq_true rfl) dX2_enter_139 (fun f39 hs40 ho41 => ?_)
          refine r_aload_n C dX2_enter_140 rfl rfl ?_
          refine r_dup C dX2_enter_141 rfl ?_
          have c42 : f39 (i) = eO 2 [.ref (ad (i + 1)), .ref (ad (i + 2)), .ref (ad (i + 3)), .int (iI ((w.1 : Nat) : Int))] := (ho41 _ (by omega)).trans c36
          refine r_get (v := .int (iI ((w.1 : Nat) : Int))) C (by omega) c42 (show vwCl[2]? = some (RX2, TX2, 4) from rfl) m1 3 (by decide) m0 rfl rfl dX2_enter_142 ?_
          refine r_iconst C ((1 : Nat) : Int) (by decide) dX2_enter_145 ?_
          refine r_iadd C ((w.1 + 1 : Nat) : Int) (by omega) dX2_enter_146 ?_
          refine r_put (ty := .int) C (by omega) c42 (show vwCl[2]? = some (RX2, TX2, 4) from rfl) m1 tyX2_ok nmX2 3 (by decide) m0 rfl rfl (by decide +kernel) rfl rfl (Nat.le_of_ble_eq_true rfl) dX2_enter_147 (fun f43 hs44 ho45 => ?_)
          have c46 : f43 (i) = eO 2 [.ref (ad (i + 1)), .ref (ad (i + 2)), .ref (ad (i + 3)), .int (iI ((w.1 + 1 : Nat) : Int))] := hs44
          have c47 : f33 (i + 1) = eI tc 64 (upd (va_cpy (wv) (wv) (k) (k + 1) (w.1 - k)) (k) ((iI ((x : Nat) : Int)))) := (ho35 _ (by omega)).trans hs28
          have c48 : f39 (i + 1) = eI tc 64 (upd (va_cpy (wv) (wv) (k) (k + 1) (w.1 - k)) (k) ((iI ((x : Nat) : Int)))) := (ho41 _ (by omega)).trans c47
          have c49 : f43 (i + 1) = eI tc 64 (upd (va_cpy (wv) (wv) (k) (k + 1) (w.1 - k)) (k) ((iI ((x : Nat) : Int)))) := (ho45 _ (by omega)).trans c48
          have c50 : f39 (i + 2) = eI tc 64 (upd (va_cpy (wc) (wc) (k) (k + 1) (w.1 - k)) (k) ((iI ((c : Nat) : Int)))) := (ho41 _ (by omega)).trans hs34
          have c51 : f43 (i + 2) = eI tc 64 (upd (va_cpy (wc) (wc) (k) (k + 1) (w.1 - k)) (k) ((iI ((c : Nat) : Int)))) := (ho45 _ (by omega)).trans c50
          have c52 : f43 (i + 3) = eI tc 64 (upd (va_cpy (wt) (wt) (k) (k + 1) (w.1 - k)) (k) ((iI ((1 : Nat) : Int)))) := (ho45 _ (by omega)).trans hs40
          exact hret f43 _ _ dX2_enter_150 (⟨wd_new c46 c49 c51 c52 gw hpos hn2, fun q hq => (((((((ho45 _ (by omega))).trans (ho41 _ (by omega))).trans (ho35 _ (by omega))).trans (ho29 _ (by omega))).trans (ho23 _ (by omega))).trans (ho17 _ (by omega))).trans (ho12 _ (by omega))⟩)
        · have hk2 := vatN_hit (w := w) (k := k) (x := x) (by omega) hx
          refine r_aload_n C dX2_enter_35 rfl rfl ?_
          refine r_get (v := .ref (ad (i + 3))) C (by omega) g0 (show vwCl[2]? = some (RX2, TX2, 4) from rfl) m1 2 (by decide) m8 rfl rfl dX2_enter_36 ?_
          refine r_iload_n C dX2_enter_39 rfl rfl ?_
          refine r_dup2 C dX2_enter_40 rfl rfl ?_
          refine r_iald (x := (iI ((w.2.2.2 k : Nat) : Int))) C (by omega) g3 (k) rfl (by omega) (Nat.le_of_ble_eq_true rfl) ((gw _ hk2.1).2.2) dX2_enter_41 ?_
          refine r_iconst C ((1 : Nat) : Int) (by decide) dX2_enter_42 ?_
          refine r_iadd C ((w.2.2.2 k + 1 : Nat) : Int) (by omega) dX2_enter_43 ?_
          refine r_iast C (by omega) g3 (k) rfl (by omega) (Nat.le_of_ble_eq_true rfl) dX2_enter_44 (fun f53 hs54 ho55 => ?_)
          have c56 : f53 (i) = eO 2 [.ref (ad (i + 1)), .ref (ad (i + 2)), .ref (ad (i + 3)), .int (iI ((w.1 : Nat) : Int))] := (ho55 _ (by omega)).trans g0
          have c57 : f53 (i + 1) = eI tc 64 (wv) := (ho55 _ (by omega)).trans g1
          have c58 : f53 (i + 2) = eI tc 64 (wc) := (ho55 _ (by omega)).trans g2
          exact hret f53 _ _ dX2_enter_45 (⟨wd_hit c56 c57 c58 hs54 gw hpos hk2.1 hk2.2, fun q hq => (ho55 _ (by omega))⟩)
      · refine r_aload_n C dX2_enter_10 rfl rfl ?_
        refine r_get (v := .ref (ad (i + 1))) C (by omega) g0 (show vwCl[2]? = some (RX2, TX2, 4) from rfl) m1 0 (by decide) m2 rfl rfl dX2_enter_11 ?_
        refine r_iload_n C dX2_enter_14 rfl rfl ?_
        have hvk := hv k (by omega)
        refine r_iald (x := (iI ((w.2.1 k : Nat) : Int))) C (by omega) g1 (k) rfl (by omega) (Nat.le_of_ble_eq_true rfl) ((gw _ (by omega)).1) dX2_enter_15 ?_
        refine r_iload_n C dX2_enter_16 rfl rfl ?_
        refine r_icmp_ge (tgt := 26) C ⟨by omega, by omega⟩ ⟨by omega, by omega⟩ dX2_enter_17 (by decide) (fun b59 => ?_) (fun b59 => ?_)
        · have hpos : posn w.2.1 x w.1 = k := posn_eq hk hlt (fun h => by omega)
          refine r_aload_n C dX2_enter_26 rfl rfl ?_
          refine r_iload_n C dX2_enter_27 rfl rfl ?_
          refine r_callV (As := [.int (iI ((k : Nat) : Int))]) (rest := []) (na := 1) C (c_X2_valueAt G tc l ad N _ i w hw hi (by omega) hv ((k : Nat) : Int) ⟨by omega, by omega⟩) gX2_enter_X2_valueAt rfl rfl rfl (by decide +kernel) ⟨Nat.le_of_ble_eq_true rfl, Nat.le_of_ble_eq_true rfl⟩ (by omega) g0 (show vwCl[2]? = some (RX2, TX2, 4) from rfl) rfl rfl (Nat.le_of_ble_eq_true rfl) dX2_enter_28 ⟨Nat.le_of_ble_eq_true rfl, Nat.le_of_ble_eq_true rfl⟩ (aft_I (fun f60 hF61 => ?_))
          rw [hF61]
          rw [show (.int (iI (vat w ((k : Nat) : Int))) : Value) = .int (iI ((vatN w k : Nat) : Int)) from by rw [vat_N]]
          have q1 := vatN_le hv k
          refine r_iload_n C dX2_enter_31 rfl rfl ?_
          refine r_icmp_ne (tgt := 46) C ⟨by omega, by omega⟩ ⟨by omega, by omega⟩ dX2_enter_32 (by decide) (fun b62 => ?_) (fun b62 => ?_)
          · have hn2 : ¬ (k < w.1 ∧ w.2.1 k = x) := vatN_no (by omega)
            refine r_aload_n C dX2_enter_46 rfl rfl ?_
            refine r_get (v := .int (iI ((w.1 : Nat) : Int))) C (by omega) g0 (show vwCl[2]? = some (RX2, TX2, 4) from rfl) m1 3 (by decide) m0 rfl rfl dX2_enter_47 ?_
            refine r_bipush C ((64 : Nat) : Int) (by decide) dX2_enter_50 ?_
            refine r_icmp_lt (tgt := 56) C ⟨by omega, by omega⟩ ⟨by omega, by omega⟩ dX2_enter_52 (by decide) (fun b63 => ?_) (fun b63 => False.elim (by omega))
            refine r_aload_n C dX2_enter_56 rfl rfl ?_
            refine r_get (v := .ref (ad (i + 1))) C (by omega) g0 (show vwCl[2]? = some (RX2, TX2, 4) from rfl) m1 0 (by decide) m2 rfl rfl dX2_enter_57 ?_
            refine r_iload_n C dX2_enter_60 rfl rfl ?_
            refine r_aload_n C dX2_enter_61 rfl rfl ?_
            refine r_get (v := .ref (ad (i + 1))) C (by omega) g0 (show vwCl[2]? = some (RX2, TX2, 4) from rfl) m1 0 (by decide) m2 rfl rfl dX2_enter_62 ?_
            refine r_iload_n C dX2_enter_65 rfl rfl ?_
            refine r_iconst C ((1 : Nat) : Int) (by decide) dX2_enter_66 ?_
            refine r_iadd C ((k + 1 : Nat) : Int) (by omega) dX2_enter_67 ?_
            refine r_aload_n C dX2_enter_68 rfl rfl ?_
            refine r_get (v := .int (iI ((w.1 : Nat) : Int))) C (by omega) g0 (show vwCl[2]? = some (RX2, TX2, 4) from rfl) m1 3 (by decide) m0 rfl rfl dX2_enter_69 ?_
            refine r_iload_n C dX2_enter_72 rfl rfl ?_
            refine r_isub C ((w.1 - k : Nat) : Int) (by omega) dX2_enter_73 ?_
            refine r_acp C ⟨m3, m4, m5, m6⟩ (Nat.le_of_ble_eq_true rfl) (Nat.le_of_ble_eq_true rfl) (by omega) g1 (by omega) g1 (k) (k + 1) (w.1 - k) rfl rfl rfl (by omega) (by omega) (Nat.le_of_ble_eq_true rfl) (Nat.le_of_ble_eq_true rfl) dX2_enter_74 (fun f64 hs65 ho66 => ?_)
            refine r_aload_n C dX2_enter_77 rfl rfl ?_
            have c67 : f64 (i) = eO 2 [.ref (ad (i + 1)), .ref (ad (i + 2)), .ref (ad (i + 3)), .int (iI ((w.1 : Nat) : Int))] := (ho66 _ (by omega)).trans g0
            refine r_get (v := .ref (ad (i + 2))) C (by omega) c67 (show vwCl[2]? = some (RX2, TX2, 4) from rfl) m1 1 (by decide) m7 rfl rfl dX2_enter_78 ?_
            refine r_iload_n C dX2_enter_81 rfl rfl ?_
            refine r_aload_n C dX2_enter_82 rfl rfl ?_
            refine r_get (v := .ref (ad (i + 2))) C (by omega) c67 (show vwCl[2]? = some (RX2, TX2, 4) from rfl) m1 1 (by decide) m7 rfl rfl dX2_enter_83 ?_
            refine r_iload_n C dX2_enter_86 rfl rfl ?_
            refine r_iconst C ((1 : Nat) : Int) (by decide) dX2_enter_87 ?_
            refine r_iadd C ((k + 1 : Nat) : Int) (by omega) dX2_enter_88 ?_
            refine r_aload_n C dX2_enter_89 rfl rfl ?_
            refine r_get (v := .int (iI ((w.1 : Nat) : Int))) C (by omega) c67 (show vwCl[2]? = some (RX2, TX2, 4) from rfl) m1 3 (by decide) m0 rfl rfl dX2_enter_90 ?_
            refine r_iload_n C dX2_enter_93 rfl rfl ?_
            refine r_isub C ((w.1 - k : Nat) : Int) (by omega) dX2_enter_94 ?_
            have c68 : f64 (i + 2) = eI tc 64 (wc) := (ho66 _ (by omega)).trans g2
            refine r_acp C ⟨m3, m4, m5, m6⟩ (Nat.le_of_ble_eq_true rfl) (Nat.le_of_ble_eq_true rfl) (by omega) c68 (by omega) c68 (k) (k + 1) (w.1 - k) rfl rfl rfl (by omega) (by omega) (Nat.le_of_ble_eq_true rfl) (Nat.le_of_ble_eq_true rfl) dX2_enter_95 (fun f69 hs70 ho71 => ?_)
            refine r_aload_n C dX2_enter_98 rfl rfl ?_
            have c72 : f69 (i) = eO 2 [.ref (ad (i + 1)), .ref (ad (i + 2)), .ref (ad (i + 3)), .int (iI ((w.1 : Nat) : Int))] := (ho71 _ (by omega)).trans c67
            refine r_get (v := .ref (ad (i + 3))) C (by omega) c72 (show vwCl[2]? = some (RX2, TX2, 4) from rfl) m1 2 (by decide) m8 rfl rfl dX2_enter_99 ?_
            refine r_iload_n C dX2_enter_102 rfl rfl ?_
            refine r_aload_n C dX2_enter_103 rfl rfl ?_
            refine r_get (v := .ref (ad (i + 3))) C (by omega) c72 (show vwCl[2]? = some (RX2, TX2, 4) from rfl) m1 2 (by decide) m8 rfl rfl dX2_enter_104 ?_
            refine r_iload_n C dX2_enter_107 rfl rfl ?_
            refine r_iconst C ((1 : Nat) : Int) (by decide) dX2_enter_108 ?_
            refine r_iadd C ((k + 1 : Nat) : Int) (by omega) dX2_enter_109 ?_
            refine r_aload_n C dX2_enter_110 rfl rfl ?_
            refine r_get (v := .int (iI ((w.1 : Nat) : Int))) C (by omega) c72 (show vwCl[2]? = some (RX2, TX2, 4) from rfl) m1 3 (by decide) m0 rfl rfl dX2_enter_111 ?_
            refine r_iload_n C dX2_enter_114 rfl rfl ?_
            refine r_isub C ((w.1 - k : Nat) : Int) (by omega) dX2_enter_115 ?_
            have c73 : f64 (i + 3) = eI tc 64 (wt) := (ho66 _ (by omega)).trans g3
            have c74 : f69 (i + 3) = eI tc 64 (wt) := (ho71 _ (by omega)).trans c73
            refine r_acp C ⟨m3, m4, m5, m6⟩ (Nat.le_of_ble_eq_true rfl) (Nat.le_of_ble_eq_true rfl) (by omega) c74 (by omega) c74 (k) (k + 1) (w.1 - k) rfl rfl rfl (by omega) (by omega) (Nat.le_of_ble_eq_true rfl) (Nat.le_of_ble_eq_true rfl) dX2_enter_116 (fun f75 hs76 ho77 => ?_)
            refine r_aload_n C dX2_enter_119 rfl rfl ?_
            have c78 : f75 (i) = eO 2 [.ref (ad (i + 1)), .ref (ad (i + 2)), .ref (ad (i + 3)), .int (iI ((w.1 : Nat) : Int))] := (ho77 _ (by omega)).trans c72
            refine r_get (v := .ref (ad (i + 1))) C (by omega) c78 (show vwCl[2]? = some (RX2, TX2, 4) from rfl) m1 0 (by decide) m2 rfl rfl dX2_enter_120 ?_
            refine r_iload_n C dX2_enter_123 rfl rfl ?_
            refine r_iload_n C dX2_enter_124 rfl rfl ?_
            have c79 : f69 (i + 1) = eI tc 64 (va_cpy (wv) (wv) (k) (k + 1) (w.1 - k)) := (ho71 _ (by omega)).trans hs65
            have c80 : f75 (i + 1) = eI tc 64 (va_cpy (wv) (wv) (k) (k + 1) (w.1 - k)) := (ho77 _ (by omega)).trans c79
            refine r_iast C (by omega) c80 (k) rfl (by omega) (Nat.le_of_ble_eq_true rfl) dX2_enter_125 (fun f81 hs82 ho83 => ?_)
            refine r_aload_n C dX2_enter_126 rfl rfl ?_
            have c84 : f81 (i) = eO 2 [.ref (ad (i + 1)), .ref (ad (i + 2)), .ref (ad (i + 3)), .int (iI ((w.1 : Nat) : Int))] := (ho83 _ (by omega)).trans c78
            refine r_get (v := .ref (ad (i + 2))) C (by omega) c84 (show vwCl[2]? = some (RX2, TX2, 4) from rfl) m1 1 (by decide) m7 rfl rfl dX2_enter_127 ?_
            refine r_iload_n C dX2_enter_130 rfl rfl ?_
            refine r_iload_n C dX2_enter_131 rfl rfl ?_
            have c85 : f75 (i + 2) = eI tc 64 (va_cpy (wc) (wc) (k) (k + 1) (w.1 - k)) := (ho77 _ (by omega)).trans hs70
            have c86 : f81 (i + 2) = eI tc 64 (va_cpy (wc) (wc) (k) (k + 1) (w.1 - k)) := (ho83 _ (by omega)).trans c85
            refine r_iast C (by omega) c86 (k) rfl (by omega) (Nat.le_of_ble_eq_true rfl) dX2_enter_132 (fun f87 hs88 ho89 => ?_)
            refine r_aload_n C dX2_enter_133 rfl rfl ?_
            have c90 : f87 (i) = eO 2 [.ref (ad (i + 1)), .ref (ad (i + 2)), .ref (ad (i + 3)), .int (iI ((w.1 : Nat) : Int))] := (ho89 _ (by omega)).trans c84
            refine r_get (v := .ref (ad (i + 3))) C (by omega) c90 (show vwCl[2]? = some (RX2, TX2, 4) from rfl) m1 2 (by decide) m8 rfl rfl dX2_enter_134 ?_
            refine r_iload_n C dX2_enter_137 rfl rfl ?_
            refine r_iconst C ((1 : Nat) : Int) (by decide) dX2_enter_138 ?_
            have c91 : f81 (i + 3) = eI tc 64 (va_cpy (wt) (wt) (k) (k + 1) (w.1 - k)) := (ho83 _ (by omega)).trans hs76
            have c92 : f87 (i + 3) = eI tc 64 (va_cpy (wt) (wt) (k) (k + 1) (w.1 - k)) := (ho89 _ (by omega)).trans c91
            refine r_iast C (by omega) c92 (k) rfl (by omega) (Nat.le_of_ble_eq_true rfl) dX2_enter_139 (fun f93 hs94 ho95 => ?_)
            refine r_aload_n C dX2_enter_140 rfl rfl ?_
            refine r_dup C dX2_enter_141 rfl ?_
            have c96 : f93 (i) = eO 2 [.ref (ad (i + 1)), .ref (ad (i + 2)), .ref (ad (i + 3)), .int (iI ((w.1 : Nat) : Int))] := (ho95 _ (by omega)).trans c90
            refine r_get (v := .int (iI ((w.1 : Nat) : Int))) C (by omega) c96 (show vwCl[2]? = some (RX2, TX2, 4) from rfl) m1 3 (by decide) m0 rfl rfl dX2_enter_142 ?_
            refine r_iconst C ((1 : Nat) : Int) (by decide) dX2_enter_145 ?_
            refine r_iadd C ((w.1 + 1 : Nat) : Int) (by omega) dX2_enter_146 ?_
            refine r_put (ty := .int) C (by omega) c96 (show vwCl[2]? = some (RX2, TX2, 4) from rfl) m1 tyX2_ok nmX2 3 (by decide) m0 rfl rfl (by decide +kernel) rfl rfl (Nat.le_of_ble_eq_true rfl) dX2_enter_147 (fun f97 hs98 ho99 => ?_)
            have c100 : f97 (i) = eO 2 [.ref (ad (i + 1)), .ref (ad (i + 2)), .ref (ad (i + 3)), .int (iI ((w.1 + 1 : Nat) : Int))] := hs98
            have c101 : f87 (i + 1) = eI tc 64 (upd (va_cpy (wv) (wv) (k) (k + 1) (w.1 - k)) (k) ((iI ((x : Nat) : Int)))) := (ho89 _ (by omega)).trans hs82
            have c102 : f93 (i + 1) = eI tc 64 (upd (va_cpy (wv) (wv) (k) (k + 1) (w.1 - k)) (k) ((iI ((x : Nat) : Int)))) := (ho95 _ (by omega)).trans c101
            have c103 : f97 (i + 1) = eI tc 64 (upd (va_cpy (wv) (wv) (k) (k + 1) (w.1 - k)) (k) ((iI ((x : Nat) : Int)))) := (ho99 _ (by omega)).trans c102
            have c104 : f93 (i + 2) = eI tc 64 (upd (va_cpy (wc) (wc) (k) (k + 1) (w.1 - k)) (k) ((iI ((c : Nat) : Int)))) := (ho95 _ (by omega)).trans hs88
            have c105 : f97 (i + 2) = eI tc 64 (upd (va_cpy (wc) (wc) (k) (k + 1) (w.1 - k)) (k) ((iI ((c : Nat) : Int)))) := (ho99 _ (by omega)).trans c104
            have c106 : f97 (i + 3) = eI tc 64 (upd (va_cpy (wt) (wt) (k) (k + 1) (w.1 - k)) (k) ((iI ((1 : Nat) : Int)))) := (ho99 _ (by omega)).trans hs94
            exact hret f97 _ _ dX2_enter_150 (⟨wd_new c100 c103 c105 c106 gw hpos hn2, fun q hq => (((((((ho99 _ (by omega))).trans (ho95 _ (by omega))).trans (ho89 _ (by omega))).trans (ho83 _ (by omega))).trans (ho77 _ (by omega))).trans (ho71 _ (by omega))).trans (ho66 _ (by omega))⟩)
          · have hk2 := vatN_hit (w := w) (k := k) (x := x) (by omega) hx
            refine r_aload_n C dX2_enter_35 rfl rfl ?_
            refine r_get (v := .ref (ad (i + 3))) C (by omega) g0 (show vwCl[2]? = some (RX2, TX2, 4) from rfl) m1 2 (by decide) m8 rfl rfl dX2_enter_36 ?_
            refine r_iload_n C dX2_enter_39 rfl rfl ?_
            refine r_dup2 C dX2_enter_40 rfl rfl ?_
            refine r_iald (x := (iI ((w.2.2.2 k : Nat) : Int))) C (by omega) g3 (k) rfl (by omega) (Nat.le_of_ble_eq_true rfl) ((gw _ hk2.1).2.2) dX2_enter_41 ?_
            refine r_iconst C ((1 : Nat) : Int) (by decide) dX2_enter_42 ?_
            refine r_iadd C ((w.2.2.2 k + 1 : Nat) : Int) (by omega) dX2_enter_43 ?_
            refine r_iast C (by omega) g3 (k) rfl (by omega) (Nat.le_of_ble_eq_true rfl) dX2_enter_44 (fun f107 hs108 ho109 => ?_)
            have c110 : f107 (i) = eO 2 [.ref (ad (i + 1)), .ref (ad (i + 2)), .ref (ad (i + 3)), .int (iI ((w.1 : Nat) : Int))] := (ho109 _ (by omega)).trans g0
            have c111 : f107 (i + 1) = eI tc 64 (wv) := (ho109 _ (by omega)).trans g1
            have c112 : f107 (i + 2) = eI tc 64 (wc) := (ho109 _ (by omega)).trans g2
            exact hret f107 _ _ dX2_enter_45 (⟨wd_hit c110 c111 c112 hs108 gw hpos hk2.1 hk2.2, fun q hq => (ho109 _ (by omega))⟩)
        · refine r_iinc (lv' := [(0, .ref (ad (i))), (1, .int (iI ((c : Nat) : Int))), (2, .int (iI ((x : Nat) : Int))), (3, .int (iI ((k + 1 : Nat) : Int)))]) C ((k + 1 : Nat) : Int) (by omega) dX2_enter_20 rfl (by decide) rfl ?_
          refine r_goto (tgt := 2) C dX2_enter_23 (by decide) ?_
          exact ih3 (k + 1) (by omega) (fun j hj => if h : j < k then hlt j h else (by have e : j = k := (by omega); rw [e]; omega)) (by omega)
  exact hL1 _ 0 (by omega) (fun j hj => absurd hj (Nat.not_lt_zero _)) (Nat.lt_succ_self _)
set_option maxHeartbeats 4000000 in
set_option maxRecDepth 100000 in
/-- gather(State, r): the words of row r -/
theorem c_X2_gather (G : va_G) (tc : Nat → ClassId) (l : Launch) (ad : Nat → Nat) (N : Nat) (f : Nat → va_E) (i : Nat) (w : WW) (hw : isWd tc ad f i w) (hi : i + 4 ≤ N) (sx : Nat) (n : NS) (hs : isSt tc ad f sx n) (hsx : sx + 4 ≤ i) (ho : okN n) (r : Nat) (hr : r < 10)   : Ct G tc l yX2_gather wsX2_gather { frames := 2, cells := 0, slots := 0, locals := 44 } 0 0 [.ref (ad (i)), .ref (ad (sx)), .int (iI ((r : Nat) : Int))] ad N f (poV ad N (fun f' => isWd tc ad f' i (wds n r) ∧ ∀ q, (q < i ∨ i + 4 ≤ q) → f' q = f q)) := by
  obtain ⟨wv0, wc0, wt0, g0, g1, g2, g3, gw0⟩ := id hw
  obtain ⟨s0, s1, s2, s3⟩ := id hs
  obtain ⟨⟨a1, a2⟩, ⟨a3, a4⟩, ⟨a5, a6⟩, a7, a8, a9, a10⟩ := id ho
  have q9 := a9 r hr
  refine stV (cc := cX2_gather) (maxL := 10) (lv := [(0, .ref (ad (i))), (1, .ref (ad (sx))), (2, .int (iI ((r : Nat) : Int)))]) (by decide) rfl (Nat.le_of_ble_eq_true rfl) rfl (fun X C hret => ?_)
  have m0 : Cond.fieldLink RX2 21 "WordSamples$Words" "size" "I" ∈ wsX2_gather := by decide +kernel
  have m1 : ∀ w ∈ wsX20, w ∈ wsX2_gather := by decide +kernel
  have m2 : Cond.fieldLink RX2 25 "WordSamples$State" "settings" "[I" ∈ wsX2_gather := by decide +kernel
  have m3 : ∀ w ∈ wsX10, w ∈ wsX2_gather := by decide +kernel
  have m4 : Cond.fieldLink RX2 30 "WordSamples$State" "lengths" "[I" ∈ wsX2_gather := by decide +kernel
  have m5 : Cond.fieldLink RX2 33 "WordSamples$State" "signs" "[I" ∈ wsX2_gather := by decide +kernel
  have m6 : Cond.constantLong RX2 40 (1000003) ∈ wsX2_gather := by decide +kernel
  refine r_aload_n C dX2_gather_0 rfl rfl ?_
  refine r_iconst C ((0 : Nat) : Int) (by decide) dX2_gather_1 ?_
  refine r_put (ty := .int) C (by omega) g0 (show vwCl[2]? = some (RX2, TX2, 4) from rfl) m1 tyX2_ok nmX2 3 (by decide) m0 rfl rfl (by decide +kernel) rfl rfl (Nat.le_of_ble_eq_true rfl) dX2_gather_2 (fun f1 hs2 ho3 => ?_)
  have c4 : f1 (i) = eO 2 [.ref (ad (i + 1)), .ref (ad (i + 2)), .ref (ad (i + 3)), .int (iI ((0 : Nat) : Int))] := hs2
  refine r_iload_n C dX2_gather_5 rfl rfl ?_
  refine r_bipush C ((64 : Nat) : Int) (by decide) dX2_gather_6 ?_
  refine r_imul C ((r * 64 : Nat) : Int) (by omega) dX2_gather_8 ?_
  refine r_istore_n (lv' := [(0, .ref (ad (i))), (1, .ref (ad (sx))), (2, .int (iI ((r : Nat) : Int))), (3, .int (iI ((r * 64 : Nat) : Int)))]) C dX2_gather_9 rfl (by decide) rfl ?_
  refine r_aload_n C dX2_gather_10 rfl rfl ?_
  have c5 : f1 (sx) = eO 1 [.ref (ad (sx + 1)), .ref (ad (sx + 2)), .ref (ad (sx + 3)), .int (iI ((n.2.2.2 : Nat) : Int))] := (ho3 _ (by omega)).trans s0
  refine r_get (v := .ref (ad (sx + 1))) C (by omega) c5 (show vwCl[1]? = some (RX1, TX1, 4) from rfl) m3 0 (by decide) m2 rfl rfl dX2_gather_11 ?_
  refine r_iconst C ((0 : Nat) : Int) (by decide) dX2_gather_14 ?_
  have c6 : f1 (sx + 1) = eI tc 4 (fun j => iI ((n.1 j : Nat) : Int)) := (ho3 _ (by omega)).trans s1
  refine r_iald (x := (iI ((n.1 0 : Nat) : Int))) C (by omega) c6 (0) rfl (by omega) (Nat.le_of_ble_eq_true rfl) (rfl) dX2_gather_15 ?_
  refine r_istore (lv' := [(0, .ref (ad (i))), (1, .ref (ad (sx))), (2, .int (iI ((r : Nat) : Int))), (3, .int (iI ((r * 64 : Nat) : Int))), (4, .int (iI ((n.1 0 : Nat) : Int)))]) C dX2_gather_16 (by decide) rfl ?_
  refine r_aload_n C dX2_gather_18 rfl rfl ?_
  refine r_get (v := .ref (ad (sx + 2))) C (by omega) c5 (show vwCl[1]? = some (RX1, TX1, 4) from rfl) m3 1 (by decide) m4 rfl rfl dX2_gather_19 ?_
  refine r_iload_n C dX2_gather_22 rfl rfl ?_
  have c7 : f1 (sx + 2) = eI tc 10 (fun j => iI ((n.2.1 j : Nat) : Int)) := (ho3 _ (by omega)).trans s2
  refine r_iald (x := (iI ((n.2.1 r : Nat) : Int))) C (by omega) c7 (r) rfl (by omega) (Nat.le_of_ble_eq_true rfl) (rfl) dX2_gather_23 ?_
  refine r_iload C dX2_gather_24 rfl ?_
  refine r_isub C (((n.2.1 r : Nat) : Int) - ((n.1 0 : Nat) : Int)) rfl dX2_gather_26 ?_
  refine r_istore (lv' := [(0, .ref (ad (i))), (1, .ref (ad (sx))), (2, .int (iI ((r : Nat) : Int))), (3, .int (iI ((r * 64 : Nat) : Int))), (4, .int (iI ((n.1 0 : Nat) : Int))), (5, .int (iI (((n.2.1 r : Nat) : Int) - ((n.1 0 : Nat) : Int))))]) C dX2_gather_27 (by decide) rfl ?_
  refine r_iconst C ((0 : Nat) : Int) (by decide) dX2_gather_29 ?_
  refine r_istore (lv' := [(0, .ref (ad (i))), (1, .ref (ad (sx))), (2, .int (iI ((r : Nat) : Int))), (3, .int (iI ((r * 64 : Nat) : Int))), (4, .int (iI ((n.1 0 : Nat) : Int))), (5, .int (iI (((n.2.1 r : Nat) : Int) - ((n.1 0 : Nat) : Int)))), (6, .int (iI ((0 : Nat) : Int)))]) C dX2_gather_30 (by decide) rfl ?_
  have hL14 : ∀ (m_15 : Nat) (p : Nat) (wv : Nat → Int32) (wc : Nat → Int32) (wt : Nat → Int32) (f8 : Nat → va_E) (hm9 : f8 (i) = eO 2 [.ref (ad (i + 1)), .ref (ad (i + 2)), .ref (ad (i + 3)), .int (iI (((gth n r p).1 : Nat) : Int))]) (hm10 : f8 (i + 1) = eI tc 64 (wv)) (hm11 : f8 (i + 2) = eI tc 64 (wc)) (hm12 : f8 (i + 3) = eI tc 64 (wt)) (ho13 : ∀ q, (q < i ∨ i + 4 ≤ q) → f8 q = f1 q) (hp : p ≤ n.2.1 r + 1 - n.1 0) (gw : ∀ j, j < (gth n r p).1 → wv j = iI (((gth n r p).2.1 j : Nat) : Int) ∧ wc j = iI (((gth n r p).2.2.1 j : Nat) : Int) ∧ wt j = iI (((gth n r p).2.2.2 j : Nat) : Int)), n.2.1 r + 1 - n.1 0 - p < m_15 → VV X ad N f8 0 0 32 [(0, .ref (ad (i))), (1, .ref (ad (sx))), (2, .int (iI ((r : Nat) : Int))), (3, .int (iI ((r * 64 : Nat) : Int))), (4, .int (iI ((n.1 0 : Nat) : Int))), (5, .int (iI (((n.2.1 r : Nat) : Int) - ((n.1 0 : Nat) : Int)))), (6, .int (iI ((p : Nat) : Int)))] [] := by
    intro m_15
    induction m_15 with
    | zero => intros; omega
    | succ m_15 ih16 =>
      intro p wv wc wt f8 hm9 hm10 hm11 hm12 ho13 hp gw hm17
      refine r_iload C dX2_gather_32 rfl ?_
      refine r_iload C dX2_gather_34 rfl ?_
      refine r_icmp_gt (tgt := 94) C ⟨by omega, by omega⟩ ⟨by omega, by omega⟩ dX2_gather_36 (by decide) (fun b18 => ?_) (fun b18 => ?_)
      · have hpe : p = n.2.1 r + 1 - n.1 0 := by omega
        have hWd : isWd tc ad f8 i (gth n r p) := ⟨_, _, _, hm9, hm10, hm11, hm12, gw⟩
        rw [hpe] at hWd
        exact hret f8 _ _ dX2_gather_94 (⟨hWd, fun q hq => ((ho13 _ (by omega))).trans (ho3 _ (by omega))⟩)
      · refine r_aload_n C dX2_gather_39 rfl rfl ?_
        have c19 : f8 (sx) = eO 1 [.ref (ad (sx + 1)), .ref (ad (sx + 2)), .ref (ad (sx + 3)), .int (iI ((n.2.2.2 : Nat) : Int))] := (ho13 _ (by omega)).trans c5
        refine r_get (v := .ref (ad (sx + 3))) C (by omega) c19 (show vwCl[1]? = some (RX1, TX1, 4) from rfl) m3 2 (by decide) m5 rfl rfl dX2_gather_40 ?_
        refine r_iload_n C dX2_gather_43 rfl rfl ?_
        refine r_iload C dX2_gather_44 rfl ?_
        refine r_iadd C ((r * 64 + p : Nat) : Int) (by omega) dX2_gather_46 ?_
        refine r_iload C dX2_gather_47 rfl ?_
        have c20 : f1 (sx + 3) = eI tc 640 (fun j => iI ((n.2.2.1 j : Nat) : Int)) := (ho3 _ (by omega)).trans s3
        have c21 : f8 (sx + 3) = eI tc 640 (fun j => iI ((n.2.2.1 j : Nat) : Int)) := (ho13 _ (by omega)).trans c20
        refine r_callS (As := [.ref (ad (sx + 3)), .int (iI ((r * 64 + p : Nat) : Int)), .int (iI ((n.1 0 : Nat) : Int))]) (rest := []) (na := 3) C (c_X2_codeAt G tc l ad N _ (sx + 3) n.2.2.1 (r * 64 + p) (n.1 0) (by omega) c21 (by omega) a2) gX2_gather_X2_codeAt rfl rfl rfl (by decide +kernel) ⟨Nat.le_of_ble_eq_true rfl, Nat.le_of_ble_eq_true rfl⟩ rfl rfl (Nat.le_of_ble_eq_true rfl) dX2_gather_49 ⟨Nat.le_of_ble_eq_true rfl, Nat.le_of_ble_eq_true rfl⟩ (aft_I (fun f22 hF23 => ?_))
        rw [hF23]
        refine r_istore (lv' := [(0, .ref (ad (i))), (1, .ref (ad (sx))), (2, .int (iI ((r : Nat) : Int))), (3, .int (iI ((r * 64 : Nat) : Int))), (4, .int (iI ((n.1 0 : Nat) : Int))), (5, .int (iI (((n.2.1 r : Nat) : Int) - ((n.1 0 : Nat) : Int)))), (6, .int (iI ((p : Nat) : Int))), (7, .int (iI ((cod n.2.2.1 (r * 64 + p) (n.1 0) : Nat) : Int)))]) C dX2_gather_52 (by decide) rfl ?_
        have hC : cod n.2.2.1 (r * 64 + p) (n.1 0) ≤ 531440 := cod_le a2 (fun j hj => a10 _ (by omega))
        have hM : cod n.2.2.1 (r * 64 + p) (n.1 0) * n.1 2 ≤ 531440 * 1000002 := Nat.mul_le_mul hC a6
        have hV := vlu_lt (n.1 2) (n.1 3) (cod n.2.2.1 (r * 64 + p) (n.1 0))
        have hG := gth_le n r p
        refine r_iload C dX2_gather_54 rfl ?_
        refine r_i2l C dX2_gather_56 ?_
        rw [show (.long (((iI ((cod n.2.2.1 (r * 64 + p) (n.1 0) : Nat) : Int))).toInt64) : Value) = .long (jI ((cod n.2.2.1 (r * 64 + p) (n.1 0) : Nat) : Int)) from by rw [iI_long (by omega)]]
        refine r_aload_n C dX2_gather_57 rfl rfl ?_
        refine r_get (v := .ref (ad (sx + 1))) C (by omega) c19 (show vwCl[1]? = some (RX1, TX1, 4) from rfl) m3 0 (by decide) m2 rfl rfl dX2_gather_58 ?_
        refine r_iconst C ((2 : Nat) : Int) (by decide) dX2_gather_61 ?_
        have c24 : f8 (sx + 1) = eI tc 4 (fun j => iI ((n.1 j : Nat) : Int)) := (ho13 _ (by omega)).trans c6
        refine r_iald (x := (iI ((n.1 2 : Nat) : Int))) C (by omega) c24 (2) rfl (by omega) (Nat.le_of_ble_eq_true rfl) (rfl) dX2_gather_62 ?_
        refine r_i2l C dX2_gather_63 ?_
        rw [show (.long (((iI ((n.1 2 : Nat) : Int))).toInt64) : Value) = .long (jI ((n.1 2 : Nat) : Int)) from by rw [iI_long (by omega)]]
        refine r_lmul C dX2_gather_64 ?_
        rw [show (.long ((jI ((cod n.2.2.1 (r * 64 + p) (n.1 0) : Nat) : Int)) * (jI ((n.1 2 : Nat) : Int))) : Value) = .long (jI ((cod n.2.2.1 (r * 64 + p) (n.1 0) * n.1 2 : Nat) : Int)) from by rw [jI_mul]]
        refine r_aload_n C dX2_gather_65 rfl rfl ?_
        refine r_get (v := .ref (ad (sx + 1))) C (by omega) c19 (show vwCl[1]? = some (RX1, TX1, 4) from rfl) m3 0 (by decide) m2 rfl rfl dX2_gather_66 ?_
        refine r_iconst C ((3 : Nat) : Int) (by decide) dX2_gather_69 ?_
        refine r_iald (x := (iI ((n.1 3 : Nat) : Int))) C (by omega) c24 (3) rfl (by omega) (Nat.le_of_ble_eq_true rfl) (rfl) dX2_gather_70 ?_
        refine r_i2l C dX2_gather_71 ?_
        rw [show (.long (((iI ((n.1 3 : Nat) : Int))).toInt64) : Value) = .long (jI ((n.1 3 : Nat) : Int)) from by rw [iI_long (by omega)]]
        refine r_ladd C dX2_gather_72 ?_
        rw [show (.long ((jI ((cod n.2.2.1 (r * 64 + p) (n.1 0) * n.1 2 : Nat) : Int)) + (jI ((n.1 3 : Nat) : Int))) : Value) = .long (jI ((cod n.2.2.1 (r * 64 + p) (n.1 0) * n.1 2 + n.1 3 : Nat) : Int)) from by rw [jI_add]]
        refine r_lstore (lv' := [(0, .ref (ad (i))), (1, .ref (ad (sx))), (2, .int (iI ((r : Nat) : Int))), (3, .int (iI ((r * 64 : Nat) : Int))), (4, .int (iI ((n.1 0 : Nat) : Int))), (5, .int (iI (((n.2.1 r : Nat) : Int) - ((n.1 0 : Nat) : Int)))), (6, .int (iI ((p : Nat) : Int))), (7, .int (iI ((cod n.2.2.1 (r * 64 + p) (n.1 0) : Nat) : Int))), (8, .long (jI ((cod n.2.2.1 (r * 64 + p) (n.1 0) * n.1 2 + n.1 3 : Nat) : Int)))]) C dX2_gather_73 (by decide) rfl ?_
        refine r_aload_n C dX2_gather_75 rfl rfl ?_
        refine r_iload C dX2_gather_76 rfl ?_
        refine r_lload C dX2_gather_78 rfl ?_
        refine r_ldc2 C 1000003 (by decide) m6 dX2_gather_80 ?_
        refine r_lrem C dX2_gather_83 (by decide) ?_
        rw [show (.long ((jI ((cod n.2.2.1 (r * 64 + p) (n.1 0) * n.1 2 + n.1 3 : Nat) : Int)) - (jI ((cod n.2.2.1 (r * 64 + p) (n.1 0) * n.1 2 + n.1 3 : Nat) : Int)) / (jI 1000003) * (jI 1000003)) : Value) = .long (jI ((vlu (n.1 2) (n.1 3) (cod n.2.2.1 (r * 64 + p) (n.1 0)) : Nat) : Int)) from by rw [show jI 1000003 = jI ((1000003 : Nat) : Int) from rfl, jI_rem (by omega) (by decide) (by decide)]; rfl]
        refine r_l2i C dX2_gather_84 ?_
        rw [show (.int ((jI ((vlu (n.1 2) (n.1 3) (cod n.2.2.1 (r * 64 + p) (n.1 0)) : Nat) : Int)).toInt32) : Value) = .int (iI ((vlu (n.1 2) (n.1 3) (cod n.2.2.1 (r * 64 + p) (n.1 0)) : Nat) : Int)) from by rw [jI_int (by omega)]]
        refine r_callV (As := [.int (iI ((cod n.2.2.1 (r * 64 + p) (n.1 0) : Nat) : Int)), .int (iI ((vlu (n.1 2) (n.1 3) (cod n.2.2.1 (r * 64 + p) (n.1 0)) : Nat) : Int))]) (rest := []) (na := 2) C (c_X2_enter G tc l ad N _ i (gth n r p) ⟨_, _, _, hm9, hm10, hm11, hm12, gw⟩ hi (by omega) (gth_lt n r p) (cod n.2.2.1 (r * 64 + p) (n.1 0)) (vlu (n.1 2) (n.1 3) (cod n.2.2.1 (r * 64 + p) (n.1 0))) hV) gX2_gather_X2_enter rfl rfl rfl (by decide +kernel) ⟨Nat.le_of_ble_eq_true rfl, Nat.le_of_ble_eq_true rfl⟩ (by omega) hm9 (show vwCl[2]? = some (RX2, TX2, 4) from rfl) rfl rfl (Nat.le_of_ble_eq_true rfl) dX2_gather_85 ⟨Nat.le_of_ble_eq_true rfl, Nat.le_of_ble_eq_true rfl⟩ (aft_V (fun f25 hF26 => ?_))
        obtain ⟨⟨wv', wc', wt', k0, k1, k2, k3, kw⟩, hoE⟩ := hF26
        refine r_iinc (lv' := [(0, .ref (ad (i))), (1, .ref (ad (sx))), (2, .int (iI ((r : Nat) : Int))), (3, .int (iI ((r * 64 : Nat) : Int))), (4, .int (iI ((n.1 0 : Nat) : Int))), (5, .int (iI (((n.2.1 r : Nat) : Int) - ((n.1 0 : Nat) : Int)))), (6, .int (iI ((p + 1 : Nat) : Int))), (7, .int (iI ((cod n.2.2.1 (r * 64 + p) (n.1 0) : Nat) : Int))), (8, .long (jI ((cod n.2.2.1 (r * 64 + p) (n.1 0) * n.1 2 + n.1 3 : Nat) : Int)))]) C ((p + 1 : Nat) : Int) (by omega) dX2_gather_88 rfl (by decide) rfl ?_
        refine r_goto (tgt := 32) C dX2_gather_91 (by decide) ?_
        refine r_sub (ks := [0, 1, 2, 3, 4, 5, 6]) (lv' := [(0, .ref (ad (i))), (1, .ref (ad (sx))), (2, .int (iI ((r : Nat) : Int))), (3, .int (iI ((r * 64 : Nat) : Int))), (4, .int (iI ((n.1 0 : Nat) : Int))), (5, .int (iI (((n.2.1 r : Nat) : Int) - ((n.1 0 : Nat) : Int)))), (6, .int (iI ((p + 1 : Nat) : Int)))]) rfl ?_
        exact ih16 (p + 1) wv' wc' wt' f25 k0 k1 k2 k3 (fun q hq => ((hoE _ (by omega))).trans (ho13 _ (by omega))) (by omega) kw (by omega)
  have c27 : f1 (i + 1) = eI tc 64 (wv0) := (ho3 _ (by omega)).trans g1
  have c28 : f1 (i + 2) = eI tc 64 (wc0) := (ho3 _ (by omega)).trans g2
  have c29 : f1 (i + 3) = eI tc 64 (wt0) := (ho3 _ (by omega)).trans g3
  exact hL14 _ 0 wv0 wc0 wt0 f1 c4 c27 c28 c29 (fun _ _ => rfl) (by omega) (fun j hj => absurd hj (Nat.not_lt_zero _)) (Nat.lt_succ_self _)
set_option maxHeartbeats 4000000 in
set_option maxRecDepth 100000 in
/-- wordsOf(r): the words of row r, gathered -/
theorem c_X3_wordsOf (G : va_G) (tc : Nat → ClassId) (l : Launch) (ad : Nat → Nat) (N : Nat) (f : Nat → va_E) (s : SG) (hX : XI tc ad f s) (ho : okS s) (hN : 98 ≤ N) (r : Nat) (hr : r < (cur s).2.2.2)   : Ct G tc l yX3_wordsOf wsX3_wordsOf { frames := 3, cells := 0, slots := 0, locals := 73 } 0 0 [.ref (ad (0)), .int (iI ((r : Nat) : Int))] ad N f (poA ad N (ad (42 + 4 * r)) (fun f' => XI tc ad f' s ∧ isWd tc ad f' (42 + 4 * r) (wds (cur s) r) ∧ ∀ q, ((q < 42 + 4 * r ∨ 42 + 4 * r + 4 ≤ q) ∧ q ≠ 82) → f' q = f q)) := by
  obtain ⟨h0, ⟨h1, h2, h3, h4⟩, hHis, hSlo, h40, hWds, hPr, hHd⟩ := id hX
  obtain ⟨⟨⟨a1, a2⟩, ⟨a3, a4⟩, ⟨a5, a6⟩, a7, a8, a9, a10⟩, o2, o3, o4, o5, o6⟩ := id ho
  obtain ⟨gt, wd, w41, w82, wst, wv⟩ := id hWds
  obtain ⟨b, hb1, hb2⟩ : ∃ b : Nat, gt r = iI ((b : Nat) : Int) ∧ (b = 0 ∨ (b = 1 ∧ wd r = wds (cur s) r)) := by
    rcases wv r (by omega) with h | h
    · exact ⟨0, h, Or.inl rfl⟩
    · exact ⟨1, h.1, Or.inr ⟨rfl, h.2⟩⟩
  refine stA (cc := cX3_wordsOf) (maxL := 2) (lv := [(0, .ref (ad (0))), (1, .int (iI ((r : Nat) : Int)))]) (by decide) rfl (Nat.le_of_ble_eq_true rfl) rfl (fun X C hret => ?_)
  have m0 : Cond.fieldLink RX3 44 "WordSamples" "gathered" "[Z" ∈ wsX3_wordsOf := by decide +kernel
  have m1 : ∀ w ∈ wsX30, w ∈ wsX3_wordsOf := by decide +kernel
  have m2 : Cond.fieldLink RX3 40 "WordSamples" "words" "[LWordSamples$Words;" ∈ wsX3_wordsOf := by decide +kernel
  have m3 : Cond.fieldLink RX3 10 "WordSamples" "now" "LWordSamples$State;" ∈ wsX3_wordsOf := by decide +kernel
  refine r_aload_n C dX3_wordsOf_0 rfl rfl ?_
  refine r_get (v := .ref (ad (82))) C (by omega) h0 (show vwCl[3]? = some (RX3, TX3, 11) from rfl) m1 8 (by decide) m0 rfl rfl dX3_wordsOf_1 ?_
  refine r_iload_n C dX3_wordsOf_4 rfl rfl ?_
  refine r_zald (x := (iI ((b : Nat) : Int))) C (by omega) w82 (r) rfl (by omega) (Nat.le_of_ble_eq_true rfl) (hb1) dX3_wordsOf_5 ?_
  have hb3 : b ≤ 1 := by omega
  refine r_if_ne (tgt := 30) C ⟨by omega, by omega⟩ dX3_wordsOf_6 (by decide) (fun b_g0 => ?_) (fun b_g0 => ?_)
  · refine r_aload_n C dX3_wordsOf_30 rfl rfl ?_
    refine r_get (v := .ref (ad (41))) C (by omega) h0 (show vwCl[3]? = some (RX3, TX3, 11) from rfl) m1 7 (by decide) m2 rfl rfl dX3_wordsOf_31 ?_
    refine r_iload_n C dX3_wordsOf_34 rfl rfl ?_
    refine r_aaldW (a := ad (42 + 4 * r)) C (by omega) w41 (r) rfl (by omega) (Nat.le_of_ble_eq_true rfl) (rfl) dX3_wordsOf_35 ?_
    exact hret f _ _ dX3_wordsOf_36 (⟨hX, by have e := hb2.resolve_left (by omega); rw [← e.2]; exact wst r (by omega), fun _ _ => rfl⟩)
  · refine r_aload_n C dX3_wordsOf_9 rfl rfl ?_
    refine r_get (v := .ref (ad (41))) C (by omega) h0 (show vwCl[3]? = some (RX3, TX3, 11) from rfl) m1 7 (by decide) m2 rfl rfl dX3_wordsOf_10 ?_
    refine r_iload_n C dX3_wordsOf_13 rfl rfl ?_
    refine r_aaldW (a := ad (42 + 4 * r)) C (by omega) w41 (r) rfl (by omega) (Nat.le_of_ble_eq_true rfl) (rfl) dX3_wordsOf_14 ?_
    refine r_aload_n C dX3_wordsOf_15 rfl rfl ?_
    refine r_get (v := .ref (ad (1))) C (by omega) h0 (show vwCl[3]? = some (RX3, TX3, 11) from rfl) m1 0 (by decide) m3 rfl rfl dX3_wordsOf_16 ?_
    refine r_iload_n C dX3_wordsOf_19 rfl rfl ?_
    obtain ⟨wv0, wc0, wt0, y0, y1, y2, y3, y4⟩ := id (wst r (by omega))
    refine r_callV (As := [.ref (ad (1)), .int (iI ((r : Nat) : Int))]) (rest := []) (na := 2) C (c_X2_gather G tc l ad N _ (42 + 4 * r) (wd r) (wst r (by omega)) (by omega) 1 (cur s) ⟨h1, h2, h3, h4⟩ (by omega) ho.1 r (by omega)) gX3_wordsOf_X2_gather rfl rfl rfl (by decide +kernel) ⟨Nat.le_of_ble_eq_true rfl, Nat.le_of_ble_eq_true rfl⟩ (by omega) y0 (show vwCl[2]? = some (RX2, TX2, 4) from rfl) rfl rfl (Nat.le_of_ble_eq_true rfl) dX3_wordsOf_20 ⟨Nat.le_of_ble_eq_true rfl, Nat.le_of_ble_eq_true rfl⟩ (aft_V (fun f1 hF2 => ?_))
    obtain ⟨hgw, hoG⟩ := hF2
    refine r_aload_n C dX3_wordsOf_23 rfl rfl ?_
    have c3 : f1 (0) = eO 3 [.ref (ad (1)), .ref (ad (5)), .int (iI ((kno s : Nat) : Int)), .ref (ad (30)), .ref (ad (39)), .ref (ad (40)), .int (iI ((pln s : Nat) : Int)), .ref (ad (41)), .ref (ad (82)), .ref (ad (83)), .ref (ad (87))] := (hoG _ (by omega)).trans h0
    refine r_get (v := .ref (ad (82))) C (by omega) c3 (show vwCl[3]? = some (RX3, TX3, 11) from rfl) m1 8 (by decide) m0 rfl rfl dX3_wordsOf_24 ?_
    refine r_iload_n C dX3_wordsOf_27 rfl rfl ?_
    refine r_iconst C ((1 : Nat) : Int) (by decide) dX3_wordsOf_28 ?_
    have c4 : f1 (82) = eB tc 10 (gt) := (hoG _ (by omega)).trans w82
    refine r_zast C (by omega) c4 (r) rfl (by omega) (Nat.le_of_ble_eq_true rfl) rfl dX3_wordsOf_29 (fun f5 hs6 ho7 => ?_)
    refine r_aload_n C dX3_wordsOf_30 rfl rfl ?_
    have c8 : f5 (0) = eO 3 [.ref (ad (1)), .ref (ad (5)), .int (iI ((kno s : Nat) : Int)), .ref (ad (30)), .ref (ad (39)), .ref (ad (40)), .int (iI ((pln s : Nat) : Int)), .ref (ad (41)), .ref (ad (82)), .ref (ad (83)), .ref (ad (87))] := (ho7 _ (by omega)).trans c3
    refine r_get (v := .ref (ad (41))) C (by omega) c8 (show vwCl[3]? = some (RX3, TX3, 11) from rfl) m1 7 (by decide) m2 rfl rfl dX3_wordsOf_31 ?_
    refine r_iload_n C dX3_wordsOf_34 rfl rfl ?_
    have c9 : f1 (41) = eW tc 10 (fun k => some (ad (42 + 4 * k))) := (hoG _ (by omega)).trans w41
    have c10 : f5 (41) = eW tc 10 (fun k => some (ad (42 + 4 * k))) := (ho7 _ (by omega)).trans c9
    refine r_aaldW (a := ad (42 + 4 * r)) C (by omega) c10 (r) rfl (by omega) (Nat.le_of_ble_eq_true rfl) (rfl) dX3_wordsOf_35 ?_
    have hgq := hgw.fr (f' := f5) (fun q g1 g2 => (ho7 _ (by omega)))
    exact hret f5 _ _ dX3_wordsOf_36 (⟨words_XI hX (by omega) hgq hs6 w82 (fun q g1 g2 => ((ho7 _ (by omega))).trans (hoG _ (by omega))), hgq, fun q hq => ((ho7 _ (by omega))).trans (hoG _ (by omega))⟩)
end XW1
