section LAWS
/-! the law's start: both objects are made, the cells are numbered anew -/
theorem isSt.rn {tc : Nat → ClassId} {ad ad' : Nat → Nat} {f f' : Nat → va_E} {i i' : Nat} {n : NS} (h : isSt tc ad f i' n) (ha : ∀ d, d < 4 → ad' (i + d) = ad (i' + d)) (hq : ∀ d, d < 4 → f' (i + d) = f (i' + d)) : isSt tc ad' f' i n := by
  refine ⟨(hq 0 (by omega)).trans (h.1.trans ?_), (hq 1 (by omega)).trans h.2.1, (hq 2 (by omega)).trans h.2.2.1, (hq 3 (by omega)).trans h.2.2.2⟩
  show oS ad i' n.2.2.2 = oS ad' i n.2.2.2
  unfold oS
  rw [ha 1 (by omega), ha 2 (by omega), ha 3 (by omega)]
theorem isWd.rn {tc : Nat → ClassId} {ad ad' : Nat → Nat} {f f' : Nat → va_E} {i i' : Nat} {w : WW} (h : isWd tc ad f i' w) (ha : ∀ d, d < 4 → ad' (i + d) = ad (i' + d)) (hq : ∀ d, d < 4 → f' (i + d) = f (i' + d)) : isWd tc ad' f' i w := by
  obtain ⟨v, c, t, h1, h2, h3, h4, h5⟩ := h
  refine ⟨v, c, t, (hq 0 (by omega)).trans (h1.trans ?_), (hq 1 (by omega)).trans h2, (hq 2 (by omega)).trans h3, (hq 3 (by omega)).trans h4, h5⟩
  show oW ad i' w.1 = oW ad' i w.1
  unfold oW
  rw [ha 1 (by omega), ha 2 (by omega), ha 3 (by omega)]
theorem MI.mv {tc : Nat → ClassId} {ad ad' : Nat → Nat} {f f' : Nat → va_E} {s : SG} (h : MI tc ad f s) (ha : ∀ q, 88 ≤ q → q < 98 → ad' q = ad q) (hq : ∀ q, 88 ≤ q → q < 98 → f' q = f q) : MI tc ad' f' s := by
  obtain ⟨⟨x1, x2, x3, x4, h1⟩, h2⟩ := h.fr hq
  refine ⟨⟨x1, x2, x3, x4, h1.trans ?_⟩, h2⟩
  show oM ad (kno s) (pln s) x1 x2 x3 x4 = oM ad' (kno s) (pln s) x1 x2 x3 x4
  unfold oM
  rw [ha 89 (by omega) (by omega), ha 90 (by omega) (by omega), ha 91 (by omega) (by omega), ha 92 (by omega) (by omega), ha 93 (by omega) (by omega), ha 94 (by omega) (by omega), ha 95 (by omega) (by omega), ha 96 (by omega) (by omega), ha 97 (by omega) (by omega)]
/-- the cells in the order of the law's own numbers, out of the order of their making -/
def cnum (q : Nat) : Nat := if q ≤ 5 then q else if q < 30 then q + 10 else if q = 30 then 6 else if q < 39 then q + 9 else if q < 42 then q - 32 else if q < 82 then q + 6 else if q < 88 then q - 72 else q
theorem cnum_lt : ∀ i, i < 98 → cnum i < 98 := by decide +kernel
theorem cnum_88 : ∀ i, 88 ≤ i → cnum i = i := by
  intro i h
  unfold cnum
  rw [if_neg (by omega), if_neg (by omega), if_neg (by omega), if_neg (by omega), if_neg (by omega), if_neg (by omega), if_neg (by omega)]
theorem cnum_his : ∀ k, k < 6 → ∀ d, d < 4 → cnum (6 + 4 * k + d) = 16 + 4 * k + d := by decide +kernel
theorem cnum_slo : ∀ k, k < 2 → ∀ d, d < 4 → cnum (31 + 4 * k + d) = 40 + 4 * k + d := by decide +kernel
theorem cnum_wds : ∀ k, k < 10 → ∀ d, d < 4 → cnum (42 + 4 * k + d) = 48 + 4 * k + d := by decide +kernel
theorem cnum_now : ∀ d, d < 4 → cnum (1 + d) = 1 + d := by decide +kernel
def cinv (q : Nat) : Nat := if q ≤ 5 then q else if q = 6 then 30 else if q ≤ 9 then q + 32 else if q < 16 then q + 72 else if q < 40 then q - 10 else if q < 48 then q - 9 else if q < 88 then q - 6 else q
theorem cinv_cnum : ∀ i, i < 98 → cinv (cnum i) = i := by decide +kernel
theorem cnum_inj : ∀ i j, i < 98 → j < 98 → cnum i = cnum j → i = j := fun i j hi hj h => by
  have := congrArg cinv h
  rw [cinv_cnum i hi, cinv_cnum j hj] at this
  exact this
variable {X : XT} {G : va_G} {tc : Nat → ClassId} {l : Launch} {ad : Nat → Nat} {f : Nat → va_E} {k n pc : Nat} {lv : List (Nat × Value)} {st : List Value} {b L : Nat} {xs : Nat → Int32}
theorem r_num (hX : XN tc ad f) (hM : MI tc ad f s0) (kk : ∀ ad' f', ad' 0 = ad 0 → ad' 88 = ad 88 → XI tc ad' f' s0 → MI tc ad' f' s0 → VV X ad' 98 f' k n pc lv st) : VV X ad 98 f k n pc lv st := by
  obtain ⟨x0, x1, x5, x6, x7, x8, x9, x10, x11, x15, xh, xl, xw⟩ := hX
  refine r_perm cnum cnum_lt cnum_inj ?_
  refine r_cvQ (i := 5) (f := fun i => f (cnum i)) x5 (fun k => some (ad (cnum (6 + 4 * k)))) (fun j hj => ?_) (fun f1 e1 o1 => ?_)
  · show (if j < 6 then some (ad (16 + 4 * j)) else none) = some (ad (cnum (6 + 4 * j)))
    rw [if_pos hj, show cnum (6 + 4 * j) = 16 + 4 * j from cnum_his j hj 0 (by decide)]
  refine r_cvQ (i := 30) (f := f1) ((o1 30 (by decide)).trans x6) (fun k => some (ad (cnum (31 + 4 * k)))) (fun j hj => ?_) (fun f2 e2 o2 => ?_)
  · show (if j < 2 then some (ad (40 + 4 * j)) else none) = some (ad (cnum (31 + 4 * j)))
    rw [if_pos hj, show cnum (31 + 4 * j) = 40 + 4 * j from cnum_slo j hj 0 (by decide)]
  refine r_cvQ (i := 41) (f := f2) ((o2 41 (by decide)).trans ((o1 41 (by decide)).trans x9)) (fun k => some (ad (cnum (42 + 4 * k)))) (fun j hj => ?_) (fun f3 e3 o3 => ?_)
  · show (if j < 10 then some (ad (48 + 4 * j)) else none) = some (ad (cnum (42 + 4 * j)))
    rw [if_pos hj, show cnum (42 + 4 * j) = 48 + 4 * j from cnum_wds j hj 0 (by decide)]
  have oo : ∀ q, q ≠ 5 → q ≠ 30 → q ≠ 41 → f3 q = f (cnum q) := fun q h1 h2 h3 => (o3 q h3).trans ((o2 q h2).trans (o1 q h1))
  refine kk (fun i => ad (cnum i)) f3 rfl rfl ⟨?_, ?_, ?_, ?_, ?_, ?_, ?_, ?_⟩ ?_
  · exact (oo 0 (by decide) (by decide) (by decide)).trans x0
  · exact isSt.rn x1 (fun d hd => congrArg ad (cnum_now d hd)) (fun d hd => (oo (1 + d) (by omega) (by omega) (by omega)).trans (congrArg f (cnum_now d hd)))
  · refine ⟨fun k => k, fun _ => n0, (o3 5 (by decide)).trans ((o2 5 (by decide)).trans e1), fun k h => h, fun j k _ _ h => h, fun k hk => ?_, fun k hk => absurd hk (Nat.not_lt_zero _)⟩
    exact isSt.rn (xh k hk) (fun d hd => congrArg ad (cnum_his k hk d hd)) (fun d hd => (oo (6 + 4 * k + d) (by omega) (by omega) (by omega)).trans (congrArg f (cnum_his k hk d hd)))
  · refine ⟨fun _ => n0, (o3 30 (by decide)).trans e2, fun k hk => ?_, ⟨_, (oo 39 (by decide) (by decide) (by decide)).trans x7, fun k _ => rfl⟩, fun k _ h => absurd (show false = true from h) Bool.false_ne_true⟩
    exact isSt.rn (xl k hk) (fun d hd => congrArg ad (cnum_slo k hk d hd)) (fun d hd => (oo (31 + 4 * k + d) (by omega) (by omega) (by omega)).trans (congrArg f (cnum_slo k hk d hd)))
  · exact (oo 40 (by decide) (by decide) (by decide)).trans x8
  · refine ⟨fun _ => iI ((0 : Nat) : Int), fun _ => w0, e3, (oo 82 (by decide) (by decide) (by decide)).trans x10, fun k hk => ?_, fun k _ => Or.inl rfl⟩
    exact isWd.rn (xw k hk) (fun d hd => congrArg ad (cnum_wds k hk d hd)) (fun d hd => (oo (42 + 4 * k + d) (by omega) (by omega) (by omega)).trans (congrArg f (cnum_wds k hk d hd)))
  · obtain ⟨p1, p2, p3, p4⟩ := x11
    exact ⟨_, _, _, _, _, _, _, (oo 83 (by decide) (by decide) (by decide)).trans p1, (oo 84 (by decide) (by decide) (by decide)).trans p2, (oo 85 (by decide) (by decide) (by decide)).trans p3, (oo 86 (by decide) (by decide) (by decide)).trans p4, rfl, rfl, rfl⟩
  · exact ⟨_, (oo 87 (by decide) (by decide) (by decide)).trans x15⟩
  · exact hM.mv (fun q h1 _ => congrArg ad (cnum_88 q h1)) (fun q h1 _ => (oo q (by omega) (by omega) (by omega)).trans (congrArg f (cnum_88 q h1)))
theorem XN.mv {ad' : Nat → Nat} {f' : Nat → va_E} (h : XN tc ad f) (ha : ∀ q, q < 88 → ad' q = ad q) (hq : ∀ q, q < 88 → f' q = f q) : XN tc ad' f' := by
  obtain ⟨x0, x1, x5, x6, x7, x8, x9, x10, x11, x15, xh, xl, xw⟩ := h
  refine ⟨(hq 0 (by omega)).trans (x0.trans ?_), x1.mv (fun q _ _ => ha q (by omega)) (fun q _ _ => hq q (by omega)), (hq 5 (by omega)).trans (x5.trans (by rw [hsF_mv (ad := ad) (ad' := ad') (b := 16) (c := 6) (fun q h => ha q (by omega))])), (hq 6 (by omega)).trans (x6.trans (by rw [hsF_mv (ad := ad) (ad' := ad') (b := 40) (c := 2) (fun q h => ha q (by omega))])), (hq 7 (by omega)).trans x7, (hq 8 (by omega)).trans x8, (hq 9 (by omega)).trans (x9.trans (by rw [hsF_mv (ad := ad) (ad' := ad') (b := 48) (c := 10) (fun q h => ha q (by omega))])), (hq 10 (by omega)).trans x10, x11.mv (fun q _ _ => ha q (by omega)) (fun q _ _ => hq q (by omega)), (hq 15 (by omega)).trans x15, fun k hk => (xh k hk).mv (fun q _ _ => ha q (by omega)) (fun q _ _ => hq q (by omega)), fun k hk => (xl k hk).mv (fun q _ _ => ha q (by omega)) (fun q _ _ => hq q (by omega)), fun k hk => (xw k hk).mv (fun q _ _ => ha q (by omega)) (fun q _ _ => hq q (by omega))⟩
  rw [ha 1 (by omega), ha 5 (by omega), ha 6 (by omega), ha 7 (by omega), ha 8 (by omega), ha 9 (by omega), ha 10 (by omega), ha 11 (by omega), ha 15 (by omega)]
set_option maxHeartbeats 2000000 in
/-- from the entry to the end -/
theorem go_L (C : CC X G tc l cL_law RL wsL_law 4 room_1) (hB : SD b L xs X) (hL : L ≤ 2048) (fin : ∀ ad' f' lv', VV X ad' 98 f' 98 14465 816 lv' [.int (iI 1)]) : VV X ad 0 f 0 0 0 [(0, .ref b)] [] := by
  refine r_newO (fs := [.null, .null, .int (iI ((0 : Nat) : Int)), .null, .null, .null, .int (iI ((0 : Nat) : Int)), .null, .null, .null, .null]) C (show vwCl[3]? = some (RX3, TX3, 11) from rfl) inlX3 tyX3_ok (by decide +kernel) (by decide +kernel) (by decide +kernel) df3 ⟨Nat.le_of_ble_eq_true rfl, Nat.le_of_ble_eq_true rfl⟩ dL_law_0 (fun ad1 f1 _ h1 _ => ?_)
  refine r_dup C dL_law_3 rfl ?_
  refine r_callI (As := []) (rest := [.ref (ad1 0)]) (na := 0) (i := 0) C (c_X3_init G tc l ad1 0 f1 h1) gL_law_X3_init rfl rfl rfl (by decide +kernel) (by decide +kernel) (by decide +kernel) rfl (by decide +kernel) ⟨Nat.le_of_ble_eq_true rfl, Nat.le_of_ble_eq_true rfl⟩ rfl rfl (Nat.le_of_ble_eq_true rfl) dL_law_4 ⟨Nat.le_of_ble_eq_true rfl, Nat.le_of_ble_eq_true rfl⟩ (aft_G (fun ad2 N2 f2 hF => ?_))
  obtain ⟨rfl, ha2, hXN⟩ := hF
  rw [← ha2]
  refine r_astore_n (lv' := [(0, .ref b), (1, .ref (ad2 0))]) C dL_law_7 rfl (by decide) rfl ?_
  refine r_newO (fs := [.null, .null, .int (iI ((0 : Nat) : Int)), .null, .null, .null, .int (iI ((0 : Nat) : Int)), .null, .null, .null, .null, .int (iI ((0 : Nat) : Int)), .int (iI ((0 : Nat) : Int)), .int (iI ((0 : Nat) : Int)), .int (iI ((0 : Nat) : Int))]) C (show vwCl[4]? = some (RX4, TX4, 15) from rfl) inlX4 tyX4_ok (by decide +kernel) (by decide +kernel) (by decide +kernel) df4 ⟨Nat.le_of_ble_eq_true rfl, Nat.le_of_ble_eq_true rfl⟩ dL_law_8 (fun ad3 f3 ha3 h3 ho3 => ?_)
  rw [← ha3 0 (by decide)]
  refine r_dup C dL_law_11 rfl ?_
  refine r_callI (As := []) (rest := [.ref (ad3 88)]) (na := 0) (i := 88) C (c_X4_init G tc l ad3 0 f3 h3) gL_law_X4_init rfl rfl rfl (by decide +kernel) (by decide +kernel) (by decide +kernel) rfl (by decide +kernel) ⟨Nat.le_of_ble_eq_true rfl, Nat.le_of_ble_eq_true rfl⟩ rfl rfl (Nat.le_of_ble_eq_true rfl) dL_law_12 ⟨Nat.le_of_ble_eq_true rfl, Nat.le_of_ble_eq_true rfl⟩ (aft_G (fun ad4 N4 f4 hF => ?_))
  obtain ⟨rfl, ha4, hMI, ho4⟩ := hF
  have hXN4 : XN tc ad4 f4 := hXN.mv (fun q h => (ha4 q (by omega)).trans (ha3 q h)) (fun q h => (ho4 q h).trans (ho3 q (by omega)))
  rw [← ha4 0 (by decide), ← ha4 88 (by decide)]
  refine r_num hXN4 hMI (fun ad5 f5 e0 e88 hX hM => ?_)
  rw [← e0, ← e88]
  refine r_astore_n (lv' := [(0, .ref b), (1, .ref (ad5 0)), (2, .ref (ad5 88))]) C dL_law_15 rfl (by decide) rfl ?_
  refine r_iconst C ((0 : Nat) : Int) rfl dL_law_16 ?_
  refine r_istore_n (lv' := lvL b ad5 0) C dL_law_17 rfl (by decide) rfl ?_
  exact lp_L C hB hL (fin ad5) (L + 4) 0 f5 s0 (by omega) (by omega) hX hM okS_0
end LAWS
