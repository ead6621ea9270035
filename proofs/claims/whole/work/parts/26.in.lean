section INI
def poG (P : (Nat → Nat) → Nat → (Nat → va_E) → Prop) : Option Value → (Nat → Nat) → Nat → (Nat → va_E) → Prop := fun v ad' N' f' => v = none ∧ P ad' N' f'
theorem aft_G {X : XT} {k n pc : Nat} {lv : List (Nat × Value)} {rest : List Value} {P : (Nat → Nat) → Nat → (Nat → va_E) → Prop} (kk : ∀ ad' N' f', P ad' N' f' → VV X ad' N' f' k n pc lv rest) : ∀ v ad' N' f', poG P v ad' N' f' → VV X ad' N' f' k n pc lv (v.toList ++ rest) := by
  rintro v ad' N' f' ⟨rfl, h⟩
  exact kk ad' N' f' h
theorem r_cn {X : XT} {ad : Nat → Nat} {N : Nat} {f : Nat → va_E} {k n pc : Nat} {lv : List (Nat × Value)} {st : List Value} {k' n' N' : Nat} (h1 : k = k') (h2 : n = n') (h3 : N = N') (kk : VV X ad N' f k' n' pc lv st) : VV X ad N f k n pc lv st := by
  subst h1 h2 h3
  exact kk
def w0 : WW := (0, fun _ => 0, fun _ => 0, fun _ => 0)
def isP0 (tc : Nat → ClassId) (ad : Nat → Nat) (f : Nat → va_E) (i : Nat) : Prop :=
  f i = eO 0 [.ref (ad (i + 1)), .ref (ad (i + 2)), .ref (ad (i + 3)), .int (iI ((0 : Nat) : Int)), .int (iI ((0 : Nat) : Int)), .int (iI ((0 : Nat) : Int)), .int (iI ((0 : Nat) : Int))] ∧ f (i + 1) = eI tc 33 (fun j => iI (((fun _ => 0 : Nat → Nat) j : Nat) : Int)) ∧ f (i + 2) = eI tc 33 (fun j => iI (((fun _ => 0 : Nat → Nat) j : Nat) : Int)) ∧ f (i + 3) = eI tc 33 (fun j => iI (((fun _ => 0 : Nat → Nat) j : Nat) : Int))
theorem isP0.mv {tc : Nat → ClassId} {ad ad' : Nat → Nat} {f f' : Nat → va_E} {i : Nat} (h : isP0 tc ad f i) (ha : ∀ q, i ≤ q → q < i + 4 → ad' q = ad q) (hq : ∀ q, i ≤ q → q < i + 4 → f' q = f q) : isP0 tc ad' f' i := by
  refine ⟨(hq _ (by omega) (by omega)).trans (h.1.trans ?_), (hq _ (by omega) (by omega)).trans h.2.1, (hq _ (by omega) (by omega)).trans h.2.2.1, (hq _ (by omega) (by omega)).trans h.2.2.2⟩
  rw [ha (i + 1) (by omega) (by omega), ha (i + 2) (by omega) (by omega), ha (i + 3) (by omega) (by omega)]
theorem df0 : ∀ j, j < 7 → defaultValue (tyX0 j) = vp_V [.null, .null, .null, .int (iI ((0 : Nat) : Int)), .int (iI ((0 : Nat) : Int)), .int (iI ((0 : Nat) : Int)), .int (iI ((0 : Nat) : Int))] j := by
  intro j hj
  rcases j with _ | _ | _ | _ | _ | _ | _ | j <;> first | rfl | omega
theorem df1 : ∀ j, j < 4 → defaultValue (tyX1 j) = vp_V [.null, .null, .null, .int (iI ((0 : Nat) : Int))] j := by
  intro j hj
  rcases j with _ | _ | _ | _ | j <;> first | rfl | omega
theorem df2 : ∀ j, j < 4 → defaultValue (tyX2 j) = vp_V [.null, .null, .null, .int (iI ((0 : Nat) : Int))] j := by
  intro j hj
  rcases j with _ | _ | _ | _ | j <;> first | rfl | omega
theorem df3 : ∀ j, j < 11 → defaultValue (tyX3 j) = vp_V [.null, .null, .int (iI ((0 : Nat) : Int)), .null, .null, .null, .int (iI ((0 : Nat) : Int)), .null, .null, .null, .null] j := by
  intro j hj
  rcases j with _ | _ | _ | _ | _ | _ | _ | _ | _ | _ | _ | j <;> first | rfl | omega
theorem df4 : ∀ j, j < 15 → defaultValue (tyX4 j) = vp_V [.null, .null, .int (iI ((0 : Nat) : Int)), .null, .null, .null, .int (iI ((0 : Nat) : Int)), .null, .null, .null, .null, .int (iI ((0 : Nat) : Int)), .int (iI ((0 : Nat) : Int)), .int (iI ((0 : Nat) : Int)), .int (iI ((0 : Nat) : Int))] j := by
  intro j hj
  rcases j with _ | _ | _ | _ | _ | _ | _ | _ | _ | _ | _ | _ | _ | _ | _ | j <;> first | rfl | omega
/-- the class, made; its cells in the order in which they were made -/
def XN (tc : Nat → ClassId) (ad : Nat → Nat) (f : Nat → va_E) : Prop :=
  f 0 = eO 3 [.ref (ad 1), .ref (ad 5), .int (iI ((0 : Nat) : Int)), .ref (ad 6), .ref (ad 7), .ref (ad 8), .int (iI ((0 : Nat) : Int)), .ref (ad 9), .ref (ad 10), .ref (ad 11), .ref (ad 15)] ∧ isSt tc ad f 1 n0 ∧ f 5 = eS tc 6 (hsF ad 16 6) ∧ f 6 = eS tc 2 (hsF ad 40 2) ∧ f 7 = eB tc 2 (fun _ => iI ((0 : Nat) : Int)) ∧ f 8 = eI tc 64 (fun j => iI (((fun _ => 0 : Nat → Nat) j : Nat) : Int)) ∧ f 9 = eW tc 10 (hsF ad 48 10) ∧ f 10 = eB tc 10 (fun _ => iI ((0 : Nat) : Int)) ∧ isP0 tc ad f 11 ∧ f 15 = eI tc 10 (fun j => iI (((fun _ => 0 : Nat → Nat) j : Nat) : Int)) ∧
  (∀ k, k < 6 → isSt tc ad f (16 + 4 * k) n0) ∧ (∀ k, k < 2 → isSt tc ad f (40 + 4 * k) n0) ∧ ∀ k, k < 10 → isWd tc ad f (48 + 4 * k) w0
theorem now_0 : upN (upN (upN (upN (fun _ => 0 : Nat → Nat) (0) (3)) (1) (8)) (2) (7919)) (3) (104729) = nwF n0 := by
  funext j
  unfold upN nwF n0 fS
  dsimp only
  (repeat' split) <;> first | rfl | omega
set_option maxHeartbeats 4000000 in
set_option maxRecDepth 100000 in
/-- a State is made -/
theorem c_X1_init (G : va_G) (tc : Nat → ClassId) (l : Launch) (ad : Nat → Nat) (N : Nat) (f : Nat → va_E) (i : Nat) (h0 : f (i) = eO 1 [.null, .null, .null, .int (iI ((0 : Nat) : Int))])  : Ct G tc l yX1_init wsX1_init { frames := 1, cells := 3, slots := 654, locals := 20 } 3 654 [.ref (ad (i))] ad (i + 1) f (poG (fun ad' N' f' => N' = i + 4 ∧ (∀ q, q ≤ i → ad' q = ad q) ∧ isSt tc ad' f' i n0 ∧ ∀ q, q < i → f' q = f q)) := by
  obtain ⟨ad0, had0⟩ : ∃ a, a = ad := ⟨_, rfl⟩
  have hA0 : ∀ q, q ≤ i → ad q = ad0 q := fun q _ => by rw [had0]
  have hF0 : ∀ q, q < i → f q = f q := fun q _ => rfl
  refine Ct.ofV (cc := cX1_init) (maxL := 1) (lv := [(0, .ref (ad (i)))]) (by decide) rfl (Nat.le_of_ble_eq_true rfl) rfl (fun X C hinit hret => ?_)
  have m0 : Cond.methodLink RX1 3 objectInit ∈ wsX1_init := by decide +kernel
  have m1 : Cond.instanceMethod objectInit ∈ wsX1_init := by decide +kernel
  have m2 : Cond.code objectInit ⟨#[0xb1]⟩ 1 none ∈ wsX1_init := by decide +kernel
  have m3 : Cond.arrayClass .int ∈ wsX1_init := by decide +kernel
  have m4 : Cond.fieldLink RX1 9 "WordSamples$State" "settings" "[I" ∈ wsX1_init := by decide +kernel
  have m5 : ∀ w ∈ wsX10, w ∈ wsX1_init := by decide +kernel
  have m6 : Cond.fieldLink RX1 15 "WordSamples$State" "lengths" "[I" ∈ wsX1_init := by decide +kernel
  have m7 : Cond.fieldLink RX1 18 "WordSamples$State" "signs" "[I" ∈ wsX1_init := by decide +kernel
  have m8 : Cond.fieldLink RX1 21 "WordSamples$State" "rows" "I" ∈ wsX1_init := by decide +kernel
  have m9 : Cond.methodLink RX1 28 arraycopyName ∈ wsX1_init := by decide +kernel
  have m10 : Cond.native arraycopyName ∈ wsX1_init := by decide +kernel
  have m11 : Cond.static arraycopyName ∈ wsX1_init := by decide +kernel
  have m12 : Cond.initialized "java/lang/System" ∈ wsX1_init := by decide +kernel
  refine r_aload_n C dX1_init_0 rfl rfl ?_
  refine r_objInit C m0 m1 m2 (Nat.le_of_ble_eq_true rfl) (Nat.le_of_ble_eq_true rfl) dX1_init_1 ?_
  refine r_aload_n C dX1_init_4 rfl rfl ?_
  refine r_iconst C ((4 : Nat) : Int) (by decide) dX1_init_5 ?_
  refine r_newI C 4 rfl (by decide) m3 ⟨by show 0 + 1 ≤ 3; omega, by show 0 + 4 ≤ 654; omega⟩ dX1_init_6 (fun ad f1 hag2 hs3 ho4 => ?_)
  have c5 : f1 (i) = eO 1 [.null, .null, .null, .int (iI ((0 : Nat) : Int))] := (ho4 _ (by omega)).trans (h0)
  have hA6 : ∀ q, q ≤ i → ad q = ad0 q := fun q hq => (hag2 q (by omega)).trans (hA0 q hq)
  have hA7 : ∀ q, q < i → f1 q = f q := fun q hq => ((ho4 q (by omega))).trans (hF0 q hq)
  rw [← hag2 (i) (by omega)]
  refine r_putF (ty := .array .int) C (by omega) c5 (show vwCl[1]? = some (RX1, TX1, 4) from rfl) m5 tyX1_ok nmX1 0 (by decide) m4 rfl rfl hinit rfl (by decide +kernel) rfl rfl (Nat.le_of_ble_eq_true rfl) dX1_init_8 (fun f8 hs9 ho10 => ?_)
  have c11 : f8 (i) = eO 1 [.ref (ad (i + 1)), .null, .null, .int (iI ((0 : Nat) : Int))] := hs9
  refine r_aload_n C dX1_init_11 rfl rfl ?_
  refine r_bipush C ((10 : Nat) : Int) (by decide) dX1_init_12 ?_
  have c16 : f8 (i + 1) = eI tc 4 (fun j => iI (((fun _ => 0 : Nat → Nat) j : Nat) : Int)) := (ho10 _ (by omega)).trans hs3
  refine r_newI C 10 rfl (by decide) m3 ⟨by show 1 + 1 ≤ 3; omega, by show 4 + 10 ≤ 654; omega⟩ dX1_init_14 (fun ad f12 hag13 hs14 ho15 => ?_)
  have c17 : f12 (i) = eO 1 [.ref (ad (i + 1)), .null, .null, .int (iI ((0 : Nat) : Int))] := (ho15 _ (by omega)).trans (c11.trans (by rw [hag13 (i + 1) (by omega)]))
  have c18 : f12 (i + 1) = eI tc 4 (fun j => iI (((fun _ => 0 : Nat → Nat) j : Nat) : Int)) := (ho15 _ (by omega)).trans (c16)
  have hA19 : ∀ q, q ≤ i → ad q = ad0 q := fun q hq => (hag13 q (by omega)).trans (hA6 q hq)
  have hA20 : ∀ q, q < i → f12 q = f q := fun q hq => ((ho15 q (by omega)).trans ((ho10 _ (by omega)))).trans (hA7 q hq)
  rw [← hag13 (i) (by omega)]
  refine r_putF (ty := .array .int) C (by omega) c17 (show vwCl[1]? = some (RX1, TX1, 4) from rfl) m5 tyX1_ok nmX1 1 (by decide) m6 rfl rfl hinit rfl (by decide +kernel) rfl rfl (Nat.le_of_ble_eq_true rfl) dX1_init_16 (fun f21 hs22 ho23 => ?_)
  have c24 : f21 (i) = eO 1 [.ref (ad (i + 1)), .ref (ad (i + 2)), .null, .int (iI ((0 : Nat) : Int))] := hs22
  refine r_aload_n C dX1_init_19 rfl rfl ?_
  refine r_sipush C ((640 : Nat) : Int) (by decide) dX1_init_20 ?_
  have c29 : f21 (i + 1) = eI tc 4 (fun j => iI (((fun _ => 0 : Nat → Nat) j : Nat) : Int)) := (ho23 _ (by omega)).trans c18
  have c30 : f21 (i + 2) = eI tc 10 (fun j => iI (((fun _ => 0 : Nat → Nat) j : Nat) : Int)) := (ho23 _ (by omega)).trans hs14
  refine r_newI C 640 rfl (by decide) m3 ⟨by show 2 + 1 ≤ 3; omega, by show 14 + 640 ≤ 654; omega⟩ dX1_init_23 (fun ad f25 hag26 hs27 ho28 => ?_)
  have c31 : f25 (i) = eO 1 [.ref (ad (i + 1)), .ref (ad (i + 2)), .null, .int (iI ((0 : Nat) : Int))] := (ho28 _ (by omega)).trans (c24.trans (by rw [hag26 (i + 1) (by omega), hag26 (i + 2) (by omega)]))
  have c32 : f25 (i + 1) = eI tc 4 (fun j => iI (((fun _ => 0 : Nat → Nat) j : Nat) : Int)) := (ho28 _ (by omega)).trans (c29)
  have c33 : f25 (i + 2) = eI tc 10 (fun j => iI (((fun _ => 0 : Nat → Nat) j : Nat) : Int)) := (ho28 _ (by omega)).trans (c30)
  have hA34 : ∀ q, q ≤ i → ad q = ad0 q := fun q hq => (hag26 q (by omega)).trans (hA19 q hq)
  have hA35 : ∀ q, q < i → f25 q = f q := fun q hq => ((ho28 q (by omega)).trans ((ho23 _ (by omega)))).trans (hA20 q hq)
  rw [← hag26 (i) (by omega)]
  refine r_putF (ty := .array .int) C (by omega) c31 (show vwCl[1]? = some (RX1, TX1, 4) from rfl) m5 tyX1_ok nmX1 2 (by decide) m7 rfl rfl hinit rfl (by decide +kernel) rfl rfl (Nat.le_of_ble_eq_true rfl) dX1_init_25 (fun f36 hs37 ho38 => ?_)
  have c39 : f36 (i) = eO 1 [.ref (ad (i + 1)), .ref (ad (i + 2)), .ref (ad (i + 3)), .int (iI ((0 : Nat) : Int))] := hs37
  refine r_aload_n C dX1_init_28 rfl rfl ?_
  refine r_iconst C ((0 : Nat) : Int) (by decide) dX1_init_29 ?_
  refine r_put (ty := .int) C (by omega) c39 (show vwCl[1]? = some (RX1, TX1, 4) from rfl) m5 tyX1_ok nmX1 3 (by decide) m8 rfl rfl (by decide +kernel) rfl rfl (Nat.le_of_ble_eq_true rfl) dX1_init_30 (fun f40 hs41 ho42 => ?_)
  have c43 : f40 (i) = eO 1 [.ref (ad (i + 1)), .ref (ad (i + 2)), .ref (ad (i + 3)), .int (iI ((0 : Nat) : Int))] := hs41
  obtain ⟨t3, t3Z, t3X, t3l, t3A⟩ := C.2.2.2.1.1.2.2
  refine r_getsN C t3Z C.2.2.2.1.2.2.2.1 dX1_init_33 ?_
  refine r_iconst C ((0 : Nat) : Int) (by decide) dX1_init_36 ?_
  refine r_aload_n C dX1_init_37 rfl rfl ?_
  refine r_get (v := .ref (ad (i + 1))) C (by omega) c43 (show vwCl[1]? = some (RX1, TX1, 4) from rfl) m5 0 (by decide) m4 rfl rfl dX1_init_38 ?_
  refine r_iconst C ((0 : Nat) : Int) (by decide) dX1_init_41 ?_
  refine r_iconst C ((4 : Nat) : Int) (by decide) dX1_init_42 ?_
  have c44 : f36 (i + 1) = eI tc 4 (fun j => iI (((fun _ => 0 : Nat → Nat) j : Nat) : Int)) := (ho38 _ (by omega)).trans c32
  have c45 : f40 (i + 1) = eI tc 4 (fun j => iI (((fun _ => 0 : Nat → Nat) j : Nat) : Int)) := (ho42 _ (by omega)).trans c44
  refine r_acpT C ⟨m9, m10, m11, m12⟩ (Nat.le_of_ble_eq_true rfl) (Nat.le_of_ble_eq_true rfl) t3X t3l t3A (by omega) c45 (0) (0) (4) rfl rfl rfl (by omega) (by omega) (Nat.le_of_ble_eq_true rfl) (Nat.le_of_ble_eq_true rfl) dX1_init_43 (fun f46 hs47 ho48 => ?_)
  refine r_cv1 hs47 (fun j => iI ((n0.1 j : Nat) : Int)) (fun j hj => by unfold va_cpy; rw [if_pos (by omega), Nat.sub_zero, Nat.zero_add]; exact congrArg iI (fS_nat j).symm) (fun f49 hs50 ho51 => ?_)
  have c52 : f46 (i) = eO 1 [.ref (ad (i + 1)), .ref (ad (i + 2)), .ref (ad (i + 3)), .int (iI ((0 : Nat) : Int))] := (ho48 _ (by omega)).trans c43
  have c53 : f49 (i) = eO 1 [.ref (ad (i + 1)), .ref (ad (i + 2)), .ref (ad (i + 3)), .int (iI ((0 : Nat) : Int))] := (ho51 _ (by omega)).trans c52
  have c54 : f36 (i + 2) = eI tc 10 (fun j => iI (((fun _ => 0 : Nat → Nat) j : Nat) : Int)) := (ho38 _ (by omega)).trans c33
  have c55 : f40 (i + 2) = eI tc 10 (fun j => iI (((fun _ => 0 : Nat → Nat) j : Nat) : Int)) := (ho42 _ (by omega)).trans c54
  have c56 : f46 (i + 2) = eI tc 10 (fun j => iI (((fun _ => 0 : Nat → Nat) j : Nat) : Int)) := (ho48 _ (by omega)).trans c55
  have c57 : f49 (i + 2) = eI tc 10 (fun j => iI (((fun _ => 0 : Nat → Nat) j : Nat) : Int)) := (ho51 _ (by omega)).trans c56
  have c58 : f36 (i + 3) = eI tc 640 (fun j => iI (((fun _ => 0 : Nat → Nat) j : Nat) : Int)) := (ho38 _ (by omega)).trans hs27
  have c59 : f40 (i + 3) = eI tc 640 (fun j => iI (((fun _ => 0 : Nat → Nat) j : Nat) : Int)) := (ho42 _ (by omega)).trans c58
  have c60 : f46 (i + 3) = eI tc 640 (fun j => iI (((fun _ => 0 : Nat → Nat) j : Nat) : Int)) := (ho48 _ (by omega)).trans c59
  have c61 : f49 (i + 3) = eI tc 640 (fun j => iI (((fun _ => 0 : Nat → Nat) j : Nat) : Int)) := (ho51 _ (by omega)).trans c60
  exact hret ad _ f49 _ _ dX1_init_46 ⟨rfl, rfl, fun q hq => (hA34 q hq).trans (by rw [had0]), ⟨c53, hs50, c57, c61⟩, fun q hq => (((((ho51 _ (by omega))).trans (ho48 _ (by omega))).trans (ho42 _ (by omega))).trans (ho38 _ (by omega))).trans (hA35 q hq)⟩
set_option maxHeartbeats 4000000 in
set_option maxRecDepth 100000 in
/-- a Words is made -/
theorem c_X2_init (G : va_G) (tc : Nat → ClassId) (l : Launch) (ad : Nat → Nat) (N : Nat) (f : Nat → va_E) (i : Nat) (h0 : f (i) = eO 2 [.null, .null, .null, .int (iI ((0 : Nat) : Int))])  : Ct G tc l yX2_init wsX2_init { frames := 1, cells := 3, slots := 192, locals := 20 } 3 192 [.ref (ad (i))] ad (i + 1) f (poG (fun ad' N' f' => N' = i + 4 ∧ (∀ q, q ≤ i → ad' q = ad q) ∧ isWd tc ad' f' i w0 ∧ ∀ q, q < i → f' q = f q)) := by
  obtain ⟨ad0, had0⟩ : ∃ a, a = ad := ⟨_, rfl⟩
  have hA0 : ∀ q, q ≤ i → ad q = ad0 q := fun q _ => by rw [had0]
  have hF0 : ∀ q, q < i → f q = f q := fun q _ => rfl
  refine Ct.ofV (cc := cX2_init) (maxL := 1) (lv := [(0, .ref (ad (i)))]) (by decide) rfl (Nat.le_of_ble_eq_true rfl) rfl (fun X C hinit hret => ?_)
  have m0 : Cond.methodLink RX2 3 objectInit ∈ wsX2_init := by decide +kernel
  have m1 : Cond.instanceMethod objectInit ∈ wsX2_init := by decide +kernel
  have m2 : Cond.code objectInit ⟨#[0xb1]⟩ 1 none ∈ wsX2_init := by decide +kernel
  have m3 : Cond.arrayClass .int ∈ wsX2_init := by decide +kernel
  have m4 : Cond.fieldLink RX2 9 "WordSamples$Words" "values" "[I" ∈ wsX2_init := by decide +kernel
  have m5 : ∀ w ∈ wsX20, w ∈ wsX2_init := by decide +kernel
  have m6 : Cond.fieldLink RX2 15 "WordSamples$Words" "codes" "[I" ∈ wsX2_init := by decide +kernel
  have m7 : Cond.fieldLink RX2 18 "WordSamples$Words" "times" "[I" ∈ wsX2_init := by decide +kernel
  have m8 : Cond.fieldLink RX2 21 "WordSamples$Words" "size" "I" ∈ wsX2_init := by decide +kernel
  refine r_aload_n C dX2_init_0 rfl rfl ?_
  refine r_objInit C m0 m1 m2 (Nat.le_of_ble_eq_true rfl) (Nat.le_of_ble_eq_true rfl) dX2_init_1 ?_
  refine r_aload_n C dX2_init_4 rfl rfl ?_
  refine r_bipush C ((64 : Nat) : Int) (by decide) dX2_init_5 ?_
  refine r_newI C 64 rfl (by decide) m3 ⟨by show 0 + 1 ≤ 3; omega, by show 0 + 64 ≤ 192; omega⟩ dX2_init_7 (fun ad f1 hag2 hs3 ho4 => ?_)
  have c5 : f1 (i) = eO 2 [.null, .null, .null, .int (iI ((0 : Nat) : Int))] := (ho4 _ (by omega)).trans (h0)
  have hA6 : ∀ q, q ≤ i → ad q = ad0 q := fun q hq => (hag2 q (by omega)).trans (hA0 q hq)
  have hA7 : ∀ q, q < i → f1 q = f q := fun q hq => ((ho4 q (by omega))).trans (hF0 q hq)
  rw [← hag2 (i) (by omega)]
  refine r_putF (ty := .array .int) C (by omega) c5 (show vwCl[2]? = some (RX2, TX2, 4) from rfl) m5 tyX2_ok nmX2 0 (by decide) m4 rfl rfl hinit rfl (by decide +kernel) rfl rfl (Nat.le_of_ble_eq_true rfl) dX2_init_9 (fun f8 hs9 ho10 => ?_)
  have c11 : f8 (i) = eO 2 [.ref (ad (i + 1)), .null, .null, .int (iI ((0 : Nat) : Int))] := hs9
  refine r_aload_n C dX2_init_12 rfl rfl ?_
  refine r_bipush C ((64 : Nat) : Int) (by decide) dX2_init_13 ?_
  have c16 : f8 (i + 1) = eI tc 64 (fun j => iI (((fun _ => 0 : Nat → Nat) j : Nat) : Int)) := (ho10 _ (by omega)).trans hs3
  refine r_newI C 64 rfl (by decide) m3 ⟨by show 1 + 1 ≤ 3; omega, by show 64 + 64 ≤ 192; omega⟩ dX2_init_15 (fun ad f12 hag13 hs14 ho15 => ?_)
  have c17 : f12 (i) = eO 2 [.ref (ad (i + 1)), .null, .null, .int (iI ((0 : Nat) : Int))] := (ho15 _ (by omega)).trans (c11.trans (by rw [hag13 (i + 1) (by omega)]))
  have c18 : f12 (i + 1) = eI tc 64 (fun j => iI (((fun _ => 0 : Nat → Nat) j : Nat) : Int)) := (ho15 _ (by omega)).trans (c16)
  have hA19 : ∀ q, q ≤ i → ad q = ad0 q := fun q hq => (hag13 q (by omega)).trans (hA6 q hq)
  have hA20 : ∀ q, q < i → f12 q = f q := fun q hq => ((ho15 q (by omega)).trans ((ho10 _ (by omega)))).trans (hA7 q hq)
  rw [← hag13 (i) (by omega)]
  refine r_putF (ty := .array .int) C (by omega) c17 (show vwCl[2]? = some (RX2, TX2, 4) from rfl) m5 tyX2_ok nmX2 1 (by decide) m6 rfl rfl hinit rfl (by decide +kernel) rfl rfl (Nat.le_of_ble_eq_true rfl) dX2_init_17 (fun f21 hs22 ho23 => ?_)
  have c24 : f21 (i) = eO 2 [.ref (ad (i + 1)), .ref (ad (i + 2)), .null, .int (iI ((0 : Nat) : Int))] := hs22
  refine r_aload_n C dX2_init_20 rfl rfl ?_
  refine r_bipush C ((64 : Nat) : Int) (by decide) dX2_init_21 ?_
  have c29 : f21 (i + 1) = eI tc 64 (fun j => iI (((fun _ => 0 : Nat → Nat) j : Nat) : Int)) := (ho23 _ (by omega)).trans c18
  have c30 : f21 (i + 2) = eI tc 64 (fun j => iI (((fun _ => 0 : Nat → Nat) j : Nat) : Int)) := (ho23 _ (by omega)).trans hs14
  refine r_newI C 64 rfl (by decide) m3 ⟨by show 2 + 1 ≤ 3; omega, by show 128 + 64 ≤ 192; omega⟩ dX2_init_23 (fun ad f25 hag26 hs27 ho28 => ?_)
  have c31 : f25 (i) = eO 2 [.ref (ad (i + 1)), .ref (ad (i + 2)), .null, .int (iI ((0 : Nat) : Int))] := (ho28 _ (by omega)).trans (c24.trans (by rw [hag26 (i + 1) (by omega), hag26 (i + 2) (by omega)]))
  have c32 : f25 (i + 1) = eI tc 64 (fun j => iI (((fun _ => 0 : Nat → Nat) j : Nat) : Int)) := (ho28 _ (by omega)).trans (c29)
  have c33 : f25 (i + 2) = eI tc 64 (fun j => iI (((fun _ => 0 : Nat → Nat) j : Nat) : Int)) := (ho28 _ (by omega)).trans (c30)
  have hA34 : ∀ q, q ≤ i → ad q = ad0 q := fun q hq => (hag26 q (by omega)).trans (hA19 q hq)
  have hA35 : ∀ q, q < i → f25 q = f q := fun q hq => ((ho28 q (by omega)).trans ((ho23 _ (by omega)))).trans (hA20 q hq)
  rw [← hag26 (i) (by omega)]
  refine r_putF (ty := .array .int) C (by omega) c31 (show vwCl[2]? = some (RX2, TX2, 4) from rfl) m5 tyX2_ok nmX2 2 (by decide) m7 rfl rfl hinit rfl (by decide +kernel) rfl rfl (Nat.le_of_ble_eq_true rfl) dX2_init_25 (fun f36 hs37 ho38 => ?_)
  have c39 : f36 (i) = eO 2 [.ref (ad (i + 1)), .ref (ad (i + 2)), .ref (ad (i + 3)), .int (iI ((0 : Nat) : Int))] := hs37
  refine r_aload_n C dX2_init_28 rfl rfl ?_
  refine r_iconst C ((0 : Nat) : Int) (by decide) dX2_init_29 ?_
  refine r_put (ty := .int) C (by omega) c39 (show vwCl[2]? = some (RX2, TX2, 4) from rfl) m5 tyX2_ok nmX2 3 (by decide) m8 rfl rfl (by decide +kernel) rfl rfl (Nat.le_of_ble_eq_true rfl) dX2_init_30 (fun f40 hs41 ho42 => ?_)
  have c43 : f40 (i) = eO 2 [.ref (ad (i + 1)), .ref (ad (i + 2)), .ref (ad (i + 3)), .int (iI ((0 : Nat) : Int))] := hs41
  have c44 : f36 (i + 1) = eI tc 64 (fun j => iI (((fun _ => 0 : Nat → Nat) j : Nat) : Int)) := (ho38 _ (by omega)).trans c32
  have c45 : f40 (i + 1) = eI tc 64 (fun j => iI (((fun _ => 0 : Nat → Nat) j : Nat) : Int)) := (ho42 _ (by omega)).trans c44
  have c46 : f36 (i + 2) = eI tc 64 (fun j => iI (((fun _ => 0 : Nat → Nat) j : Nat) : Int)) := (ho38 _ (by omega)).trans c33
  have c47 : f40 (i + 2) = eI tc 64 (fun j => iI (((fun _ => 0 : Nat → Nat) j : Nat) : Int)) := (ho42 _ (by omega)).trans c46
  have c48 : f36 (i + 3) = eI tc 64 (fun j => iI (((fun _ => 0 : Nat → Nat) j : Nat) : Int)) := (ho38 _ (by omega)).trans hs27
  have c49 : f40 (i + 3) = eI tc 64 (fun j => iI (((fun _ => 0 : Nat → Nat) j : Nat) : Int)) := (ho42 _ (by omega)).trans c48
  exact hret ad _ f40 _ _ dX2_init_33 ⟨rfl, rfl, fun q hq => (hA34 q hq).trans (by rw [had0]), ⟨_, _, _, c43, c45, c47, c49, fun j hj => absurd hj (Nat.not_lt_zero _)⟩, fun q hq => (((ho42 _ (by omega))).trans (ho38 _ (by omega))).trans (hA35 q hq)⟩
set_option maxHeartbeats 4000000 in
set_option maxRecDepth 100000 in
/-- a Pair is made -/
theorem c_X0_init (G : va_G) (tc : Nat → ClassId) (l : Launch) (ad : Nat → Nat) (N : Nat) (f : Nat → va_E) (i : Nat) (h0 : f (i) = eO 0 [.null, .null, .null, .int (iI ((0 : Nat) : Int)), .int (iI ((0 : Nat) : Int)), .int (iI ((0 : Nat) : Int)), .int (iI ((0 : Nat) : Int))])  : Ct G tc l yX0_init wsX0_init { frames := 1, cells := 3, slots := 99, locals := 20 } 3 99 [.ref (ad (i))] ad (i + 1) f (poG (fun ad' N' f' => N' = i + 4 ∧ (∀ q, q ≤ i → ad' q = ad q) ∧ isP0 tc ad' f' i ∧ ∀ q, q < i → f' q = f q)) := by
  obtain ⟨ad0, had0⟩ : ∃ a, a = ad := ⟨_, rfl⟩
  have hA0 : ∀ q, q ≤ i → ad q = ad0 q := fun q _ => by rw [had0]
  have hF0 : ∀ q, q < i → f q = f q := fun q _ => rfl
  refine Ct.ofV (cc := cX0_init) (maxL := 1) (lv := [(0, .ref (ad (i)))]) (by decide) rfl (Nat.le_of_ble_eq_true rfl) rfl (fun X C hinit hret => ?_)
  have m0 : Cond.methodLink RX0 3 objectInit ∈ wsX0_init := by decide +kernel
  have m1 : Cond.instanceMethod objectInit ∈ wsX0_init := by decide +kernel
  have m2 : Cond.code objectInit ⟨#[0xb1]⟩ 1 none ∈ wsX0_init := by decide +kernel
  have m3 : Cond.arrayClass .int ∈ wsX0_init := by decide +kernel
  have m4 : Cond.fieldLink RX0 9 "WordSamples$Pair" "bothAmong" "[I" ∈ wsX0_init := by decide +kernel
  have m5 : ∀ w ∈ wsX00, w ∈ wsX0_init := by decide +kernel
  have m6 : Cond.fieldLink RX0 15 "WordSamples$Pair" "firstAmong" "[I" ∈ wsX0_init := by decide +kernel
  have m7 : Cond.fieldLink RX0 18 "WordSamples$Pair" "secondAmong" "[I" ∈ wsX0_init := by decide +kernel
  have m8 : Cond.fieldLink RX0 21 "WordSamples$Pair" "firstWords" "I" ∈ wsX0_init := by decide +kernel
  have m9 : Cond.fieldLink RX0 25 "WordSamples$Pair" "secondWords" "I" ∈ wsX0_init := by decide +kernel
  have m10 : Cond.fieldLink RX0 28 "WordSamples$Pair" "inEither" "I" ∈ wsX0_init := by decide +kernel
  have m11 : Cond.fieldLink RX0 31 "WordSamples$Pair" "inBoth" "I" ∈ wsX0_init := by decide +kernel
  refine r_aload_n C dX0_init_0 rfl rfl ?_
  refine r_objInit C m0 m1 m2 (Nat.le_of_ble_eq_true rfl) (Nat.le_of_ble_eq_true rfl) dX0_init_1 ?_
  refine r_aload_n C dX0_init_4 rfl rfl ?_
  refine r_bipush C ((33 : Nat) : Int) (by decide) dX0_init_5 ?_
  refine r_newI C 33 rfl (by decide) m3 ⟨by show 0 + 1 ≤ 3; omega, by show 0 + 33 ≤ 99; omega⟩ dX0_init_7 (fun ad f1 hag2 hs3 ho4 => ?_)
  have c5 : f1 (i) = eO 0 [.null, .null, .null, .int (iI ((0 : Nat) : Int)), .int (iI ((0 : Nat) : Int)), .int (iI ((0 : Nat) : Int)), .int (iI ((0 : Nat) : Int))] := (ho4 _ (by omega)).trans (h0)
  have hA6 : ∀ q, q ≤ i → ad q = ad0 q := fun q hq => (hag2 q (by omega)).trans (hA0 q hq)
  have hA7 : ∀ q, q < i → f1 q = f q := fun q hq => ((ho4 q (by omega))).trans (hF0 q hq)
  rw [← hag2 (i) (by omega)]
  refine r_putF (ty := .array .int) C (by omega) c5 (show vwCl[0]? = some (RX0, TX0, 7) from rfl) m5 tyX0_ok nmX0 0 (by decide) m4 rfl rfl hinit rfl (by decide +kernel) rfl rfl (Nat.le_of_ble_eq_true rfl) dX0_init_9 (fun f8 hs9 ho10 => ?_)
  have c11 : f8 (i) = eO 0 [.ref (ad (i + 1)), .null, .null, .int (iI ((0 : Nat) : Int)), .int (iI ((0 : Nat) : Int)), .int (iI ((0 : Nat) : Int)), .int (iI ((0 : Nat) : Int))] := hs9
  refine r_aload_n C dX0_init_12 rfl rfl ?_
  refine r_bipush C ((33 : Nat) : Int) (by decide) dX0_init_13 ?_
  have c16 : f8 (i + 1) = eI tc 33 (fun j => iI (((fun _ => 0 : Nat → Nat) j : Nat) : Int)) := (ho10 _ (by omega)).trans hs3
  refine r_newI C 33 rfl (by decide) m3 ⟨by show 1 + 1 ≤ 3; omega, by show 33 + 33 ≤ 99; omega⟩ dX0_init_15 (fun ad f12 hag13 hs14 ho15 => ?_)
  have c17 : f12 (i) = eO 0 [.ref (ad (i + 1)), .null, .null, .int (iI ((0 : Nat) : Int)), .int (iI ((0 : Nat) : Int)), .int (iI ((0 : Nat) : Int)), .int (iI ((0 : Nat) : Int))] := (ho15 _ (by omega)).trans (c11.trans (by rw [hag13 (i + 1) (by omega)]))
  have c18 : f12 (i + 1) = eI tc 33 (fun j => iI (((fun _ => 0 : Nat → Nat) j : Nat) : Int)) := (ho15 _ (by omega)).trans (c16)
  have hA19 : ∀ q, q ≤ i → ad q = ad0 q := fun q hq => (hag13 q (by omega)).trans (hA6 q hq)
  have hA20 : ∀ q, q < i → f12 q = f q := fun q hq => ((ho15 q (by omega)).trans ((ho10 _ (by omega)))).trans (hA7 q hq)
  rw [← hag13 (i) (by omega)]
  refine r_putF (ty := .array .int) C (by omega) c17 (show vwCl[0]? = some (RX0, TX0, 7) from rfl) m5 tyX0_ok nmX0 1 (by decide) m6 rfl rfl hinit rfl (by decide +kernel) rfl rfl (Nat.le_of_ble_eq_true rfl) dX0_init_17 (fun f21 hs22 ho23 => ?_)
  have c24 : f21 (i) = eO 0 [.ref (ad (i + 1)), .ref (ad (i + 2)), .null, .int (iI ((0 : Nat) : Int)), .int (iI ((0 : Nat) : Int)), .int (iI ((0 : Nat) : Int)), .int (iI ((0 : Nat) : Int))] := hs22
  refine r_aload_n C dX0_init_20 rfl rfl ?_
  refine r_bipush C ((33 : Nat) : Int) (by decide) dX0_init_21 ?_
  have c29 : f21 (i + 1) = eI tc 33 (fun j => iI (((fun _ => 0 : Nat → Nat) j : Nat) : Int)) := (ho23 _ (by omega)).trans c18
  have c30 : f21 (i + 2) = eI tc 33 (fun j => iI (((fun _ => 0 : Nat → Nat) j : Nat) : Int)) := (ho23 _ (by omega)).trans hs14
  refine r_newI C 33 rfl (by decide) m3 ⟨by show 2 + 1 ≤ 3; omega, by show 66 + 33 ≤ 99; omega⟩ dX0_init_23 (fun ad f25 hag26 hs27 ho28 => ?_)
  have c31 : f25 (i) = eO 0 [.ref (ad (i + 1)), .ref (ad (i + 2)), .null, .int (iI ((0 : Nat) : Int)), .int (iI ((0 : Nat) : Int)), .int (iI ((0 : Nat) : Int)), .int (iI ((0 : Nat) : Int))] := (ho28 _ (by omega)).trans (c24.trans (by rw [hag26 (i + 1) (by omega), hag26 (i + 2) (by omega)]))
  have c32 : f25 (i + 1) = eI tc 33 (fun j => iI (((fun _ => 0 : Nat → Nat) j : Nat) : Int)) := (ho28 _ (by omega)).trans (c29)
  have c33 : f25 (i + 2) = eI tc 33 (fun j => iI (((fun _ => 0 : Nat → Nat) j : Nat) : Int)) := (ho28 _ (by omega)).trans (c30)
  have hA34 : ∀ q, q ≤ i → ad q = ad0 q := fun q hq => (hag26 q (by omega)).trans (hA19 q hq)
  have hA35 : ∀ q, q < i → f25 q = f q := fun q hq => ((ho28 q (by omega)).trans ((ho23 _ (by omega)))).trans (hA20 q hq)
  rw [← hag26 (i) (by omega)]
  refine r_putF (ty := .array .int) C (by omega) c31 (show vwCl[0]? = some (RX0, TX0, 7) from rfl) m5 tyX0_ok nmX0 2 (by decide) m7 rfl rfl hinit rfl (by decide +kernel) rfl rfl (Nat.le_of_ble_eq_true rfl) dX0_init_25 (fun f36 hs37 ho38 => ?_)
  have c39 : f36 (i) = eO 0 [.ref (ad (i + 1)), .ref (ad (i + 2)), .ref (ad (i + 3)), .int (iI ((0 : Nat) : Int)), .int (iI ((0 : Nat) : Int)), .int (iI ((0 : Nat) : Int)), .int (iI ((0 : Nat) : Int))] := hs37
  refine r_aload_n C dX0_init_28 rfl rfl ?_
  refine r_iconst C ((0 : Nat) : Int) (by decide) dX0_init_29 ?_
  refine r_put (ty := .int) C (by omega) c39 (show vwCl[0]? = some (RX0, TX0, 7) from rfl) m5 tyX0_ok nmX0 3 (by decide) m8 rfl rfl (by decide +kernel) rfl rfl (Nat.le_of_ble_eq_true rfl) dX0_init_30 (fun f40 hs41 ho42 => ?_)
  have c43 : f40 (i) = eO 0 [.ref (ad (i + 1)), .ref (ad (i + 2)), .ref (ad (i + 3)), .int (iI ((0 : Nat) : Int)), .int (iI ((0 : Nat) : Int)), .int (iI ((0 : Nat) : Int)), .int (iI ((0 : Nat) : Int))] := hs41
  refine r_aload_n C dX0_init_33 rfl rfl ?_
  refine r_iconst C ((0 : Nat) : Int) (by decide) dX0_init_34 ?_
  refine r_put (ty := .int) C (by omega) c43 (show vwCl[0]? = some (RX0, TX0, 7) from rfl) m5 tyX0_ok nmX0 4 (by decide) m9 rfl rfl (by decide +kernel) rfl rfl (Nat.le_of_ble_eq_true rfl) dX0_init_35 (fun f44 hs45 ho46 => ?_)
  have c47 : f44 (i) = eO 0 [.ref (ad (i + 1)), .ref (ad (i + 2)), .ref (ad (i + 3)), .int (iI ((0 : Nat) : Int)), .int (iI ((0 : Nat) : Int)), .int (iI ((0 : Nat) : Int)), .int (iI ((0 : Nat) : Int))] := hs45
  refine r_aload_n C dX0_init_38 rfl rfl ?_
  refine r_iconst C ((0 : Nat) : Int) (by decide) dX0_init_39 ?_
  refine r_put (ty := .int) C (by omega) c47 (show vwCl[0]? = some (RX0, TX0, 7) from rfl) m5 tyX0_ok nmX0 5 (by decide) m10 rfl rfl (by decide +kernel) rfl rfl (Nat.le_of_ble_eq_true rfl) dX0_init_40 (fun f48 hs49 ho50 => ?_)
  have c51 : f48 (i) = eO 0 [.ref (ad (i + 1)), .ref (ad (i + 2)), .ref (ad (i + 3)), .int (iI ((0 : Nat) : Int)), .int (iI ((0 : Nat) : Int)), .int (iI ((0 : Nat) : Int)), .int (iI ((0 : Nat) : Int))] := hs49
  refine r_aload_n C dX0_init_43 rfl rfl ?_
  refine r_iconst C ((0 : Nat) : Int) (by decide) dX0_init_44 ?_
  refine r_put (ty := .int) C (by omega) c51 (show vwCl[0]? = some (RX0, TX0, 7) from rfl) m5 tyX0_ok nmX0 6 (by decide) m11 rfl rfl (by decide +kernel) rfl rfl (Nat.le_of_ble_eq_true rfl) dX0_init_45 (fun f52 hs53 ho54 => ?_)
  have c55 : f52 (i) = eO 0 [.ref (ad (i + 1)), .ref (ad (i + 2)), .ref (ad (i + 3)), .int (iI ((0 : Nat) : Int)), .int (iI ((0 : Nat) : Int)), .int (iI ((0 : Nat) : Int)), .int (iI ((0 : Nat) : Int))] := hs53
  have c56 : f36 (i + 1) = eI tc 33 (fun j => iI (((fun _ => 0 : Nat → Nat) j : Nat) : Int)) := (ho38 _ (by omega)).trans c32
  have c57 : f40 (i + 1) = eI tc 33 (fun j => iI (((fun _ => 0 : Nat → Nat) j : Nat) : Int)) := (ho42 _ (by omega)).trans c56
  have c58 : f44 (i + 1) = eI tc 33 (fun j => iI (((fun _ => 0 : Nat → Nat) j : Nat) : Int)) := (ho46 _ (by omega)).trans c57
  have c59 : f48 (i + 1) = eI tc 33 (fun j => iI (((fun _ => 0 : Nat → Nat) j : Nat) : Int)) := (ho50 _ (by omega)).trans c58
  have c60 : f52 (i + 1) = eI tc 33 (fun j => iI (((fun _ => 0 : Nat → Nat) j : Nat) : Int)) := (ho54 _ (by omega)).trans c59
  have c61 : f36 (i + 2) = eI tc 33 (fun j => iI (((fun _ => 0 : Nat → Nat) j : Nat) : Int)) := (ho38 _ (by omega)).trans c33
  have c62 : f40 (i + 2) = eI tc 33 (fun j => iI (((fun _ => 0 : Nat → Nat) j : Nat) : Int)) := (ho42 _ (by omega)).trans c61
  have c63 : f44 (i + 2) = eI tc 33 (fun j => iI (((fun _ => 0 : Nat → Nat) j : Nat) : Int)) := (ho46 _ (by omega)).trans c62
  have c64 : f48 (i + 2) = eI tc 33 (fun j => iI (((fun _ => 0 : Nat → Nat) j : Nat) : Int)) := (ho50 _ (by omega)).trans c63
  have c65 : f52 (i + 2) = eI tc 33 (fun j => iI (((fun _ => 0 : Nat → Nat) j : Nat) : Int)) := (ho54 _ (by omega)).trans c64
  have c66 : f36 (i + 3) = eI tc 33 (fun j => iI (((fun _ => 0 : Nat → Nat) j : Nat) : Int)) := (ho38 _ (by omega)).trans hs27
  have c67 : f40 (i + 3) = eI tc 33 (fun j => iI (((fun _ => 0 : Nat → Nat) j : Nat) : Int)) := (ho42 _ (by omega)).trans c66
  have c68 : f44 (i + 3) = eI tc 33 (fun j => iI (((fun _ => 0 : Nat → Nat) j : Nat) : Int)) := (ho46 _ (by omega)).trans c67
  have c69 : f48 (i + 3) = eI tc 33 (fun j => iI (((fun _ => 0 : Nat → Nat) j : Nat) : Int)) := (ho50 _ (by omega)).trans c68
  have c70 : f52 (i + 3) = eI tc 33 (fun j => iI (((fun _ => 0 : Nat → Nat) j : Nat) : Int)) := (ho54 _ (by omega)).trans c69
  exact hret ad _ f52 _ _ dX0_init_48 ⟨rfl, rfl, fun q hq => (hA34 q hq).trans (by rw [had0]), ⟨c55, c60, c65, c70⟩, fun q hq => ((((((ho54 _ (by omega))).trans (ho50 _ (by omega))).trans (ho46 _ (by omega))).trans (ho42 _ (by omega))).trans (ho38 _ (by omega))).trans (hA35 q hq)⟩
set_option maxHeartbeats 4000000 in
set_option maxRecDepth 100000 in
/-- the class is made -/
theorem c_X3_init (G : va_G) (tc : Nat → ClassId) (l : Launch) (ad : Nat → Nat) (N : Nat) (f : Nat → va_E)  (h0 : f (0) = eO 3 [.null, .null, .int (iI ((0 : Nat) : Int)), .null, .null, .null, .int (iI ((0 : Nat) : Int)), .null, .null, .null, .null])  : Ct G tc l yX3_init wsX3_init { frames := 2, cells := 87, slots := 8092, locals := 40 } 87 8092 [.ref (ad (0))] ad 1 f (poG (fun ad' N' f' => N' = 88 ∧ ad' 0 = ad 0 ∧ XN tc ad' f')) := by
  obtain ⟨ad0, had0⟩ : ∃ a, a = ad := ⟨_, rfl⟩
  have hA : ad 0 = ad0 0 := by rw [had0]
  refine Ct.ofV (cc := cX3_init) (maxL := 2) (lv := [(0, .ref (ad (0)))]) (by decide) rfl (Nat.le_of_ble_eq_true rfl) rfl (fun X C hinit hret => ?_)
  have m0 : Cond.methodLink RX3 1 objectInit ∈ wsX3_init := by decide +kernel
  have m1 : Cond.instanceMethod objectInit ∈ wsX3_init := by decide +kernel
  have m2 : Cond.code objectInit ⟨#[0xb1]⟩ 1 none ∈ wsX3_init := by decide +kernel
  have m3 : ∀ w ∈ wsX10, w ∈ wsX3_init := by decide +kernel
  have m4 : Cond.classLink RX3 7 RX1 ∈ wsX3_init := by decide +kernel
  have m5 : Cond.instantiable RX1 4 ∈ wsX3_init := by decide +kernel
  have m6 : Cond.initialized RX1 ∈ wsX3_init := by decide +kernel
  have m7 : Cond.methodLink RX3 9 yX1_init ∈ wsX3_init := by decide +kernel
  have m8 : Cond.instanceMethod yX1_init ∈ wsX3_init := by decide +kernel
  have m9 : Cond.fieldLink RX3 10 "WordSamples" "now" "LWordSamples$State;" ∈ wsX3_init := by decide +kernel
  have m10 : ∀ w ∈ wsX30, w ∈ wsX3_init := by decide +kernel
  have m11 : Cond.fieldLink RX3 16 "WordSamples" "history" "[LWordSamples$State;" ∈ wsX3_init := by decide +kernel
  have m12 : Cond.fieldLink RX3 20 "WordSamples" "undoable" "I" ∈ wsX3_init := by decide +kernel
  have m13 : Cond.fieldLink RX3 24 "WordSamples" "slots" "[LWordSamples$State;" ∈ wsX3_init := by decide +kernel
  have m14 : Cond.arrayClass .boolean ∈ wsX3_init := by decide +kernel
  have m15 : Cond.fieldLink RX3 27 "WordSamples" "saved" "[Z" ∈ wsX3_init := by decide +kernel
  have m16 : Cond.arrayClass .int ∈ wsX3_init := by decide +kernel
  have m17 : Cond.fieldLink RX3 31 "WordSamples" "pad" "[I" ∈ wsX3_init := by decide +kernel
  have m18 : Cond.fieldLink RX3 35 "WordSamples" "padLength" "I" ∈ wsX3_init := by decide +kernel
  have m19 : Cond.classLink RX3 38 RX2 ∈ wsX3_init := by decide +kernel
  have m20 : Cond.fieldLink RX3 40 "WordSamples" "words" "[LWordSamples$Words;" ∈ wsX3_init := by decide +kernel
  have m21 : Cond.fieldLink RX3 44 "WordSamples" "gathered" "[Z" ∈ wsX3_init := by decide +kernel
  have m22 : ∀ w ∈ wsX00, w ∈ wsX3_init := by decide +kernel
  have m23 : Cond.classLink RX3 47 RX0 ∈ wsX3_init := by decide +kernel
  have m24 : Cond.instantiable RX0 7 ∈ wsX3_init := by decide +kernel
  have m25 : Cond.initialized RX0 ∈ wsX3_init := by decide +kernel
  have m26 : Cond.methodLink RX3 49 yX0_init ∈ wsX3_init := by decide +kernel
  have m27 : Cond.instanceMethod yX0_init ∈ wsX3_init := by decide +kernel
  have m28 : Cond.fieldLink RX3 50 "WordSamples" "pair" "LWordSamples$Pair;" ∈ wsX3_init := by decide +kernel
  have m29 : Cond.fieldLink RX3 54 "WordSamples" "heads" "[I" ∈ wsX3_init := by decide +kernel
  have m30 : ∀ w ∈ wsX20, w ∈ wsX3_init := by decide +kernel
  have m31 : Cond.instantiable RX2 4 ∈ wsX3_init := by decide +kernel
  have m32 : Cond.initialized RX2 ∈ wsX3_init := by decide +kernel
  have m33 : Cond.methodLink RX3 57 yX2_init ∈ wsX3_init := by decide +kernel
  have m34 : Cond.instanceMethod yX2_init ∈ wsX3_init := by decide +kernel
  refine r_aload_n C dX3_init_0 rfl rfl ?_
  refine r_objInit C m0 m1 m2 (Nat.le_of_ble_eq_true rfl) (Nat.le_of_ble_eq_true rfl) dX3_init_1 ?_
  refine r_aload_n C dX3_init_4 rfl rfl ?_
  refine r_newO (fs := [.null, .null, .null, .int (iI ((0 : Nat) : Int))]) C (show vwCl[1]? = some (RX1, TX1, 4) from rfl) m3 tyX1_ok m4 m5 m6 df1 ⟨by show 0 + 1 ≤ 87; omega, by show 0 + 4 ≤ 8092; omega⟩ dX3_init_5 (fun ad f1 hag2 hs3 ho4 => ?_)
  have c5 : f1 (0) = eO 3 [.null, .null, .int (iI ((0 : Nat) : Int)), .null, .null, .null, .int (iI ((0 : Nat) : Int)), .null, .null, .null, .null] := (ho4 _ (by omega)).trans (h0)
  have hA6 : ad 0 = ad0 0 := (hag2 0 (by omega)).trans hA
  rw [← hag2 (0) (by omega)]
  refine r_dup C dX3_init_8 rfl ?_
  refine r_callI (As := []) (rest := [.ref (ad (1)), .ref (ad (0))]) (na := 0) (i := 1) C (c_X1_init G tc l ad 0 _ 1 hs3) gX3_init_X1_init rfl rfl rfl m6 m7 m8 rfl (by decide +kernel) ⟨Nat.le_of_ble_eq_true rfl, Nat.le_of_ble_eq_true rfl⟩ rfl rfl (Nat.le_of_ble_eq_true rfl) dX3_init_9 ⟨by show 1 + 3 ≤ 87; omega, by show 4 + 654 ≤ 8092; omega⟩ (aft_G (fun ad N2 f7 hF8 => ?_))
  obtain ⟨rfl, hag9, hnew10, ho11⟩ := hF8
  have c12 : f7 (0) = eO 3 [.null, .null, .int (iI ((0 : Nat) : Int)), .null, .null, .null, .int (iI ((0 : Nat) : Int)), .null, .null, .null, .null] := (ho11 _ (by omega)).trans (c5)
  have hA13 : ad 0 = ad0 0 := (hag9 0 (by omega)).trans hA6
  rw [← hag9 (0) (by omega)]
  rw [← hag9 (1) (by omega)]
  have hz1 : f7 1 = oS ad 1 0 := hnew10.1
  show VV X ad (5) f7 _ _ 12 [(0, .ref (ad (0)))] [.ref (ad (1)), .ref (ad (0))]
  refine r_putF (ty := .object "WordSamples$State") C (by omega) c12 (show vwCl[3]? = some (RX3, TX3, 11) from rfl) m10 tyX3_ok nmX3 0 (by decide) m9 rfl rfl hinit rfl (by decide +kernel) rfl rfl (Nat.le_of_ble_eq_true rfl) dX3_init_12 (fun f14 hs15 ho16 => ?_)
  have c17 : f14 (0) = eO 3 [.ref (ad (1)), .null, .int (iI ((0 : Nat) : Int)), .null, .null, .null, .int (iI ((0 : Nat) : Int)), .null, .null, .null, .null] := hs15
  refine r_aload_n C dX3_init_15 rfl rfl ?_
  refine r_bipush C ((6 : Nat) : Int) (by decide) dX3_init_16 ?_
  have c22 : f14 (1) = eO 1 [.ref (ad (2)), .ref (ad (3)), .ref (ad (4)), .int (iI ((0 : Nat) : Int))] := (ho16 _ (by omega)).trans hz1
  refine r_newS C 6 rfl (by decide) m4 ⟨by show 4 + 1 ≤ 87; omega, by show 658 + 6 ≤ 8092; omega⟩ dX3_init_18 (fun ad f18 hag19 hs20 ho21 => ?_)
  have c23 : f18 (0) = eO 3 [.ref (ad (1)), .null, .int (iI ((0 : Nat) : Int)), .null, .null, .null, .int (iI ((0 : Nat) : Int)), .null, .null, .null, .null] := (ho21 _ (by omega)).trans (c17.trans (by rw [hag19 (1) (by omega)]))
  have c24 : f18 (1) = eO 1 [.ref (ad (2)), .ref (ad (3)), .ref (ad (4)), .int (iI ((0 : Nat) : Int))] := (ho21 _ (by omega)).trans (c22.trans (by rw [hag19 (2) (by omega), hag19 (3) (by omega), hag19 (4) (by omega)]))
  have hf25 : isSt tc ad f18 1 n0 := hnew10.mv (fun q g1 g2 => hag19 q (by omega)) (fun q g1 g2 => (ho21 q (by omega)).trans ((ho16 _ (by omega))))
  have hA26 : ad 0 = ad0 0 := (hag19 0 (by omega)).trans hA13
  rw [← hag19 (0) (by omega)]
  refine r_putF (ty := .array (.object "WordSamples$State")) C (by omega) c23 (show vwCl[3]? = some (RX3, TX3, 11) from rfl) m10 tyX3_ok nmX3 1 (by decide) m11 rfl rfl hinit rfl (by decide +kernel) rfl rfl (Nat.le_of_ble_eq_true rfl) dX3_init_21 (fun f27 hs28 ho29 => ?_)
  have c30 : f27 (0) = eO 3 [.ref (ad (1)), .ref (ad (5)), .int (iI ((0 : Nat) : Int)), .null, .null, .null, .int (iI ((0 : Nat) : Int)), .null, .null, .null, .null] := hs28
  refine r_aload_n C dX3_init_24 rfl rfl ?_
  refine r_iconst C ((0 : Nat) : Int) (by decide) dX3_init_25 ?_
  refine r_put (ty := .int) C (by omega) c30 (show vwCl[3]? = some (RX3, TX3, 11) from rfl) m10 tyX3_ok nmX3 2 (by decide) m12 rfl rfl (by decide +kernel) rfl rfl (Nat.le_of_ble_eq_true rfl) dX3_init_26 (fun f31 hs32 ho33 => ?_)
  have c34 : f31 (0) = eO 3 [.ref (ad (1)), .ref (ad (5)), .int (iI ((0 : Nat) : Int)), .null, .null, .null, .int (iI ((0 : Nat) : Int)), .null, .null, .null, .null] := hs32
  refine r_aload_n C dX3_init_29 rfl rfl ?_
  refine r_iconst C ((2 : Nat) : Int) (by decide) dX3_init_30 ?_
  have c39 : f27 (1) = eO 1 [.ref (ad (2)), .ref (ad (3)), .ref (ad (4)), .int (iI ((0 : Nat) : Int))] := (ho29 _ (by omega)).trans c24
  have c40 : f31 (1) = eO 1 [.ref (ad (2)), .ref (ad (3)), .ref (ad (4)), .int (iI ((0 : Nat) : Int))] := (ho33 _ (by omega)).trans c39
  have c41 : f27 (5) = eS tc 6 (fun _ => none) := (ho29 _ (by omega)).trans hs20
  have c42 : f31 (5) = eS tc 6 (fun _ => none) := (ho33 _ (by omega)).trans c41
  refine r_newS C 2 rfl (by decide) m4 ⟨by show 5 + 1 ≤ 87; omega, by show 664 + 2 ≤ 8092; omega⟩ dX3_init_31 (fun ad f35 hag36 hs37 ho38 => ?_)
  have c43 : f35 (0) = eO 3 [.ref (ad (1)), .ref (ad (5)), .int (iI ((0 : Nat) : Int)), .null, .null, .null, .int (iI ((0 : Nat) : Int)), .null, .null, .null, .null] := (ho38 _ (by omega)).trans (c34.trans (by rw [hag36 (1) (by omega), hag36 (5) (by omega)]))
  have c44 : f35 (1) = eO 1 [.ref (ad (2)), .ref (ad (3)), .ref (ad (4)), .int (iI ((0 : Nat) : Int))] := (ho38 _ (by omega)).trans (c40.trans (by rw [hag36 (2) (by omega), hag36 (3) (by omega), hag36 (4) (by omega)]))
  have c45 : f35 (5) = eS tc 6 (fun _ => none) := (ho38 _ (by omega)).trans (c42)
  have hf46 : isSt tc ad f35 1 n0 := hf25.mv (fun q g1 g2 => hag36 q (by omega)) (fun q g1 g2 => (ho38 q (by omega)).trans (((ho33 _ (by omega))).trans (ho29 _ (by omega))))
  have hA47 : ad 0 = ad0 0 := (hag36 0 (by omega)).trans hA26
  rw [← hag36 (0) (by omega)]
  refine r_putF (ty := .array (.object "WordSamples$State")) C (by omega) c43 (show vwCl[3]? = some (RX3, TX3, 11) from rfl) m10 tyX3_ok nmX3 3 (by decide) m13 rfl rfl hinit rfl (by decide +kernel) rfl rfl (Nat.le_of_ble_eq_true rfl) dX3_init_34 (fun f48 hs49 ho50 => ?_)
  have c51 : f48 (0) = eO 3 [.ref (ad (1)), .ref (ad (5)), .int (iI ((0 : Nat) : Int)), .ref (ad (6)), .null, .null, .int (iI ((0 : Nat) : Int)), .null, .null, .null, .null] := hs49
  refine r_aload_n C dX3_init_37 rfl rfl ?_
  refine r_iconst C ((2 : Nat) : Int) (by decide) dX3_init_38 ?_
  have c56 : f48 (1) = eO 1 [.ref (ad (2)), .ref (ad (3)), .ref (ad (4)), .int (iI ((0 : Nat) : Int))] := (ho50 _ (by omega)).trans c44
  have c57 : f48 (5) = eS tc 6 (fun _ => none) := (ho50 _ (by omega)).trans c45
  have c58 : f48 (6) = eS tc 2 (fun _ => none) := (ho50 _ (by omega)).trans hs37
  refine r_newZ C 2 rfl (by decide) m14 ⟨by show 6 + 1 ≤ 87; omega, by show 666 + 2 ≤ 8092; omega⟩ dX3_init_39 (fun ad f52 hag53 hs54 ho55 => ?_)
  have c59 : f52 (0) = eO 3 [.ref (ad (1)), .ref (ad (5)), .int (iI ((0 : Nat) : Int)), .ref (ad (6)), .null, .null, .int (iI ((0 : Nat) : Int)), .null, .null, .null, .null] := (ho55 _ (by omega)).trans (c51.trans (by rw [hag53 (1) (by omega), hag53 (5) (by omega), hag53 (6) (by omega)]))
  have c60 : f52 (1) = eO 1 [.ref (ad (2)), .ref (ad (3)), .ref (ad (4)), .int (iI ((0 : Nat) : Int))] := (ho55 _ (by omega)).trans (c56.trans (by rw [hag53 (2) (by omega), hag53 (3) (by omega), hag53 (4) (by omega)]))
  have c61 : f52 (5) = eS tc 6 (fun _ => none) := (ho55 _ (by omega)).trans (c57)
  have c62 : f52 (6) = eS tc 2 (fun _ => none) := (ho55 _ (by omega)).trans (c58)
  have hf63 : isSt tc ad f52 1 n0 := hf46.mv (fun q g1 g2 => hag53 q (by omega)) (fun q g1 g2 => (ho55 q (by omega)).trans ((ho50 _ (by omega))))
  have hA64 : ad 0 = ad0 0 := (hag53 0 (by omega)).trans hA47
  rw [← hag53 (0) (by omega)]
  refine r_putF (ty := .array .boolean) C (by omega) c59 (show vwCl[3]? = some (RX3, TX3, 11) from rfl) m10 tyX3_ok nmX3 4 (by decide) m15 rfl rfl hinit rfl (by decide +kernel) rfl rfl (Nat.le_of_ble_eq_true rfl) dX3_init_41 (fun f65 hs66 ho67 => ?_)
  have c68 : f65 (0) = eO 3 [.ref (ad (1)), .ref (ad (5)), .int (iI ((0 : Nat) : Int)), .ref (ad (6)), .ref (ad (7)), .null, .int (iI ((0 : Nat) : Int)), .null, .null, .null, .null] := hs66
  refine r_aload_n C dX3_init_44 rfl rfl ?_
  refine r_bipush C ((64 : Nat) : Int) (by decide) dX3_init_45 ?_
  have c73 : f65 (1) = eO 1 [.ref (ad (2)), .ref (ad (3)), .ref (ad (4)), .int (iI ((0 : Nat) : Int))] := (ho67 _ (by omega)).trans c60
  have c74 : f65 (5) = eS tc 6 (fun _ => none) := (ho67 _ (by omega)).trans c61
  have c75 : f65 (6) = eS tc 2 (fun _ => none) := (ho67 _ (by omega)).trans c62
  have c76 : f65 (7) = eB tc 2 (fun _ => iI ((0 : Nat) : Int)) := (ho67 _ (by omega)).trans hs54
  refine r_newI C 64 rfl (by decide) m16 ⟨by show 7 + 1 ≤ 87; omega, by show 668 + 64 ≤ 8092; omega⟩ dX3_init_47 (fun ad f69 hag70 hs71 ho72 => ?_)
  have c77 : f69 (0) = eO 3 [.ref (ad (1)), .ref (ad (5)), .int (iI ((0 : Nat) : Int)), .ref (ad (6)), .ref (ad (7)), .null, .int (iI ((0 : Nat) : Int)), .null, .null, .null, .null] := (ho72 _ (by omega)).trans (c68.trans (by rw [hag70 (1) (by omega), hag70 (5) (by omega), hag70 (6) (by omega), hag70 (7) (by omega)]))
  have c78 : f69 (1) = eO 1 [.ref (ad (2)), .ref (ad (3)), .ref (ad (4)), .int (iI ((0 : Nat) : Int))] := (ho72 _ (by omega)).trans (c73.trans (by rw [hag70 (2) (by omega), hag70 (3) (by omega), hag70 (4) (by omega)]))
  have c79 : f69 (5) = eS tc 6 (fun _ => none) := (ho72 _ (by omega)).trans (c74)
  have c80 : f69 (6) = eS tc 2 (fun _ => none) := (ho72 _ (by omega)).trans (c75)
  have c81 : f69 (7) = eB tc 2 (fun _ => iI ((0 : Nat) : Int)) := (ho72 _ (by omega)).trans (c76)
  have hf82 : isSt tc ad f69 1 n0 := hf63.mv (fun q g1 g2 => hag70 q (by omega)) (fun q g1 g2 => (ho72 q (by omega)).trans ((ho67 _ (by omega))))
  have hA83 : ad 0 = ad0 0 := (hag70 0 (by omega)).trans hA64
  rw [← hag70 (0) (by omega)]
  refine r_putF (ty := .array .int) C (by omega) c77 (show vwCl[3]? = some (RX3, TX3, 11) from rfl) m10 tyX3_ok nmX3 5 (by decide) m17 rfl rfl hinit rfl (by decide +kernel) rfl rfl (Nat.le_of_ble_eq_true rfl) dX3_init_49 (fun f84 hs85 ho86 => ?_)
  have c87 : f84 (0) = eO 3 [.ref (ad (1)), .ref (ad (5)), .int (iI ((0 : Nat) : Int)), .ref (ad (6)), .ref (ad (7)), .ref (ad (8)), .int (iI ((0 : Nat) : Int)), .null, .null, .null, .null] := hs85
  refine r_aload_n C dX3_init_52 rfl rfl ?_
  refine r_iconst C ((0 : Nat) : Int) (by decide) dX3_init_53 ?_
  refine r_put (ty := .int) C (by omega) c87 (show vwCl[3]? = some (RX3, TX3, 11) from rfl) m10 tyX3_ok nmX3 6 (by decide) m18 rfl rfl (by decide +kernel) rfl rfl (Nat.le_of_ble_eq_true rfl) dX3_init_54 (fun f88 hs89 ho90 => ?_)
  have c91 : f88 (0) = eO 3 [.ref (ad (1)), .ref (ad (5)), .int (iI ((0 : Nat) : Int)), .ref (ad (6)), .ref (ad (7)), .ref (ad (8)), .int (iI ((0 : Nat) : Int)), .null, .null, .null, .null] := hs89
  refine r_aload_n C dX3_init_57 rfl rfl ?_
  refine r_bipush C ((10 : Nat) : Int) (by decide) dX3_init_58 ?_
  have c96 : f84 (1) = eO 1 [.ref (ad (2)), .ref (ad (3)), .ref (ad (4)), .int (iI ((0 : Nat) : Int))] := (ho86 _ (by omega)).trans c78
  have c97 : f88 (1) = eO 1 [.ref (ad (2)), .ref (ad (3)), .ref (ad (4)), .int (iI ((0 : Nat) : Int))] := (ho90 _ (by omega)).trans c96
  have c98 : f84 (5) = eS tc 6 (fun _ => none) := (ho86 _ (by omega)).trans c79
  have c99 : f88 (5) = eS tc 6 (fun _ => none) := (ho90 _ (by omega)).trans c98
  have c100 : f84 (6) = eS tc 2 (fun _ => none) := (ho86 _ (by omega)).trans c80
  have c101 : f88 (6) = eS tc 2 (fun _ => none) := (ho90 _ (by omega)).trans c100
  have c102 : f84 (7) = eB tc 2 (fun _ => iI ((0 : Nat) : Int)) := (ho86 _ (by omega)).trans c81
  have c103 : f88 (7) = eB tc 2 (fun _ => iI ((0 : Nat) : Int)) := (ho90 _ (by omega)).trans c102
  have c104 : f84 (8) = eI tc 64 (fun j => iI (((fun _ => 0 : Nat → Nat) j : Nat) : Int)) := (ho86 _ (by omega)).trans hs71
  have c105 : f88 (8) = eI tc 64 (fun j => iI (((fun _ => 0 : Nat → Nat) j : Nat) : Int)) := (ho90 _ (by omega)).trans c104
  refine r_newW C 10 rfl (by decide) m19 ⟨by show 8 + 1 ≤ 87; omega, by show 732 + 10 ≤ 8092; omega⟩ dX3_init_60 (fun ad f92 hag93 hs94 ho95 => ?_)
  have c106 : f92 (0) = eO 3 [.ref (ad (1)), .ref (ad (5)), .int (iI ((0 : Nat) : Int)), .ref (ad (6)), .ref (ad (7)), .ref (ad (8)), .int (iI ((0 : Nat) : Int)), .null, .null, .null, .null] := (ho95 _ (by omega)).trans (c91.trans (by rw [hag93 (1) (by omega), hag93 (5) (by omega), hag93 (6) (by omega), hag93 (7) (by omega), hag93 (8) (by omega)]))
  have c107 : f92 (1) = eO 1 [.ref (ad (2)), .ref (ad (3)), .ref (ad (4)), .int (iI ((0 : Nat) : Int))] := (ho95 _ (by omega)).trans (c97.trans (by rw [hag93 (2) (by omega), hag93 (3) (by omega), hag93 (4) (by omega)]))
  have c108 : f92 (5) = eS tc 6 (fun _ => none) := (ho95 _ (by omega)).trans (c99)
  have c109 : f92 (6) = eS tc 2 (fun _ => none) := (ho95 _ (by omega)).trans (c101)
  have c110 : f92 (7) = eB tc 2 (fun _ => iI ((0 : Nat) : Int)) := (ho95 _ (by omega)).trans (c103)
  have c111 : f92 (8) = eI tc 64 (fun j => iI (((fun _ => 0 : Nat → Nat) j : Nat) : Int)) := (ho95 _ (by omega)).trans (c105)
  have hf112 : isSt tc ad f92 1 n0 := hf82.mv (fun q g1 g2 => hag93 q (by omega)) (fun q g1 g2 => (ho95 q (by omega)).trans (((ho90 _ (by omega))).trans (ho86 _ (by omega))))
  have hA113 : ad 0 = ad0 0 := (hag93 0 (by omega)).trans hA83
  rw [← hag93 (0) (by omega)]
  refine r_putF (ty := .array (.object "WordSamples$Words")) C (by omega) c106 (show vwCl[3]? = some (RX3, TX3, 11) from rfl) m10 tyX3_ok nmX3 7 (by decide) m20 rfl rfl hinit rfl (by decide +kernel) rfl rfl (Nat.le_of_ble_eq_true rfl) dX3_init_63 (fun f114 hs115 ho116 => ?_)
  have c117 : f114 (0) = eO 3 [.ref (ad (1)), .ref (ad (5)), .int (iI ((0 : Nat) : Int)), .ref (ad (6)), .ref (ad (7)), .ref (ad (8)), .int (iI ((0 : Nat) : Int)), .ref (ad (9)), .null, .null, .null] := hs115
  refine r_aload_n C dX3_init_66 rfl rfl ?_
  refine r_bipush C ((10 : Nat) : Int) (by decide) dX3_init_67 ?_
  have c122 : f114 (1) = eO 1 [.ref (ad (2)), .ref (ad (3)), .ref (ad (4)), .int (iI ((0 : Nat) : Int))] := (ho116 _ (by omega)).trans c107
  have c123 : f114 (5) = eS tc 6 (fun _ => none) := (ho116 _ (by omega)).trans c108
  have c124 : f114 (6) = eS tc 2 (fun _ => none) := (ho116 _ (by omega)).trans c109
  have c125 : f114 (7) = eB tc 2 (fun _ => iI ((0 : Nat) : Int)) := (ho116 _ (by omega)).trans c110
  have c126 : f114 (8) = eI tc 64 (fun j => iI (((fun _ => 0 : Nat → Nat) j : Nat) : Int)) := (ho116 _ (by omega)).trans c111
  have c127 : f114 (9) = eW tc 10 (fun _ => none) := (ho116 _ (by omega)).trans hs94
  refine r_newZ C 10 rfl (by decide) m14 ⟨by show 9 + 1 ≤ 87; omega, by show 742 + 10 ≤ 8092; omega⟩ dX3_init_69 (fun ad f118 hag119 hs120 ho121 => ?_)
  have c128 : f118 (0) = eO 3 [.ref (ad (1)), .ref (ad (5)), .int (iI ((0 : Nat) : Int)), .ref (ad (6)), .ref (ad (7)), .ref (ad (8)), .int (iI ((0 : Nat) : Int)), .ref (ad (9)), .null, .null, .null] := (ho121 _ (by omega)).trans (c117.trans (by rw [hag119 (1) (by omega), hag119 (5) (by omega), hag119 (6) (by omega), hag119 (7) (by omega), hag119 (8) (by omega), hag119 (9) (by omega)]))
  have c129 : f118 (1) = eO 1 [.ref (ad (2)), .ref (ad (3)), .ref (ad (4)), .int (iI ((0 : Nat) : Int))] := (ho121 _ (by omega)).trans (c122.trans (by rw [hag119 (2) (by omega), hag119 (3) (by omega), hag119 (4) (by omega)]))
  have c130 : f118 (5) = eS tc 6 (fun _ => none) := (ho121 _ (by omega)).trans (c123)
  have c131 : f118 (6) = eS tc 2 (fun _ => none) := (ho121 _ (by omega)).trans (c124)
  have c132 : f118 (7) = eB tc 2 (fun _ => iI ((0 : Nat) : Int)) := (ho121 _ (by omega)).trans (c125)
  have c133 : f118 (8) = eI tc 64 (fun j => iI (((fun _ => 0 : Nat → Nat) j : Nat) : Int)) := (ho121 _ (by omega)).trans (c126)
  have c134 : f118 (9) = eW tc 10 (fun _ => none) := (ho121 _ (by omega)).trans (c127)
  have hf135 : isSt tc ad f118 1 n0 := hf112.mv (fun q g1 g2 => hag119 q (by omega)) (fun q g1 g2 => (ho121 q (by omega)).trans ((ho116 _ (by omega))))
  have hA136 : ad 0 = ad0 0 := (hag119 0 (by omega)).trans hA113
  rw [← hag119 (0) (by omega)]
  refine r_putF (ty := .array .boolean) C (by omega) c128 (show vwCl[3]? = some (RX3, TX3, 11) from rfl) m10 tyX3_ok nmX3 8 (by decide) m21 rfl rfl hinit rfl (by decide +kernel) rfl rfl (Nat.le_of_ble_eq_true rfl) dX3_init_71 (fun f137 hs138 ho139 => ?_)
  have c140 : f137 (0) = eO 3 [.ref (ad (1)), .ref (ad (5)), .int (iI ((0 : Nat) : Int)), .ref (ad (6)), .ref (ad (7)), .ref (ad (8)), .int (iI ((0 : Nat) : Int)), .ref (ad (9)), .ref (ad (10)), .null, .null] := hs138
  refine r_aload_n C dX3_init_74 rfl rfl ?_
  have c145 : f137 (1) = eO 1 [.ref (ad (2)), .ref (ad (3)), .ref (ad (4)), .int (iI ((0 : Nat) : Int))] := (ho139 _ (by omega)).trans c129
  have c146 : f137 (5) = eS tc 6 (fun _ => none) := (ho139 _ (by omega)).trans c130
  have c147 : f137 (6) = eS tc 2 (fun _ => none) := (ho139 _ (by omega)).trans c131
  have c148 : f137 (7) = eB tc 2 (fun _ => iI ((0 : Nat) : Int)) := (ho139 _ (by omega)).trans c132
  have c149 : f137 (8) = eI tc 64 (fun j => iI (((fun _ => 0 : Nat → Nat) j : Nat) : Int)) := (ho139 _ (by omega)).trans c133
  have c150 : f137 (9) = eW tc 10 (fun _ => none) := (ho139 _ (by omega)).trans c134
  have c151 : f137 (10) = eB tc 10 (fun _ => iI ((0 : Nat) : Int)) := (ho139 _ (by omega)).trans hs120
  refine r_newO (fs := [.null, .null, .null, .int (iI ((0 : Nat) : Int)), .int (iI ((0 : Nat) : Int)), .int (iI ((0 : Nat) : Int)), .int (iI ((0 : Nat) : Int))]) C (show vwCl[0]? = some (RX0, TX0, 7) from rfl) m22 tyX0_ok m23 m24 m25 df0 ⟨by show 10 + 1 ≤ 87; omega, by show 752 + 7 ≤ 8092; omega⟩ dX3_init_75 (fun ad f141 hag142 hs143 ho144 => ?_)
  have c152 : f141 (0) = eO 3 [.ref (ad (1)), .ref (ad (5)), .int (iI ((0 : Nat) : Int)), .ref (ad (6)), .ref (ad (7)), .ref (ad (8)), .int (iI ((0 : Nat) : Int)), .ref (ad (9)), .ref (ad (10)), .null, .null] := (ho144 _ (by omega)).trans (c140.trans (by rw [hag142 (1) (by omega), hag142 (5) (by omega), hag142 (6) (by omega), hag142 (7) (by omega), hag142 (8) (by omega), hag142 (9) (by omega), hag142 (10) (by omega)]))
  have c153 : f141 (1) = eO 1 [.ref (ad (2)), .ref (ad (3)), .ref (ad (4)), .int (iI ((0 : Nat) : Int))] := (ho144 _ (by omega)).trans (c145.trans (by rw [hag142 (2) (by omega), hag142 (3) (by omega), hag142 (4) (by omega)]))
  have c154 : f141 (5) = eS tc 6 (fun _ => none) := (ho144 _ (by omega)).trans (c146)
  have c155 : f141 (6) = eS tc 2 (fun _ => none) := (ho144 _ (by omega)).trans (c147)
  have c156 : f141 (7) = eB tc 2 (fun _ => iI ((0 : Nat) : Int)) := (ho144 _ (by omega)).trans (c148)
  have c157 : f141 (8) = eI tc 64 (fun j => iI (((fun _ => 0 : Nat → Nat) j : Nat) : Int)) := (ho144 _ (by omega)).trans (c149)
  have c158 : f141 (9) = eW tc 10 (fun _ => none) := (ho144 _ (by omega)).trans (c150)
  have c159 : f141 (10) = eB tc 10 (fun _ => iI ((0 : Nat) : Int)) := (ho144 _ (by omega)).trans (c151)
  have hf160 : isSt tc ad f141 1 n0 := hf135.mv (fun q g1 g2 => hag142 q (by omega)) (fun q g1 g2 => (ho144 q (by omega)).trans ((ho139 _ (by omega))))
  have hA161 : ad 0 = ad0 0 := (hag142 0 (by omega)).trans hA136
  rw [← hag142 (0) (by omega)]
  refine r_dup C dX3_init_78 rfl ?_
  refine r_callI (As := []) (rest := [.ref (ad (11)), .ref (ad (0))]) (na := 0) (i := 11) C (c_X0_init G tc l ad 0 _ 11 hs143) gX3_init_X0_init rfl rfl rfl m25 m26 m27 rfl (by decide +kernel) ⟨Nat.le_of_ble_eq_true rfl, Nat.le_of_ble_eq_true rfl⟩ rfl rfl (Nat.le_of_ble_eq_true rfl) dX3_init_79 ⟨by show 11 + 3 ≤ 87; omega, by show 759 + 99 ≤ 8092; omega⟩ (aft_G (fun ad N2 f162 hF163 => ?_))
  obtain ⟨rfl, hag164, hnew165, ho166⟩ := hF163
  have c167 : f162 (0) = eO 3 [.ref (ad (1)), .ref (ad (5)), .int (iI ((0 : Nat) : Int)), .ref (ad (6)), .ref (ad (7)), .ref (ad (8)), .int (iI ((0 : Nat) : Int)), .ref (ad (9)), .ref (ad (10)), .null, .null] := (ho166 _ (by omega)).trans (c152.trans (by rw [hag164 (1) (by omega), hag164 (5) (by omega), hag164 (6) (by omega), hag164 (7) (by omega), hag164 (8) (by omega), hag164 (9) (by omega), hag164 (10) (by omega)]))
  have c168 : f162 (1) = eO 1 [.ref (ad (2)), .ref (ad (3)), .ref (ad (4)), .int (iI ((0 : Nat) : Int))] := (ho166 _ (by omega)).trans (c153.trans (by rw [hag164 (2) (by omega), hag164 (3) (by omega), hag164 (4) (by omega)]))
  have c169 : f162 (5) = eS tc 6 (fun _ => none) := (ho166 _ (by omega)).trans (c154)
  have c170 : f162 (6) = eS tc 2 (fun _ => none) := (ho166 _ (by omega)).trans (c155)
  have c171 : f162 (7) = eB tc 2 (fun _ => iI ((0 : Nat) : Int)) := (ho166 _ (by omega)).trans (c156)
  have c172 : f162 (8) = eI tc 64 (fun j => iI (((fun _ => 0 : Nat → Nat) j : Nat) : Int)) := (ho166 _ (by omega)).trans (c157)
  have c173 : f162 (9) = eW tc 10 (fun _ => none) := (ho166 _ (by omega)).trans (c158)
  have c174 : f162 (10) = eB tc 10 (fun _ => iI ((0 : Nat) : Int)) := (ho166 _ (by omega)).trans (c159)
  have hf175 : isSt tc ad f162 1 n0 := hf160.mv (fun q g1 g2 => hag164 q (by omega)) (fun q g1 g2 => (ho166 q (by omega)))
  have hA176 : ad 0 = ad0 0 := (hag164 0 (by omega)).trans hA161
  rw [← hag164 (0) (by omega)]
  rw [← hag164 (11) (by omega)]
  show VV X ad (15) f162 _ _ 82 [(0, .ref (ad (0)))] [.ref (ad (11)), .ref (ad (0))]
  refine r_putF (ty := .object "WordSamples$Pair") C (by omega) c167 (show vwCl[3]? = some (RX3, TX3, 11) from rfl) m10 tyX3_ok nmX3 9 (by decide) m28 rfl rfl hinit rfl (by decide +kernel) rfl rfl (Nat.le_of_ble_eq_true rfl) dX3_init_82 (fun f177 hs178 ho179 => ?_)
  have c180 : f177 (0) = eO 3 [.ref (ad (1)), .ref (ad (5)), .int (iI ((0 : Nat) : Int)), .ref (ad (6)), .ref (ad (7)), .ref (ad (8)), .int (iI ((0 : Nat) : Int)), .ref (ad (9)), .ref (ad (10)), .ref (ad (11)), .null] := hs178
  refine r_aload_n C dX3_init_85 rfl rfl ?_
  refine r_bipush C ((10 : Nat) : Int) (by decide) dX3_init_86 ?_
  have c185 : f177 (1) = eO 1 [.ref (ad (2)), .ref (ad (3)), .ref (ad (4)), .int (iI ((0 : Nat) : Int))] := (ho179 _ (by omega)).trans c168
  have c186 : f177 (5) = eS tc 6 (fun _ => none) := (ho179 _ (by omega)).trans c169
  have c187 : f177 (6) = eS tc 2 (fun _ => none) := (ho179 _ (by omega)).trans c170
  have c188 : f177 (7) = eB tc 2 (fun _ => iI ((0 : Nat) : Int)) := (ho179 _ (by omega)).trans c171
  have c189 : f177 (8) = eI tc 64 (fun j => iI (((fun _ => 0 : Nat → Nat) j : Nat) : Int)) := (ho179 _ (by omega)).trans c172
  have c190 : f177 (9) = eW tc 10 (fun _ => none) := (ho179 _ (by omega)).trans c173
  have c191 : f177 (10) = eB tc 10 (fun _ => iI ((0 : Nat) : Int)) := (ho179 _ (by omega)).trans c174
  have c192 : f177 (11) = eO 0 [.ref (ad (12)), .ref (ad (13)), .ref (ad (14)), .int (iI ((0 : Nat) : Int)), .int (iI ((0 : Nat) : Int)), .int (iI ((0 : Nat) : Int)), .int (iI ((0 : Nat) : Int))] := (ho179 _ (by omega)).trans hnew165.1
  refine r_newI C 10 rfl (by decide) m16 ⟨by show 14 + 1 ≤ 87; omega, by show 858 + 10 ≤ 8092; omega⟩ dX3_init_88 (fun ad f181 hag182 hs183 ho184 => ?_)
  have c193 : f181 (0) = eO 3 [.ref (ad (1)), .ref (ad (5)), .int (iI ((0 : Nat) : Int)), .ref (ad (6)), .ref (ad (7)), .ref (ad (8)), .int (iI ((0 : Nat) : Int)), .ref (ad (9)), .ref (ad (10)), .ref (ad (11)), .null] := (ho184 _ (by omega)).trans (c180.trans (by rw [hag182 (1) (by omega), hag182 (5) (by omega), hag182 (6) (by omega), hag182 (7) (by omega), hag182 (8) (by omega), hag182 (9) (by omega), hag182 (10) (by omega), hag182 (11) (by omega)]))
  have c194 : f181 (1) = eO 1 [.ref (ad (2)), .ref (ad (3)), .ref (ad (4)), .int (iI ((0 : Nat) : Int))] := (ho184 _ (by omega)).trans (c185.trans (by rw [hag182 (2) (by omega), hag182 (3) (by omega), hag182 (4) (by omega)]))
  have c195 : f181 (5) = eS tc 6 (fun _ => none) := (ho184 _ (by omega)).trans (c186)
  have c196 : f181 (6) = eS tc 2 (fun _ => none) := (ho184 _ (by omega)).trans (c187)
  have c197 : f181 (7) = eB tc 2 (fun _ => iI ((0 : Nat) : Int)) := (ho184 _ (by omega)).trans (c188)
  have c198 : f181 (8) = eI tc 64 (fun j => iI (((fun _ => 0 : Nat → Nat) j : Nat) : Int)) := (ho184 _ (by omega)).trans (c189)
  have c199 : f181 (9) = eW tc 10 (fun _ => none) := (ho184 _ (by omega)).trans (c190)
  have c200 : f181 (10) = eB tc 10 (fun _ => iI ((0 : Nat) : Int)) := (ho184 _ (by omega)).trans (c191)
  have c201 : f181 (11) = eO 0 [.ref (ad (12)), .ref (ad (13)), .ref (ad (14)), .int (iI ((0 : Nat) : Int)), .int (iI ((0 : Nat) : Int)), .int (iI ((0 : Nat) : Int)), .int (iI ((0 : Nat) : Int))] := (ho184 _ (by omega)).trans (c192.trans (by rw [hag182 (12) (by omega), hag182 (13) (by omega), hag182 (14) (by omega)]))
  have hf202 : isSt tc ad f181 1 n0 := hf175.mv (fun q g1 g2 => hag182 q (by omega)) (fun q g1 g2 => (ho184 q (by omega)).trans ((ho179 _ (by omega))))
  have hf203 : isP0 tc ad f181 11 := hnew165.mv (fun q g1 g2 => hag182 q (by omega)) (fun q g1 g2 => (ho184 q (by omega)).trans ((ho179 _ (by omega))))
  have hA204 : ad 0 = ad0 0 := (hag182 0 (by omega)).trans hA176
  rw [← hag182 (0) (by omega)]
  refine r_putF (ty := .array .int) C (by omega) c193 (show vwCl[3]? = some (RX3, TX3, 11) from rfl) m10 tyX3_ok nmX3 10 (by decide) m29 rfl rfl hinit rfl (by decide +kernel) rfl rfl (Nat.le_of_ble_eq_true rfl) dX3_init_90 (fun f205 hs206 ho207 => ?_)
  have c208 : f205 (0) = eO 3 [.ref (ad (1)), .ref (ad (5)), .int (iI ((0 : Nat) : Int)), .ref (ad (6)), .ref (ad (7)), .ref (ad (8)), .int (iI ((0 : Nat) : Int)), .ref (ad (9)), .ref (ad (10)), .ref (ad (11)), .ref (ad (15))] := hs206
  refine r_iconst C ((0 : Nat) : Int) (by decide) dX3_init_93 ?_
  refine r_istore_n (lv' := [(0, .ref (ad (0))), (1, .int (iI ((0 : Nat) : Int)))]) C dX3_init_94 rfl (by decide) rfl ?_
  have hL219 : ∀ (m_220 : Nat) (c : Nat) (ad : Nat → Nat) (f209 : Nat → va_E) (hm210 : f209 (7) = eB tc 2 (fun _ => iI ((0 : Nat) : Int))) (hm211 : f209 (8) = eI tc 64 (fun j => iI (((fun _ => 0 : Nat → Nat) j : Nat) : Int))) (hm212 : f209 (10) = eB tc 10 (fun _ => iI ((0 : Nat) : Int))) (hm213 : f209 (15) = eI tc 10 (fun j => iI (((fun _ => 0 : Nat → Nat) j : Nat) : Int))) (hm214 : f209 (0) = eO 3 [.ref (ad (1)), .ref (ad (5)), .int (iI ((0 : Nat) : Int)), .ref (ad (6)), .ref (ad (7)), .ref (ad (8)), .int (iI ((0 : Nat) : Int)), .ref (ad (9)), .ref (ad (10)), .ref (ad (11)), .ref (ad (15))]) (hm215 : f209 (5) = eS tc 6 (hsF ad 16 c)) (hm216 : f209 (6) = eS tc 2 (fun _ => none)) (hm217 : f209 (9) = eW tc 10 (fun _ => none)) (hA : ad 0 = ad0 0) (hS1 : isSt tc ad f209 1 n0) (hP1 : isP0 tc ad f209 11) (hH : ∀ k, k < c → isSt tc ad f209 (16 + 4 * k) n0) (hc : c ≤ 6), 6 - c < m_220 → VV X ad (16 + 4 * c) f209 (15 + 4 * c) (868 + 658 * c) 95 [(0, .ref (ad (0))), (1, .int (iI ((c : Nat) : Int)))] [] := by
    intro m_220
    induction m_220 with
    | zero => intros; omega
    | succ m_220 ih221 =>
      intro c ad f209 hm210 hm211 hm212 hm213 hm214 hm215 hm216 hm217 hA hS1 hP1 hH hc hm222
      refine r_iload_n C dX3_init_95 rfl rfl ?_
      refine r_bipush C ((6 : Nat) : Int) (by decide) dX3_init_96 ?_
      refine r_icmp_ge (tgt := 120) C ⟨by omega, by omega⟩ ⟨by omega, by omega⟩ dX3_init_98 (by decide) (fun b223 => ?_) (fun b223 => ?_)
      · refine r_iconst C ((0 : Nat) : Int) (by decide) dX3_init_120 ?_
        refine r_istore_n (lv' := [(0, .ref (ad (0))), (1, .int (iI ((0 : Nat) : Int)))]) C dX3_init_121 rfl (by decide) rfl ?_
        have hL234 : ∀ (m_235 : Nat) (d : Nat) (ad : Nat → Nat) (f224 : Nat → va_E) (hm225 : f224 (7) = eB tc 2 (fun _ => iI ((0 : Nat) : Int))) (hm226 : f224 (8) = eI tc 64 (fun j => iI (((fun _ => 0 : Nat → Nat) j : Nat) : Int))) (hm227 : f224 (10) = eB tc 10 (fun _ => iI ((0 : Nat) : Int))) (hm228 : f224 (15) = eI tc 10 (fun j => iI (((fun _ => 0 : Nat → Nat) j : Nat) : Int))) (hm229 : f224 (0) = eO 3 [.ref (ad (1)), .ref (ad (5)), .int (iI ((0 : Nat) : Int)), .ref (ad (6)), .ref (ad (7)), .ref (ad (8)), .int (iI ((0 : Nat) : Int)), .ref (ad (9)), .ref (ad (10)), .ref (ad (11)), .ref (ad (15))]) (hm230 : f224 (5) = eS tc 6 (hsF ad 16 6)) (hm231 : f224 (6) = eS tc 2 (hsF ad 40 d)) (hm232 : f224 (9) = eW tc 10 (fun _ => none)) (hA : ad 0 = ad0 0) (hS2 : isSt tc ad f224 1 n0) (hP2 : isP0 tc ad f224 11) (hH6 : ∀ k, k < 6 → isSt tc ad f224 (16 + 4 * k) n0) (hL : ∀ k, k < d → isSt tc ad f224 (40 + 4 * k) n0) (hd : d ≤ 2), 2 - d < m_235 → VV X ad (40 + 4 * d) f224 (39 + 4 * d) (4816 + 658 * d) 122 [(0, .ref (ad (0))), (1, .int (iI ((d : Nat) : Int)))] [] := by
          intro m_235
          induction m_235 with
          | zero => intros; omega
          | succ m_235 ih236 =>
            intro d ad f224 hm225 hm226 hm227 hm228 hm229 hm230 hm231 hm232 hA hS2 hP2 hH6 hL hd hm237
            refine r_iload_n C dX3_init_122 rfl rfl ?_
            refine r_iconst C ((2 : Nat) : Int) (by decide) dX3_init_123 ?_
            refine r_icmp_ge (tgt := 146) C ⟨by omega, by omega⟩ ⟨by omega, by omega⟩ dX3_init_124 (by decide) (fun b238 => ?_) (fun b238 => ?_)
            · refine r_iconst C ((0 : Nat) : Int) (by decide) dX3_init_146 ?_
              refine r_istore_n (lv' := [(0, .ref (ad (0))), (1, .int (iI ((0 : Nat) : Int)))]) C dX3_init_147 rfl (by decide) rfl ?_
              have hL249 : ∀ (m_250 : Nat) (e : Nat) (ad : Nat → Nat) (f239 : Nat → va_E) (hm240 : f239 (7) = eB tc 2 (fun _ => iI ((0 : Nat) : Int))) (hm241 : f239 (8) = eI tc 64 (fun j => iI (((fun _ => 0 : Nat → Nat) j : Nat) : Int))) (hm242 : f239 (10) = eB tc 10 (fun _ => iI ((0 : Nat) : Int))) (hm243 : f239 (15) = eI tc 10 (fun j => iI (((fun _ => 0 : Nat → Nat) j : Nat) : Int))) (hm244 : f239 (0) = eO 3 [.ref (ad (1)), .ref (ad (5)), .int (iI ((0 : Nat) : Int)), .ref (ad (6)), .ref (ad (7)), .ref (ad (8)), .int (iI ((0 : Nat) : Int)), .ref (ad (9)), .ref (ad (10)), .ref (ad (11)), .ref (ad (15))]) (hm245 : f239 (5) = eS tc 6 (hsF ad 16 6)) (hm246 : f239 (6) = eS tc 2 (hsF ad 40 2)) (hm247 : f239 (9) = eW tc 10 (hsF ad 48 e)) (hA : ad 0 = ad0 0) (hS3 : isSt tc ad f239 1 n0) (hP3 : isP0 tc ad f239 11) (hH7 : ∀ k, k < 6 → isSt tc ad f239 (16 + 4 * k) n0) (hL2 : ∀ k, k < 2 → isSt tc ad f239 (40 + 4 * k) n0) (hW : ∀ k, k < e → isWd tc ad f239 (48 + 4 * k) w0) (he : e ≤ 10), 10 - e < m_250 → VV X ad (48 + 4 * e) f239 (47 + 4 * e) (6132 + 196 * e) 148 [(0, .ref (ad (0))), (1, .int (iI ((e : Nat) : Int)))] [] := by
                intro m_250
                induction m_250 with
                | zero => intros; omega
                | succ m_250 ih251 =>
                  intro e ad f239 hm240 hm241 hm242 hm243 hm244 hm245 hm246 hm247 hA hS3 hP3 hH7 hL2 hW he hm252
                  refine r_iload_n C dX3_init_148 rfl rfl ?_
                  refine r_bipush C ((10 : Nat) : Int) (by decide) dX3_init_149 ?_
                  refine r_icmp_ge (tgt := 173) C ⟨by omega, by omega⟩ ⟨by omega, by omega⟩ dX3_init_151 (by decide) (fun b253 => ?_) (fun b253 => ?_)
                  · refine r_cn (k' := 87) (n' := 8092) (N' := 88) (by omega) (by omega) (by omega) ?_
                    exact hret ad _ f239 _ _ dX3_init_173 ⟨rfl, rfl, hA.trans (by rw [had0]), hm244, hS3, hm245, hm246, hm240, hm241, (by have h := hm247; rw [show e = 10 from by omega] at h; exact h), hm242, hP3, hm243, hH7, hL2, fun k hk => hW k (by omega)⟩
                  · refine r_aload_n C dX3_init_154 rfl rfl ?_
                    refine r_get (v := .ref (ad (9))) C (by omega) hm244 (show vwCl[3]? = some (RX3, TX3, 11) from rfl) m10 7 (by decide) m20 rfl rfl dX3_init_155 ?_
                    refine r_iload_n C dX3_init_158 rfl rfl ?_
                    refine r_newO (fs := [.null, .null, .null, .int (iI ((0 : Nat) : Int))]) C (show vwCl[2]? = some (RX2, TX2, 4) from rfl) m30 tyX2_ok m19 m31 m32 df2 ⟨by show (47 + 4 * e) + 1 ≤ 87; omega, by show (6132 + 196 * e) + 4 ≤ 8092; omega⟩ dX3_init_159 (fun ad f254 hag255 hs256 ho257 => ?_)
                    have c258 : f254 (7) = eB tc 2 (fun _ => iI ((0 : Nat) : Int)) := (ho257 _ (by omega)).trans (hm240)
                    have c259 : f254 (8) = eI tc 64 (fun j => iI (((fun _ => 0 : Nat → Nat) j : Nat) : Int)) := (ho257 _ (by omega)).trans (hm241)
                    have c260 : f254 (10) = eB tc 10 (fun _ => iI ((0 : Nat) : Int)) := (ho257 _ (by omega)).trans (hm242)
                    have c261 : f254 (15) = eI tc 10 (fun j => iI (((fun _ => 0 : Nat → Nat) j : Nat) : Int)) := (ho257 _ (by omega)).trans (hm243)
                    have c262 : f254 (0) = eO 3 [.ref (ad (1)), .ref (ad (5)), .int (iI ((0 : Nat) : Int)), .ref (ad (6)), .ref (ad (7)), .ref (ad (8)), .int (iI ((0 : Nat) : Int)), .ref (ad (9)), .ref (ad (10)), .ref (ad (11)), .ref (ad (15))] := (ho257 _ (by omega)).trans (hm244.trans (by rw [hag255 (1) (by omega), hag255 (5) (by omega), hag255 (6) (by omega), hag255 (7) (by omega), hag255 (8) (by omega), hag255 (9) (by omega), hag255 (10) (by omega), hag255 (11) (by omega), hag255 (15) (by omega)]))
                    have c263 : f254 (5) = eS tc 6 (hsF ad 16 6) := (ho257 _ (by omega)).trans (hm245.trans (congrArg (fun g => eS tc 6 g) (hsF_mv (fun q hq => hag255 q (by omega)))))
                    have c264 : f254 (6) = eS tc 2 (hsF ad 40 2) := (ho257 _ (by omega)).trans (hm246.trans (congrArg (fun g => eS tc 2 g) (hsF_mv (fun q hq => hag255 q (by omega)))))
                    have c265 : f254 (9) = eW tc 10 (hsF ad 48 e) := (ho257 _ (by omega)).trans (hm247.trans (congrArg (fun g => eW tc 10 g) (hsF_mv (fun q hq => hag255 q (by omega)))))
                    have hf266 : isSt tc ad f254 1 n0 := hS3.mv (fun q g1 g2 => hag255 q (by omega)) (fun q g1 g2 => (ho257 q (by omega)))
                    have hf267 : isP0 tc ad f254 11 := hP3.mv (fun q g1 g2 => hag255 q (by omega)) (fun q g1 g2 => (ho257 q (by omega)))
                    have hf268 : ∀ k, k < 6 → isSt tc ad f254 (16 + 4 * k) n0 := fun k hk => (hH7 k hk).mv (fun q g1 g2 => hag255 q (by omega)) (fun q g1 g2 => (ho257 q (by omega)))
                    have hf269 : ∀ k, k < 2 → isSt tc ad f254 (40 + 4 * k) n0 := fun k hk => (hL2 k hk).mv (fun q g1 g2 => hag255 q (by omega)) (fun q g1 g2 => (ho257 q (by omega)))
                    have hf270 : ∀ k, k < e → isWd tc ad f254 (48 + 4 * k) w0 := fun k hk => (hW k hk).mv (fun q g1 g2 => hag255 q (by omega)) (fun q g1 g2 => (ho257 q (by omega)))
                    have hA271 : ad 0 = ad0 0 := (hag255 0 (by omega)).trans hA
                    rw [← hag255 (0) (by omega)]
                    rw [← hag255 (9) (by omega)]
                    refine r_dup C dX3_init_162 rfl ?_
                    refine r_callI (As := []) (rest := [.ref (ad (48 + 4 * e)), .int (iI ((e : Nat) : Int)), .ref (ad (9))]) (na := 0) (i := 48 + 4 * e) C (c_X2_init G tc l ad 0 _ (48 + 4 * e) hs256) gX3_init_X2_init rfl rfl rfl m32 m33 m34 rfl (by decide +kernel) ⟨Nat.le_of_ble_eq_true rfl, Nat.le_of_ble_eq_true rfl⟩ rfl rfl (Nat.le_of_ble_eq_true rfl) dX3_init_163 ⟨by show (47 + 4 * e + 1) + 3 ≤ 87; omega, by show (6132 + 196 * e + 4) + 192 ≤ 8092; omega⟩ (aft_G (fun ad N2 f272 hF273 => ?_))
                    obtain ⟨rfl, hag274, hnew275, ho276⟩ := hF273
                    have c277 : f272 (7) = eB tc 2 (fun _ => iI ((0 : Nat) : Int)) := (ho276 _ (by omega)).trans (c258)
                    have c278 : f272 (8) = eI tc 64 (fun j => iI (((fun _ => 0 : Nat → Nat) j : Nat) : Int)) := (ho276 _ (by omega)).trans (c259)
                    have c279 : f272 (10) = eB tc 10 (fun _ => iI ((0 : Nat) : Int)) := (ho276 _ (by omega)).trans (c260)
                    have c280 : f272 (15) = eI tc 10 (fun j => iI (((fun _ => 0 : Nat → Nat) j : Nat) : Int)) := (ho276 _ (by omega)).trans (c261)
                    have c281 : f272 (0) = eO 3 [.ref (ad (1)), .ref (ad (5)), .int (iI ((0 : Nat) : Int)), .ref (ad (6)), .ref (ad (7)), .ref (ad (8)), .int (iI ((0 : Nat) : Int)), .ref (ad (9)), .ref (ad (10)), .ref (ad (11)), .ref (ad (15))] := (ho276 _ (by omega)).trans (c262.trans (by rw [hag274 (1) (by omega), hag274 (5) (by omega), hag274 (6) (by omega), hag274 (7) (by omega), hag274 (8) (by omega), hag274 (9) (by omega), hag274 (10) (by omega), hag274 (11) (by omega), hag274 (15) (by omega)]))
                    have c282 : f272 (5) = eS tc 6 (hsF ad 16 6) := (ho276 _ (by omega)).trans (c263.trans (congrArg (fun g => eS tc 6 g) (hsF_mv (fun q hq => hag274 q (by omega)))))
                    have c283 : f272 (6) = eS tc 2 (hsF ad 40 2) := (ho276 _ (by omega)).trans (c264.trans (congrArg (fun g => eS tc 2 g) (hsF_mv (fun q hq => hag274 q (by omega)))))
                    have c284 : f272 (9) = eW tc 10 (hsF ad 48 e) := (ho276 _ (by omega)).trans (c265.trans (congrArg (fun g => eW tc 10 g) (hsF_mv (fun q hq => hag274 q (by omega)))))
                    have hf285 : isSt tc ad f272 1 n0 := hf266.mv (fun q g1 g2 => hag274 q (by omega)) (fun q g1 g2 => (ho276 q (by omega)))
                    have hf286 : isP0 tc ad f272 11 := hf267.mv (fun q g1 g2 => hag274 q (by omega)) (fun q g1 g2 => (ho276 q (by omega)))
                    have hf287 : ∀ k, k < 6 → isSt tc ad f272 (16 + 4 * k) n0 := fun k hk => (hf268 k hk).mv (fun q g1 g2 => hag274 q (by omega)) (fun q g1 g2 => (ho276 q (by omega)))
                    have hf288 : ∀ k, k < 2 → isSt tc ad f272 (40 + 4 * k) n0 := fun k hk => (hf269 k hk).mv (fun q g1 g2 => hag274 q (by omega)) (fun q g1 g2 => (ho276 q (by omega)))
                    have hf289 : ∀ k, k < e → isWd tc ad f272 (48 + 4 * k) w0 := fun k hk => (hf270 k hk).mv (fun q g1 g2 => hag274 q (by omega)) (fun q g1 g2 => (ho276 q (by omega)))
                    have hA290 : ad 0 = ad0 0 := (hag274 0 (by omega)).trans hA271
                    rw [← hag274 (0) (by omega)]
                    rw [← hag274 (48 + 4 * e) (by omega)]
                    rw [← hag274 (9) (by omega)]
                    obtain ⟨w291, w292, w293, w294, -⟩ := id hnew275
                    show VV X ad (48 + 4 * e + 4) f272 _ _ 166 [(0, .ref (ad (0))), (1, .int (iI ((e : Nat) : Int)))] [.ref (ad (48 + 4 * e)), .int (iI ((e : Nat) : Int)), .ref (ad (9))]
                    refine r_aastW C (by omega) c284 (by omega) w294 (e) rfl (by omega) (Nat.le_of_ble_eq_true rfl) dX3_init_166 (fun f299 hs300 ho301 => ?_)
                    have c302 : f299 (9) = eW tc 10 (hsF ad 48 (e + 1)) := hs300.trans (congrArg (fun g => eW tc 10 g) (hsF_s ad 48 e))
                    refine r_iinc (lv' := [(0, .ref (ad (0))), (1, .int (iI ((e + 1 : Nat) : Int)))]) C ((e + 1 : Nat) : Int) (by omega) dX3_init_167 rfl (by decide) rfl ?_
                    refine r_goto (tgt := 148) C dX3_init_170 (by decide) ?_
                    refine r_cn (k' := 47 + 4 * (e + 1)) (n' := 6132 + 196 * (e + 1)) (N' := 48 + 4 * (e + 1)) (by omega) (by omega) (by omega) ?_
                    have c303 : f299 (7) = eB tc 2 (fun _ => iI ((0 : Nat) : Int)) := (ho301 _ (by omega)).trans c277
                    have c304 : f299 (8) = eI tc 64 (fun j => iI (((fun _ => 0 : Nat → Nat) j : Nat) : Int)) := (ho301 _ (by omega)).trans c278
                    have c305 : f299 (10) = eB tc 10 (fun _ => iI ((0 : Nat) : Int)) := (ho301 _ (by omega)).trans c279
                    have c306 : f299 (15) = eI tc 10 (fun j => iI (((fun _ => 0 : Nat → Nat) j : Nat) : Int)) := (ho301 _ (by omega)).trans c280
                    have c307 : f299 (0) = eO 3 [.ref (ad (1)), .ref (ad (5)), .int (iI ((0 : Nat) : Int)), .ref (ad (6)), .ref (ad (7)), .ref (ad (8)), .int (iI ((0 : Nat) : Int)), .ref (ad (9)), .ref (ad (10)), .ref (ad (11)), .ref (ad (15))] := (ho301 _ (by omega)).trans c281
                    have c308 : f299 (5) = eS tc 6 (hsF ad 16 6) := (ho301 _ (by omega)).trans c282
                    have c309 : f299 (6) = eS tc 2 (hsF ad 40 2) := (ho301 _ (by omega)).trans c283
                    exact ih251 (e + 1) ad f299 c303 c304 c305 c306 c307 c308 c309 c302 hA290 (hf285.mv (fun _ _ _ => rfl) (fun q g1 g2 => (ho301 _ (by omega)))) (hf286.mv (fun _ _ _ => rfl) (fun q g1 g2 => (ho301 _ (by omega)))) (fun k hk => (hf287 k (by omega)).mv (fun _ _ _ => rfl) (fun q g1 g2 => (ho301 _ (by omega)))) (fun k hk => (hf288 k (by omega)).mv (fun _ _ _ => rfl) (fun q g1 g2 => (ho301 _ (by omega)))) (fun k hk => if h : k < e then (hf289 k h).mv (fun _ _ _ => rfl) (fun q g1 g2 => (ho301 _ (by omega))) else (by have e : k = e := (by omega); rw [e]; exact hnew275.mv (fun _ _ _ => rfl) (fun q g1 g2 => (ho301 _ (by omega))))) (by omega) (by omega)
              refine r_cn (k' := 47 + 4 * 0) (n' := 6132 + 196 * 0) (N' := 48 + 4 * 0) (by omega) (by omega) (by omega) ?_
              exact hL249 _ 0 ad f224 hm225 hm226 hm227 hm228 hm229 hm230 (by have h := hm231; rw [show d = 2 from by omega] at h; exact h) (hm232.trans (congrArg (fun g => eW tc 10 g) (hsF_0 ad 48).symm)) hA (hS2.mv (fun _ _ _ => rfl) (fun q g1 g2 => rfl)) (hP2.mv (fun _ _ _ => rfl) (fun q g1 g2 => rfl)) (fun k hk => (hH6 k (by omega)).mv (fun _ _ _ => rfl) (fun q g1 g2 => rfl)) (fun k hk => (hL k (by omega)).mv (fun _ _ _ => rfl) (fun q g1 g2 => rfl)) (fun k hk => absurd hk (Nat.not_lt_zero _)) (by omega) (Nat.lt_succ_self _)
            · refine r_aload_n C dX3_init_127 rfl rfl ?_
              refine r_get (v := .ref (ad (6))) C (by omega) hm229 (show vwCl[3]? = some (RX3, TX3, 11) from rfl) m10 3 (by decide) m13 rfl rfl dX3_init_128 ?_
              refine r_iload_n C dX3_init_131 rfl rfl ?_
              refine r_newO (fs := [.null, .null, .null, .int (iI ((0 : Nat) : Int))]) C (show vwCl[1]? = some (RX1, TX1, 4) from rfl) m3 tyX1_ok m4 m5 m6 df1 ⟨by show (39 + 4 * d) + 1 ≤ 87; omega, by show (4816 + 658 * d) + 4 ≤ 8092; omega⟩ dX3_init_132 (fun ad f310 hag311 hs312 ho313 => ?_)
              have c314 : f310 (7) = eB tc 2 (fun _ => iI ((0 : Nat) : Int)) := (ho313 _ (by omega)).trans (hm225)
              have c315 : f310 (8) = eI tc 64 (fun j => iI (((fun _ => 0 : Nat → Nat) j : Nat) : Int)) := (ho313 _ (by omega)).trans (hm226)
              have c316 : f310 (10) = eB tc 10 (fun _ => iI ((0 : Nat) : Int)) := (ho313 _ (by omega)).trans (hm227)
              have c317 : f310 (15) = eI tc 10 (fun j => iI (((fun _ => 0 : Nat → Nat) j : Nat) : Int)) := (ho313 _ (by omega)).trans (hm228)
              have c318 : f310 (0) = eO 3 [.ref (ad (1)), .ref (ad (5)), .int (iI ((0 : Nat) : Int)), .ref (ad (6)), .ref (ad (7)), .ref (ad (8)), .int (iI ((0 : Nat) : Int)), .ref (ad (9)), .ref (ad (10)), .ref (ad (11)), .ref (ad (15))] := (ho313 _ (by omega)).trans (hm229.trans (by rw [hag311 (1) (by omega), hag311 (5) (by omega), hag311 (6) (by omega), hag311 (7) (by omega), hag311 (8) (by omega), hag311 (9) (by omega), hag311 (10) (by omega), hag311 (11) (by omega), hag311 (15) (by omega)]))
              have c319 : f310 (5) = eS tc 6 (hsF ad 16 6) := (ho313 _ (by omega)).trans (hm230.trans (congrArg (fun g => eS tc 6 g) (hsF_mv (fun q hq => hag311 q (by omega)))))
              have c320 : f310 (6) = eS tc 2 (hsF ad 40 d) := (ho313 _ (by omega)).trans (hm231.trans (congrArg (fun g => eS tc 2 g) (hsF_mv (fun q hq => hag311 q (by omega)))))
              have c321 : f310 (9) = eW tc 10 (fun _ => none) := (ho313 _ (by omega)).trans (hm232)
              have hf322 : isSt tc ad f310 1 n0 := hS2.mv (fun q g1 g2 => hag311 q (by omega)) (fun q g1 g2 => (ho313 q (by omega)))
              have hf323 : isP0 tc ad f310 11 := hP2.mv (fun q g1 g2 => hag311 q (by omega)) (fun q g1 g2 => (ho313 q (by omega)))
              have hf324 : ∀ k, k < 6 → isSt tc ad f310 (16 + 4 * k) n0 := fun k hk => (hH6 k hk).mv (fun q g1 g2 => hag311 q (by omega)) (fun q g1 g2 => (ho313 q (by omega)))
              have hf325 : ∀ k, k < d → isSt tc ad f310 (40 + 4 * k) n0 := fun k hk => (hL k hk).mv (fun q g1 g2 => hag311 q (by omega)) (fun q g1 g2 => (ho313 q (by omega)))
              have hA326 : ad 0 = ad0 0 := (hag311 0 (by omega)).trans hA
              rw [← hag311 (0) (by omega)]
              rw [← hag311 (6) (by omega)]
              refine r_dup C dX3_init_135 rfl ?_
              refine r_callI (As := []) (rest := [.ref (ad (40 + 4 * d)), .int (iI ((d : Nat) : Int)), .ref (ad (6))]) (na := 0) (i := 40 + 4 * d) C (c_X1_init G tc l ad 0 _ (40 + 4 * d) hs312) gX3_init_X1_init rfl rfl rfl m6 m7 m8 rfl (by decide +kernel) ⟨Nat.le_of_ble_eq_true rfl, Nat.le_of_ble_eq_true rfl⟩ rfl rfl (Nat.le_of_ble_eq_true rfl) dX3_init_136 ⟨by show (39 + 4 * d + 1) + 3 ≤ 87; omega, by show (4816 + 658 * d + 4) + 654 ≤ 8092; omega⟩ (aft_G (fun ad N2 f327 hF328 => ?_))
              obtain ⟨rfl, hag329, hnew330, ho331⟩ := hF328
              have c332 : f327 (7) = eB tc 2 (fun _ => iI ((0 : Nat) : Int)) := (ho331 _ (by omega)).trans (c314)
              have c333 : f327 (8) = eI tc 64 (fun j => iI (((fun _ => 0 : Nat → Nat) j : Nat) : Int)) := (ho331 _ (by omega)).trans (c315)
              have c334 : f327 (10) = eB tc 10 (fun _ => iI ((0 : Nat) : Int)) := (ho331 _ (by omega)).trans (c316)
              have c335 : f327 (15) = eI tc 10 (fun j => iI (((fun _ => 0 : Nat → Nat) j : Nat) : Int)) := (ho331 _ (by omega)).trans (c317)
              have c336 : f327 (0) = eO 3 [.ref (ad (1)), .ref (ad (5)), .int (iI ((0 : Nat) : Int)), .ref (ad (6)), .ref (ad (7)), .ref (ad (8)), .int (iI ((0 : Nat) : Int)), .ref (ad (9)), .ref (ad (10)), .ref (ad (11)), .ref (ad (15))] := (ho331 _ (by omega)).trans (c318.trans (by rw [hag329 (1) (by omega), hag329 (5) (by omega), hag329 (6) (by omega), hag329 (7) (by omega), hag329 (8) (by omega), hag329 (9) (by omega), hag329 (10) (by omega), hag329 (11) (by omega), hag329 (15) (by omega)]))
              have c337 : f327 (5) = eS tc 6 (hsF ad 16 6) := (ho331 _ (by omega)).trans (c319.trans (congrArg (fun g => eS tc 6 g) (hsF_mv (fun q hq => hag329 q (by omega)))))
              have c338 : f327 (6) = eS tc 2 (hsF ad 40 d) := (ho331 _ (by omega)).trans (c320.trans (congrArg (fun g => eS tc 2 g) (hsF_mv (fun q hq => hag329 q (by omega)))))
              have c339 : f327 (9) = eW tc 10 (fun _ => none) := (ho331 _ (by omega)).trans (c321)
              have hf340 : isSt tc ad f327 1 n0 := hf322.mv (fun q g1 g2 => hag329 q (by omega)) (fun q g1 g2 => (ho331 q (by omega)))
              have hf341 : isP0 tc ad f327 11 := hf323.mv (fun q g1 g2 => hag329 q (by omega)) (fun q g1 g2 => (ho331 q (by omega)))
              have hf342 : ∀ k, k < 6 → isSt tc ad f327 (16 + 4 * k) n0 := fun k hk => (hf324 k hk).mv (fun q g1 g2 => hag329 q (by omega)) (fun q g1 g2 => (ho331 q (by omega)))
              have hf343 : ∀ k, k < d → isSt tc ad f327 (40 + 4 * k) n0 := fun k hk => (hf325 k hk).mv (fun q g1 g2 => hag329 q (by omega)) (fun q g1 g2 => (ho331 q (by omega)))
              have hA344 : ad 0 = ad0 0 := (hag329 0 (by omega)).trans hA326
              rw [← hag329 (0) (by omega)]
              rw [← hag329 (40 + 4 * d) (by omega)]
              rw [← hag329 (6) (by omega)]
              show VV X ad (40 + 4 * d + 4) f327 _ _ 139 [(0, .ref (ad (0))), (1, .int (iI ((d : Nat) : Int)))] [.ref (ad (40 + 4 * d)), .int (iI ((d : Nat) : Int)), .ref (ad (6))]
              refine r_aastS C (by omega) c338 (by omega) hnew330.1 (d) rfl (by omega) (Nat.le_of_ble_eq_true rfl) dX3_init_139 (fun f345 hs346 ho347 => ?_)
              have c348 : f345 (6) = eS tc 2 (hsF ad 40 (d + 1)) := hs346.trans (congrArg (fun g => eS tc 2 g) (hsF_s ad 40 d))
              refine r_iinc (lv' := [(0, .ref (ad (0))), (1, .int (iI ((d + 1 : Nat) : Int)))]) C ((d + 1 : Nat) : Int) (by omega) dX3_init_140 rfl (by decide) rfl ?_
              refine r_goto (tgt := 122) C dX3_init_143 (by decide) ?_
              refine r_cn (k' := 39 + 4 * (d + 1)) (n' := 4816 + 658 * (d + 1)) (N' := 40 + 4 * (d + 1)) (by omega) (by omega) (by omega) ?_
              have c349 : f345 (7) = eB tc 2 (fun _ => iI ((0 : Nat) : Int)) := (ho347 _ (by omega)).trans c332
              have c350 : f345 (8) = eI tc 64 (fun j => iI (((fun _ => 0 : Nat → Nat) j : Nat) : Int)) := (ho347 _ (by omega)).trans c333
              have c351 : f345 (10) = eB tc 10 (fun _ => iI ((0 : Nat) : Int)) := (ho347 _ (by omega)).trans c334
              have c352 : f345 (15) = eI tc 10 (fun j => iI (((fun _ => 0 : Nat → Nat) j : Nat) : Int)) := (ho347 _ (by omega)).trans c335
              have c353 : f345 (0) = eO 3 [.ref (ad (1)), .ref (ad (5)), .int (iI ((0 : Nat) : Int)), .ref (ad (6)), .ref (ad (7)), .ref (ad (8)), .int (iI ((0 : Nat) : Int)), .ref (ad (9)), .ref (ad (10)), .ref (ad (11)), .ref (ad (15))] := (ho347 _ (by omega)).trans c336
              have c354 : f345 (5) = eS tc 6 (hsF ad 16 6) := (ho347 _ (by omega)).trans c337
              have c355 : f345 (9) = eW tc 10 (fun _ => none) := (ho347 _ (by omega)).trans c339
              exact ih236 (d + 1) ad f345 c349 c350 c351 c352 c353 c354 c348 c355 hA344 (hf340.mv (fun _ _ _ => rfl) (fun q g1 g2 => (ho347 _ (by omega)))) (hf341.mv (fun _ _ _ => rfl) (fun q g1 g2 => (ho347 _ (by omega)))) (fun k hk => (hf342 k (by omega)).mv (fun _ _ _ => rfl) (fun q g1 g2 => (ho347 _ (by omega)))) (fun k hk => if h : k < d then (hf343 k h).mv (fun _ _ _ => rfl) (fun q g1 g2 => (ho347 _ (by omega))) else (by have e : k = d := (by omega); rw [e]; exact hnew330.mv (fun _ _ _ => rfl) (fun q g1 g2 => (ho347 _ (by omega))))) (by omega) (by omega)
        refine r_cn (k' := 39 + 4 * 0) (n' := 4816 + 658 * 0) (N' := 40 + 4 * 0) (by omega) (by omega) (by omega) ?_
        exact hL234 _ 0 ad f209 hm210 hm211 hm212 hm213 hm214 (by have h := hm215; rw [show c = 6 from by omega] at h; exact h) (hm216.trans (congrArg (fun g => eS tc 2 g) (hsF_0 ad 40).symm)) hm217 hA (hS1.mv (fun _ _ _ => rfl) (fun q g1 g2 => rfl)) (hP1.mv (fun _ _ _ => rfl) (fun q g1 g2 => rfl)) (fun k hk => (hH k (by omega)).mv (fun _ _ _ => rfl) (fun q g1 g2 => rfl)) (fun k hk => absurd hk (Nat.not_lt_zero _)) (by omega) (Nat.lt_succ_self _)
      · refine r_aload_n C dX3_init_101 rfl rfl ?_
        refine r_get (v := .ref (ad (5))) C (by omega) hm214 (show vwCl[3]? = some (RX3, TX3, 11) from rfl) m10 1 (by decide) m11 rfl rfl dX3_init_102 ?_
        refine r_iload_n C dX3_init_105 rfl rfl ?_
        refine r_newO (fs := [.null, .null, .null, .int (iI ((0 : Nat) : Int))]) C (show vwCl[1]? = some (RX1, TX1, 4) from rfl) m3 tyX1_ok m4 m5 m6 df1 ⟨by show (15 + 4 * c) + 1 ≤ 87; omega, by show (868 + 658 * c) + 4 ≤ 8092; omega⟩ dX3_init_106 (fun ad f356 hag357 hs358 ho359 => ?_)
        have c360 : f356 (7) = eB tc 2 (fun _ => iI ((0 : Nat) : Int)) := (ho359 _ (by omega)).trans (hm210)
        have c361 : f356 (8) = eI tc 64 (fun j => iI (((fun _ => 0 : Nat → Nat) j : Nat) : Int)) := (ho359 _ (by omega)).trans (hm211)
        have c362 : f356 (10) = eB tc 10 (fun _ => iI ((0 : Nat) : Int)) := (ho359 _ (by omega)).trans (hm212)
        have c363 : f356 (15) = eI tc 10 (fun j => iI (((fun _ => 0 : Nat → Nat) j : Nat) : Int)) := (ho359 _ (by omega)).trans (hm213)
        have c364 : f356 (0) = eO 3 [.ref (ad (1)), .ref (ad (5)), .int (iI ((0 : Nat) : Int)), .ref (ad (6)), .ref (ad (7)), .ref (ad (8)), .int (iI ((0 : Nat) : Int)), .ref (ad (9)), .ref (ad (10)), .ref (ad (11)), .ref (ad (15))] := (ho359 _ (by omega)).trans (hm214.trans (by rw [hag357 (1) (by omega), hag357 (5) (by omega), hag357 (6) (by omega), hag357 (7) (by omega), hag357 (8) (by omega), hag357 (9) (by omega), hag357 (10) (by omega), hag357 (11) (by omega), hag357 (15) (by omega)]))
        have c365 : f356 (5) = eS tc 6 (hsF ad 16 c) := (ho359 _ (by omega)).trans (hm215.trans (congrArg (fun g => eS tc 6 g) (hsF_mv (fun q hq => hag357 q (by omega)))))
        have c366 : f356 (6) = eS tc 2 (fun _ => none) := (ho359 _ (by omega)).trans (hm216)
        have c367 : f356 (9) = eW tc 10 (fun _ => none) := (ho359 _ (by omega)).trans (hm217)
        have hf368 : isSt tc ad f356 1 n0 := hS1.mv (fun q g1 g2 => hag357 q (by omega)) (fun q g1 g2 => (ho359 q (by omega)))
        have hf369 : isP0 tc ad f356 11 := hP1.mv (fun q g1 g2 => hag357 q (by omega)) (fun q g1 g2 => (ho359 q (by omega)))
        have hf370 : ∀ k, k < c → isSt tc ad f356 (16 + 4 * k) n0 := fun k hk => (hH k hk).mv (fun q g1 g2 => hag357 q (by omega)) (fun q g1 g2 => (ho359 q (by omega)))
        have hA371 : ad 0 = ad0 0 := (hag357 0 (by omega)).trans hA
        rw [← hag357 (0) (by omega)]
        rw [← hag357 (5) (by omega)]
        refine r_dup C dX3_init_109 rfl ?_
        refine r_callI (As := []) (rest := [.ref (ad (16 + 4 * c)), .int (iI ((c : Nat) : Int)), .ref (ad (5))]) (na := 0) (i := 16 + 4 * c) C (c_X1_init G tc l ad 0 _ (16 + 4 * c) hs358) gX3_init_X1_init rfl rfl rfl m6 m7 m8 rfl (by decide +kernel) ⟨Nat.le_of_ble_eq_true rfl, Nat.le_of_ble_eq_true rfl⟩ rfl rfl (Nat.le_of_ble_eq_true rfl) dX3_init_110 ⟨by show (15 + 4 * c + 1) + 3 ≤ 87; omega, by show (868 + 658 * c + 4) + 654 ≤ 8092; omega⟩ (aft_G (fun ad N2 f372 hF373 => ?_))
        obtain ⟨rfl, hag374, hnew375, ho376⟩ := hF373
        have c377 : f372 (7) = eB tc 2 (fun _ => iI ((0 : Nat) : Int)) := (ho376 _ (by omega)).trans (c360)
        have c378 : f372 (8) = eI tc 64 (fun j => iI (((fun _ => 0 : Nat → Nat) j : Nat) : Int)) := (ho376 _ (by omega)).trans (c361)
        have c379 : f372 (10) = eB tc 10 (fun _ => iI ((0 : Nat) : Int)) := (ho376 _ (by omega)).trans (c362)
        have c380 : f372 (15) = eI tc 10 (fun j => iI (((fun _ => 0 : Nat → Nat) j : Nat) : Int)) := (ho376 _ (by omega)).trans (c363)
        have c381 : f372 (0) = eO 3 [.ref (ad (1)), .ref (ad (5)), .int (iI ((0 : Nat) : Int)), .ref (ad (6)), .ref (ad (7)), .ref (ad (8)), .int (iI ((0 : Nat) : Int)), .ref (ad (9)), .ref (ad (10)), .ref (ad (11)), .ref (ad (15))] := (ho376 _ (by omega)).trans (c364.trans (by rw [hag374 (1) (by omega), hag374 (5) (by omega), hag374 (6) (by omega), hag374 (7) (by omega), hag374 (8) (by omega), hag374 (9) (by omega), hag374 (10) (by omega), hag374 (11) (by omega), hag374 (15) (by omega)]))
        have c382 : f372 (5) = eS tc 6 (hsF ad 16 c) := (ho376 _ (by omega)).trans (c365.trans (congrArg (fun g => eS tc 6 g) (hsF_mv (fun q hq => hag374 q (by omega)))))
        have c383 : f372 (6) = eS tc 2 (fun _ => none) := (ho376 _ (by omega)).trans (c366)
        have c384 : f372 (9) = eW tc 10 (fun _ => none) := (ho376 _ (by omega)).trans (c367)
        have hf385 : isSt tc ad f372 1 n0 := hf368.mv (fun q g1 g2 => hag374 q (by omega)) (fun q g1 g2 => (ho376 q (by omega)))
        have hf386 : isP0 tc ad f372 11 := hf369.mv (fun q g1 g2 => hag374 q (by omega)) (fun q g1 g2 => (ho376 q (by omega)))
        have hf387 : ∀ k, k < c → isSt tc ad f372 (16 + 4 * k) n0 := fun k hk => (hf370 k hk).mv (fun q g1 g2 => hag374 q (by omega)) (fun q g1 g2 => (ho376 q (by omega)))
        have hA388 : ad 0 = ad0 0 := (hag374 0 (by omega)).trans hA371
        rw [← hag374 (0) (by omega)]
        rw [← hag374 (16 + 4 * c) (by omega)]
        rw [← hag374 (5) (by omega)]
        show VV X ad (16 + 4 * c + 4) f372 _ _ 113 [(0, .ref (ad (0))), (1, .int (iI ((c : Nat) : Int)))] [.ref (ad (16 + 4 * c)), .int (iI ((c : Nat) : Int)), .ref (ad (5))]
        refine r_aastS C (by omega) c382 (by omega) hnew375.1 (c) rfl (by omega) (Nat.le_of_ble_eq_true rfl) dX3_init_113 (fun f389 hs390 ho391 => ?_)
        have c392 : f389 (5) = eS tc 6 (hsF ad 16 (c + 1)) := hs390.trans (congrArg (fun g => eS tc 6 g) (hsF_s ad 16 c))
        refine r_iinc (lv' := [(0, .ref (ad (0))), (1, .int (iI ((c + 1 : Nat) : Int)))]) C ((c + 1 : Nat) : Int) (by omega) dX3_init_114 rfl (by decide) rfl ?_
        refine r_goto (tgt := 95) C dX3_init_117 (by decide) ?_
        refine r_cn (k' := 15 + 4 * (c + 1)) (n' := 868 + 658 * (c + 1)) (N' := 16 + 4 * (c + 1)) (by omega) (by omega) (by omega) ?_
        have c393 : f389 (7) = eB tc 2 (fun _ => iI ((0 : Nat) : Int)) := (ho391 _ (by omega)).trans c377
        have c394 : f389 (8) = eI tc 64 (fun j => iI (((fun _ => 0 : Nat → Nat) j : Nat) : Int)) := (ho391 _ (by omega)).trans c378
        have c395 : f389 (10) = eB tc 10 (fun _ => iI ((0 : Nat) : Int)) := (ho391 _ (by omega)).trans c379
        have c396 : f389 (15) = eI tc 10 (fun j => iI (((fun _ => 0 : Nat → Nat) j : Nat) : Int)) := (ho391 _ (by omega)).trans c380
        have c397 : f389 (0) = eO 3 [.ref (ad (1)), .ref (ad (5)), .int (iI ((0 : Nat) : Int)), .ref (ad (6)), .ref (ad (7)), .ref (ad (8)), .int (iI ((0 : Nat) : Int)), .ref (ad (9)), .ref (ad (10)), .ref (ad (11)), .ref (ad (15))] := (ho391 _ (by omega)).trans c381
        have c398 : f389 (6) = eS tc 2 (fun _ => none) := (ho391 _ (by omega)).trans c383
        have c399 : f389 (9) = eW tc 10 (fun _ => none) := (ho391 _ (by omega)).trans c384
        exact ih221 (c + 1) ad f389 c393 c394 c395 c396 c397 c392 c398 c399 hA388 (hf385.mv (fun _ _ _ => rfl) (fun q g1 g2 => (ho391 _ (by omega)))) (hf386.mv (fun _ _ _ => rfl) (fun q g1 g2 => (ho391 _ (by omega)))) (fun k hk => if h : k < c then (hf387 k h).mv (fun _ _ _ => rfl) (fun q g1 g2 => (ho391 _ (by omega))) else (by have e : k = c := (by omega); rw [e]; exact hnew375.mv (fun _ _ _ => rfl) (fun q g1 g2 => (ho391 _ (by omega))))) (by omega) (by omega)
  refine r_cn (k' := 15 + 4 * 0) (n' := 868 + 658 * 0) (N' := 16 + 4 * 0) (by omega) (by omega) (by omega) ?_
  have c400 : f205 (7) = eB tc 2 (fun _ => iI ((0 : Nat) : Int)) := (ho207 _ (by omega)).trans c197
  have c401 : f205 (8) = eI tc 64 (fun j => iI (((fun _ => 0 : Nat → Nat) j : Nat) : Int)) := (ho207 _ (by omega)).trans c198
  have c402 : f205 (10) = eB tc 10 (fun _ => iI ((0 : Nat) : Int)) := (ho207 _ (by omega)).trans c200
  have c403 : f205 (15) = eI tc 10 (fun j => iI (((fun _ => 0 : Nat → Nat) j : Nat) : Int)) := (ho207 _ (by omega)).trans hs183
  have c404 : f205 (5) = eS tc 6 (fun _ => none) := (ho207 _ (by omega)).trans c195
  have c405 : f205 (6) = eS tc 2 (fun _ => none) := (ho207 _ (by omega)).trans c196
  have c406 : f205 (9) = eW tc 10 (fun _ => none) := (ho207 _ (by omega)).trans c199
  exact hL219 _ 0 ad f205 c400 c401 c402 c403 c208 (c404.trans (congrArg (fun g => eS tc 6 g) (hsF_0 ad 16).symm)) c405 c406 hA204 (hf202.mv (fun _ _ _ => rfl) (fun q g1 g2 => (ho207 _ (by omega)))) (hf203.mv (fun _ _ _ => rfl) (fun q g1 g2 => (ho207 _ (by omega)))) (fun k hk => absurd hk (Nat.not_lt_zero _)) (by omega) (Nat.lt_succ_self _)
set_option maxHeartbeats 4000000 in
set_option maxRecDepth 100000 in
/-- the reference is made -/
theorem c_X4_init (G : va_G) (tc : Nat → ClassId) (l : Launch) (ad : Nat → Nat) (N : Nat) (f : Nat → va_E)  (h0 : f (88) = eO 4 [.null, .null, .int (iI ((0 : Nat) : Int)), .null, .null, .null, .int (iI ((0 : Nat) : Int)), .null, .null, .null, .null, .int (iI ((0 : Nat) : Int)), .int (iI ((0 : Nat) : Int)), .int (iI ((0 : Nat) : Int)), .int (iI ((0 : Nat) : Int))])  : Ct G tc l yX4_init wsX4_init { frames := 1, cells := 9, slots := 6347, locals := 20 } 9 6347 [.ref (ad (88))] ad 89 f (poG (fun ad' N' f' => N' = 98 ∧ (∀ q, q ≤ 88 → ad' q = ad q) ∧ MI tc ad' f' s0 ∧ ∀ q, q < 88 → f' q = f q)) := by
  obtain ⟨ad0, had0⟩ : ∃ a, a = ad := ⟨_, rfl⟩
  have hA0 : ∀ q, q ≤ 88 → ad q = ad0 q := fun q _ => by rw [had0]
  have hF0 : ∀ q, q < 88 → f q = f q := fun q _ => rfl
  refine Ct.ofV (cc := cX4_init) (maxL := 1) (lv := [(0, .ref (ad (88)))]) (by decide) rfl (Nat.le_of_ble_eq_true rfl) rfl (fun X C hinit hret => ?_)
  have m0 : Cond.methodLink RX4 1 objectInit ∈ wsX4_init := by decide +kernel
  have m1 : Cond.instanceMethod objectInit ∈ wsX4_init := by decide +kernel
  have m2 : Cond.code objectInit ⟨#[0xb1]⟩ 1 none ∈ wsX4_init := by decide +kernel
  have m3 : Cond.arrayClass .int ∈ wsX4_init := by decide +kernel
  have m4 : Cond.fieldLink RX4 7 "WordSamplesModel" "now" "[I" ∈ wsX4_init := by decide +kernel
  have m5 : ∀ w ∈ wsX40, w ∈ wsX4_init := by decide +kernel
  have m6 : Cond.fieldLink RX4 13 "WordSamplesModel" "before" "[I" ∈ wsX4_init := by decide +kernel
  have m7 : Cond.fieldLink RX4 16 "WordSamplesModel" "stored" "[I" ∈ wsX4_init := by decide +kernel
  have m8 : Cond.arrayClass .boolean ∈ wsX4_init := by decide +kernel
  have m9 : Cond.fieldLink RX4 19 "WordSamplesModel" "isStored" "[Z" ∈ wsX4_init := by decide +kernel
  have m10 : Cond.fieldLink RX4 23 "WordSamplesModel" "pad" "[I" ∈ wsX4_init := by decide +kernel
  have m11 : Cond.fieldLink RX4 26 "WordSamplesModel" "codes" "[I" ∈ wsX4_init := by decide +kernel
  have m12 : Cond.fieldLink RX4 29 "WordSamplesModel" "values" "[I" ∈ wsX4_init := by decide +kernel
  have m13 : Cond.fieldLink RX4 32 "WordSamplesModel" "often" "[I" ∈ wsX4_init := by decide +kernel
  have m14 : Cond.fieldLink RX4 35 "WordSamplesModel" "words" "[I" ∈ wsX4_init := by decide +kernel
  have m15 : Cond.constant RX4 38 (104729) ∈ wsX4_init := by decide +kernel
  refine r_aload_n C dX4_init_0 rfl rfl ?_
  refine r_objInit C m0 m1 m2 (Nat.le_of_ble_eq_true rfl) (Nat.le_of_ble_eq_true rfl) dX4_init_1 ?_
  refine r_aload_n C dX4_init_4 rfl rfl ?_
  refine r_sipush C ((655 : Nat) : Int) (by decide) dX4_init_5 ?_
  refine r_newI C 655 rfl (by decide) m3 ⟨by show 0 + 1 ≤ 9; omega, by show 0 + 655 ≤ 6347; omega⟩ dX4_init_8 (fun ad f1 hag2 hs3 ho4 => ?_)
  have c5 : f1 (88) = eO 4 [.null, .null, .int (iI ((0 : Nat) : Int)), .null, .null, .null, .int (iI ((0 : Nat) : Int)), .null, .null, .null, .null, .int (iI ((0 : Nat) : Int)), .int (iI ((0 : Nat) : Int)), .int (iI ((0 : Nat) : Int)), .int (iI ((0 : Nat) : Int))] := (ho4 _ (by omega)).trans (h0)
  have hA6 : ∀ q, q ≤ 88 → ad q = ad0 q := fun q hq => (hag2 q (by omega)).trans (hA0 q hq)
  have hA7 : ∀ q, q < 88 → f1 q = f q := fun q hq => ((ho4 q (by omega))).trans (hF0 q hq)
  rw [← hag2 (88) (by omega)]
  refine r_putF (ty := .array .int) C (by omega) c5 (show vwCl[4]? = some (RX4, TX4, 15) from rfl) m5 tyX4_ok nmX4 0 (by decide) m4 rfl rfl hinit rfl (by decide +kernel) rfl rfl (Nat.le_of_ble_eq_true rfl) dX4_init_10 (fun f8 hs9 ho10 => ?_)
  have c11 : f8 (88) = eO 4 [.ref (ad (89)), .null, .int (iI ((0 : Nat) : Int)), .null, .null, .null, .int (iI ((0 : Nat) : Int)), .null, .null, .null, .null, .int (iI ((0 : Nat) : Int)), .int (iI ((0 : Nat) : Int)), .int (iI ((0 : Nat) : Int)), .int (iI ((0 : Nat) : Int))] := hs9
  refine r_aload_n C dX4_init_13 rfl rfl ?_
  refine r_sipush C ((3930 : Nat) : Int) (by decide) dX4_init_14 ?_
  have c16 : f8 (89) = eI tc 655 (fun j => iI (((fun _ => 0 : Nat → Nat) j : Nat) : Int)) := (ho10 _ (by omega)).trans hs3
  refine r_newI C 3930 rfl (by decide) m3 ⟨by show 1 + 1 ≤ 9; omega, by show 655 + 3930 ≤ 6347; omega⟩ dX4_init_17 (fun ad f12 hag13 hs14 ho15 => ?_)
  have c17 : f12 (88) = eO 4 [.ref (ad (89)), .null, .int (iI ((0 : Nat) : Int)), .null, .null, .null, .int (iI ((0 : Nat) : Int)), .null, .null, .null, .null, .int (iI ((0 : Nat) : Int)), .int (iI ((0 : Nat) : Int)), .int (iI ((0 : Nat) : Int)), .int (iI ((0 : Nat) : Int))] := (ho15 _ (by omega)).trans (c11.trans (by rw [hag13 (89) (by omega)]))
  have c18 : f12 (89) = eI tc 655 (fun j => iI (((fun _ => 0 : Nat → Nat) j : Nat) : Int)) := (ho15 _ (by omega)).trans (c16)
  have hA19 : ∀ q, q ≤ 88 → ad q = ad0 q := fun q hq => (hag13 q (by omega)).trans (hA6 q hq)
  have hA20 : ∀ q, q < 88 → f12 q = f q := fun q hq => ((ho15 q (by omega)).trans ((ho10 _ (by omega)))).trans (hA7 q hq)
  rw [← hag13 (88) (by omega)]
  refine r_putF (ty := .array .int) C (by omega) c17 (show vwCl[4]? = some (RX4, TX4, 15) from rfl) m5 tyX4_ok nmX4 1 (by decide) m6 rfl rfl hinit rfl (by decide +kernel) rfl rfl (Nat.le_of_ble_eq_true rfl) dX4_init_19 (fun f21 hs22 ho23 => ?_)
  have c24 : f21 (88) = eO 4 [.ref (ad (89)), .ref (ad (90)), .int (iI ((0 : Nat) : Int)), .null, .null, .null, .int (iI ((0 : Nat) : Int)), .null, .null, .null, .null, .int (iI ((0 : Nat) : Int)), .int (iI ((0 : Nat) : Int)), .int (iI ((0 : Nat) : Int)), .int (iI ((0 : Nat) : Int))] := hs22
  refine r_aload_n C dX4_init_22 rfl rfl ?_
  refine r_sipush C ((1310 : Nat) : Int) (by decide) dX4_init_23 ?_
  have c29 : f21 (89) = eI tc 655 (fun j => iI (((fun _ => 0 : Nat → Nat) j : Nat) : Int)) := (ho23 _ (by omega)).trans c18
  have c30 : f21 (90) = eI tc 3930 (fun j => iI (((fun _ => 0 : Nat → Nat) j : Nat) : Int)) := (ho23 _ (by omega)).trans hs14
  refine r_newI C 1310 rfl (by decide) m3 ⟨by show 2 + 1 ≤ 9; omega, by show 4585 + 1310 ≤ 6347; omega⟩ dX4_init_26 (fun ad f25 hag26 hs27 ho28 => ?_)
  have c31 : f25 (88) = eO 4 [.ref (ad (89)), .ref (ad (90)), .int (iI ((0 : Nat) : Int)), .null, .null, .null, .int (iI ((0 : Nat) : Int)), .null, .null, .null, .null, .int (iI ((0 : Nat) : Int)), .int (iI ((0 : Nat) : Int)), .int (iI ((0 : Nat) : Int)), .int (iI ((0 : Nat) : Int))] := (ho28 _ (by omega)).trans (c24.trans (by rw [hag26 (89) (by omega), hag26 (90) (by omega)]))
  have c32 : f25 (89) = eI tc 655 (fun j => iI (((fun _ => 0 : Nat → Nat) j : Nat) : Int)) := (ho28 _ (by omega)).trans (c29)
  have c33 : f25 (90) = eI tc 3930 (fun j => iI (((fun _ => 0 : Nat → Nat) j : Nat) : Int)) := (ho28 _ (by omega)).trans (c30)
  have hA34 : ∀ q, q ≤ 88 → ad q = ad0 q := fun q hq => (hag26 q (by omega)).trans (hA19 q hq)
  have hA35 : ∀ q, q < 88 → f25 q = f q := fun q hq => ((ho28 q (by omega)).trans ((ho23 _ (by omega)))).trans (hA20 q hq)
  rw [← hag26 (88) (by omega)]
  refine r_putF (ty := .array .int) C (by omega) c31 (show vwCl[4]? = some (RX4, TX4, 15) from rfl) m5 tyX4_ok nmX4 3 (by decide) m7 rfl rfl hinit rfl (by decide +kernel) rfl rfl (Nat.le_of_ble_eq_true rfl) dX4_init_28 (fun f36 hs37 ho38 => ?_)
  have c39 : f36 (88) = eO 4 [.ref (ad (89)), .ref (ad (90)), .int (iI ((0 : Nat) : Int)), .ref (ad (91)), .null, .null, .int (iI ((0 : Nat) : Int)), .null, .null, .null, .null, .int (iI ((0 : Nat) : Int)), .int (iI ((0 : Nat) : Int)), .int (iI ((0 : Nat) : Int)), .int (iI ((0 : Nat) : Int))] := hs37
  refine r_aload_n C dX4_init_31 rfl rfl ?_
  refine r_iconst C ((2 : Nat) : Int) (by decide) dX4_init_32 ?_
  have c44 : f36 (89) = eI tc 655 (fun j => iI (((fun _ => 0 : Nat → Nat) j : Nat) : Int)) := (ho38 _ (by omega)).trans c32
  have c45 : f36 (90) = eI tc 3930 (fun j => iI (((fun _ => 0 : Nat → Nat) j : Nat) : Int)) := (ho38 _ (by omega)).trans c33
  have c46 : f36 (91) = eI tc 1310 (fun j => iI (((fun _ => 0 : Nat → Nat) j : Nat) : Int)) := (ho38 _ (by omega)).trans hs27
  refine r_newZ C 2 rfl (by decide) m8 ⟨by show 3 + 1 ≤ 9; omega, by show 5895 + 2 ≤ 6347; omega⟩ dX4_init_33 (fun ad f40 hag41 hs42 ho43 => ?_)
  have c47 : f40 (88) = eO 4 [.ref (ad (89)), .ref (ad (90)), .int (iI ((0 : Nat) : Int)), .ref (ad (91)), .null, .null, .int (iI ((0 : Nat) : Int)), .null, .null, .null, .null, .int (iI ((0 : Nat) : Int)), .int (iI ((0 : Nat) : Int)), .int (iI ((0 : Nat) : Int)), .int (iI ((0 : Nat) : Int))] := (ho43 _ (by omega)).trans (c39.trans (by rw [hag41 (89) (by omega), hag41 (90) (by omega), hag41 (91) (by omega)]))
  have c48 : f40 (89) = eI tc 655 (fun j => iI (((fun _ => 0 : Nat → Nat) j : Nat) : Int)) := (ho43 _ (by omega)).trans (c44)
  have c49 : f40 (90) = eI tc 3930 (fun j => iI (((fun _ => 0 : Nat → Nat) j : Nat) : Int)) := (ho43 _ (by omega)).trans (c45)
  have c50 : f40 (91) = eI tc 1310 (fun j => iI (((fun _ => 0 : Nat → Nat) j : Nat) : Int)) := (ho43 _ (by omega)).trans (c46)
  have hA51 : ∀ q, q ≤ 88 → ad q = ad0 q := fun q hq => (hag41 q (by omega)).trans (hA34 q hq)
  have hA52 : ∀ q, q < 88 → f40 q = f q := fun q hq => ((ho43 q (by omega)).trans ((ho38 _ (by omega)))).trans (hA35 q hq)
  rw [← hag41 (88) (by omega)]
  refine r_putF (ty := .array .boolean) C (by omega) c47 (show vwCl[4]? = some (RX4, TX4, 15) from rfl) m5 tyX4_ok nmX4 4 (by decide) m9 rfl rfl hinit rfl (by decide +kernel) rfl rfl (Nat.le_of_ble_eq_true rfl) dX4_init_35 (fun f53 hs54 ho55 => ?_)
  have c56 : f53 (88) = eO 4 [.ref (ad (89)), .ref (ad (90)), .int (iI ((0 : Nat) : Int)), .ref (ad (91)), .ref (ad (92)), .null, .int (iI ((0 : Nat) : Int)), .null, .null, .null, .null, .int (iI ((0 : Nat) : Int)), .int (iI ((0 : Nat) : Int)), .int (iI ((0 : Nat) : Int)), .int (iI ((0 : Nat) : Int))] := hs54
  refine r_aload_n C dX4_init_38 rfl rfl ?_
  refine r_bipush C ((64 : Nat) : Int) (by decide) dX4_init_39 ?_
  have c61 : f53 (89) = eI tc 655 (fun j => iI (((fun _ => 0 : Nat → Nat) j : Nat) : Int)) := (ho55 _ (by omega)).trans c48
  have c62 : f53 (90) = eI tc 3930 (fun j => iI (((fun _ => 0 : Nat → Nat) j : Nat) : Int)) := (ho55 _ (by omega)).trans c49
  have c63 : f53 (91) = eI tc 1310 (fun j => iI (((fun _ => 0 : Nat → Nat) j : Nat) : Int)) := (ho55 _ (by omega)).trans c50
  have c64 : f53 (92) = eB tc 2 (fun _ => iI ((0 : Nat) : Int)) := (ho55 _ (by omega)).trans hs42
  refine r_newI C 64 rfl (by decide) m3 ⟨by show 4 + 1 ≤ 9; omega, by show 5897 + 64 ≤ 6347; omega⟩ dX4_init_41 (fun ad f57 hag58 hs59 ho60 => ?_)
  have c65 : f57 (88) = eO 4 [.ref (ad (89)), .ref (ad (90)), .int (iI ((0 : Nat) : Int)), .ref (ad (91)), .ref (ad (92)), .null, .int (iI ((0 : Nat) : Int)), .null, .null, .null, .null, .int (iI ((0 : Nat) : Int)), .int (iI ((0 : Nat) : Int)), .int (iI ((0 : Nat) : Int)), .int (iI ((0 : Nat) : Int))] := (ho60 _ (by omega)).trans (c56.trans (by rw [hag58 (89) (by omega), hag58 (90) (by omega), hag58 (91) (by omega), hag58 (92) (by omega)]))
  have c66 : f57 (89) = eI tc 655 (fun j => iI (((fun _ => 0 : Nat → Nat) j : Nat) : Int)) := (ho60 _ (by omega)).trans (c61)
  have c67 : f57 (90) = eI tc 3930 (fun j => iI (((fun _ => 0 : Nat → Nat) j : Nat) : Int)) := (ho60 _ (by omega)).trans (c62)
  have c68 : f57 (91) = eI tc 1310 (fun j => iI (((fun _ => 0 : Nat → Nat) j : Nat) : Int)) := (ho60 _ (by omega)).trans (c63)
  have c69 : f57 (92) = eB tc 2 (fun _ => iI ((0 : Nat) : Int)) := (ho60 _ (by omega)).trans (c64)
  have hA70 : ∀ q, q ≤ 88 → ad q = ad0 q := fun q hq => (hag58 q (by omega)).trans (hA51 q hq)
  have hA71 : ∀ q, q < 88 → f57 q = f q := fun q hq => ((ho60 q (by omega)).trans ((ho55 _ (by omega)))).trans (hA52 q hq)
  rw [← hag58 (88) (by omega)]
  refine r_putF (ty := .array .int) C (by omega) c65 (show vwCl[4]? = some (RX4, TX4, 15) from rfl) m5 tyX4_ok nmX4 5 (by decide) m10 rfl rfl hinit rfl (by decide +kernel) rfl rfl (Nat.le_of_ble_eq_true rfl) dX4_init_43 (fun f72 hs73 ho74 => ?_)
  have c75 : f72 (88) = eO 4 [.ref (ad (89)), .ref (ad (90)), .int (iI ((0 : Nat) : Int)), .ref (ad (91)), .ref (ad (92)), .ref (ad (93)), .int (iI ((0 : Nat) : Int)), .null, .null, .null, .null, .int (iI ((0 : Nat) : Int)), .int (iI ((0 : Nat) : Int)), .int (iI ((0 : Nat) : Int)), .int (iI ((0 : Nat) : Int))] := hs73
  refine r_aload_n C dX4_init_46 rfl rfl ?_
  refine r_sipush C ((128 : Nat) : Int) (by decide) dX4_init_47 ?_
  have c80 : f72 (89) = eI tc 655 (fun j => iI (((fun _ => 0 : Nat → Nat) j : Nat) : Int)) := (ho74 _ (by omega)).trans c66
  have c81 : f72 (90) = eI tc 3930 (fun j => iI (((fun _ => 0 : Nat → Nat) j : Nat) : Int)) := (ho74 _ (by omega)).trans c67
  have c82 : f72 (91) = eI tc 1310 (fun j => iI (((fun _ => 0 : Nat → Nat) j : Nat) : Int)) := (ho74 _ (by omega)).trans c68
  have c83 : f72 (92) = eB tc 2 (fun _ => iI ((0 : Nat) : Int)) := (ho74 _ (by omega)).trans c69
  have c84 : f72 (93) = eI tc 64 (fun j => iI (((fun _ => 0 : Nat → Nat) j : Nat) : Int)) := (ho74 _ (by omega)).trans hs59
  refine r_newI C 128 rfl (by decide) m3 ⟨by show 5 + 1 ≤ 9; omega, by show 5961 + 128 ≤ 6347; omega⟩ dX4_init_50 (fun ad f76 hag77 hs78 ho79 => ?_)
  have c85 : f76 (88) = eO 4 [.ref (ad (89)), .ref (ad (90)), .int (iI ((0 : Nat) : Int)), .ref (ad (91)), .ref (ad (92)), .ref (ad (93)), .int (iI ((0 : Nat) : Int)), .null, .null, .null, .null, .int (iI ((0 : Nat) : Int)), .int (iI ((0 : Nat) : Int)), .int (iI ((0 : Nat) : Int)), .int (iI ((0 : Nat) : Int))] := (ho79 _ (by omega)).trans (c75.trans (by rw [hag77 (89) (by omega), hag77 (90) (by omega), hag77 (91) (by omega), hag77 (92) (by omega), hag77 (93) (by omega)]))
  have c86 : f76 (89) = eI tc 655 (fun j => iI (((fun _ => 0 : Nat → Nat) j : Nat) : Int)) := (ho79 _ (by omega)).trans (c80)
  have c87 : f76 (90) = eI tc 3930 (fun j => iI (((fun _ => 0 : Nat → Nat) j : Nat) : Int)) := (ho79 _ (by omega)).trans (c81)
  have c88 : f76 (91) = eI tc 1310 (fun j => iI (((fun _ => 0 : Nat → Nat) j : Nat) : Int)) := (ho79 _ (by omega)).trans (c82)
  have c89 : f76 (92) = eB tc 2 (fun _ => iI ((0 : Nat) : Int)) := (ho79 _ (by omega)).trans (c83)
  have c90 : f76 (93) = eI tc 64 (fun j => iI (((fun _ => 0 : Nat → Nat) j : Nat) : Int)) := (ho79 _ (by omega)).trans (c84)
  have hA91 : ∀ q, q ≤ 88 → ad q = ad0 q := fun q hq => (hag77 q (by omega)).trans (hA70 q hq)
  have hA92 : ∀ q, q < 88 → f76 q = f q := fun q hq => ((ho79 q (by omega)).trans ((ho74 _ (by omega)))).trans (hA71 q hq)
  rw [← hag77 (88) (by omega)]
  refine r_putF (ty := .array .int) C (by omega) c85 (show vwCl[4]? = some (RX4, TX4, 15) from rfl) m5 tyX4_ok nmX4 7 (by decide) m11 rfl rfl hinit rfl (by decide +kernel) rfl rfl (Nat.le_of_ble_eq_true rfl) dX4_init_52 (fun f93 hs94 ho95 => ?_)
  have c96 : f93 (88) = eO 4 [.ref (ad (89)), .ref (ad (90)), .int (iI ((0 : Nat) : Int)), .ref (ad (91)), .ref (ad (92)), .ref (ad (93)), .int (iI ((0 : Nat) : Int)), .ref (ad (94)), .null, .null, .null, .int (iI ((0 : Nat) : Int)), .int (iI ((0 : Nat) : Int)), .int (iI ((0 : Nat) : Int)), .int (iI ((0 : Nat) : Int))] := hs94
  refine r_aload_n C dX4_init_55 rfl rfl ?_
  refine r_sipush C ((128 : Nat) : Int) (by decide) dX4_init_56 ?_
  have c101 : f93 (89) = eI tc 655 (fun j => iI (((fun _ => 0 : Nat → Nat) j : Nat) : Int)) := (ho95 _ (by omega)).trans c86
  have c102 : f93 (90) = eI tc 3930 (fun j => iI (((fun _ => 0 : Nat → Nat) j : Nat) : Int)) := (ho95 _ (by omega)).trans c87
  have c103 : f93 (91) = eI tc 1310 (fun j => iI (((fun _ => 0 : Nat → Nat) j : Nat) : Int)) := (ho95 _ (by omega)).trans c88
  have c104 : f93 (92) = eB tc 2 (fun _ => iI ((0 : Nat) : Int)) := (ho95 _ (by omega)).trans c89
  have c105 : f93 (93) = eI tc 64 (fun j => iI (((fun _ => 0 : Nat → Nat) j : Nat) : Int)) := (ho95 _ (by omega)).trans c90
  have c106 : f93 (94) = eI tc 128 (fun j => iI (((fun _ => 0 : Nat → Nat) j : Nat) : Int)) := (ho95 _ (by omega)).trans hs78
  refine r_newI C 128 rfl (by decide) m3 ⟨by show 6 + 1 ≤ 9; omega, by show 6089 + 128 ≤ 6347; omega⟩ dX4_init_59 (fun ad f97 hag98 hs99 ho100 => ?_)
  have c107 : f97 (88) = eO 4 [.ref (ad (89)), .ref (ad (90)), .int (iI ((0 : Nat) : Int)), .ref (ad (91)), .ref (ad (92)), .ref (ad (93)), .int (iI ((0 : Nat) : Int)), .ref (ad (94)), .null, .null, .null, .int (iI ((0 : Nat) : Int)), .int (iI ((0 : Nat) : Int)), .int (iI ((0 : Nat) : Int)), .int (iI ((0 : Nat) : Int))] := (ho100 _ (by omega)).trans (c96.trans (by rw [hag98 (89) (by omega), hag98 (90) (by omega), hag98 (91) (by omega), hag98 (92) (by omega), hag98 (93) (by omega), hag98 (94) (by omega)]))
  have c108 : f97 (89) = eI tc 655 (fun j => iI (((fun _ => 0 : Nat → Nat) j : Nat) : Int)) := (ho100 _ (by omega)).trans (c101)
  have c109 : f97 (90) = eI tc 3930 (fun j => iI (((fun _ => 0 : Nat → Nat) j : Nat) : Int)) := (ho100 _ (by omega)).trans (c102)
  have c110 : f97 (91) = eI tc 1310 (fun j => iI (((fun _ => 0 : Nat → Nat) j : Nat) : Int)) := (ho100 _ (by omega)).trans (c103)
  have c111 : f97 (92) = eB tc 2 (fun _ => iI ((0 : Nat) : Int)) := (ho100 _ (by omega)).trans (c104)
  have c112 : f97 (93) = eI tc 64 (fun j => iI (((fun _ => 0 : Nat → Nat) j : Nat) : Int)) := (ho100 _ (by omega)).trans (c105)
  have c113 : f97 (94) = eI tc 128 (fun j => iI (((fun _ => 0 : Nat → Nat) j : Nat) : Int)) := (ho100 _ (by omega)).trans (c106)
  have hA114 : ∀ q, q ≤ 88 → ad q = ad0 q := fun q hq => (hag98 q (by omega)).trans (hA91 q hq)
  have hA115 : ∀ q, q < 88 → f97 q = f q := fun q hq => ((ho100 q (by omega)).trans ((ho95 _ (by omega)))).trans (hA92 q hq)
  rw [← hag98 (88) (by omega)]
  refine r_putF (ty := .array .int) C (by omega) c107 (show vwCl[4]? = some (RX4, TX4, 15) from rfl) m5 tyX4_ok nmX4 8 (by decide) m12 rfl rfl hinit rfl (by decide +kernel) rfl rfl (Nat.le_of_ble_eq_true rfl) dX4_init_61 (fun f116 hs117 ho118 => ?_)
  have c119 : f116 (88) = eO 4 [.ref (ad (89)), .ref (ad (90)), .int (iI ((0 : Nat) : Int)), .ref (ad (91)), .ref (ad (92)), .ref (ad (93)), .int (iI ((0 : Nat) : Int)), .ref (ad (94)), .ref (ad (95)), .null, .null, .int (iI ((0 : Nat) : Int)), .int (iI ((0 : Nat) : Int)), .int (iI ((0 : Nat) : Int)), .int (iI ((0 : Nat) : Int))] := hs117
  refine r_aload_n C dX4_init_64 rfl rfl ?_
  refine r_sipush C ((128 : Nat) : Int) (by decide) dX4_init_65 ?_
  have c124 : f116 (89) = eI tc 655 (fun j => iI (((fun _ => 0 : Nat → Nat) j : Nat) : Int)) := (ho118 _ (by omega)).trans c108
  have c125 : f116 (90) = eI tc 3930 (fun j => iI (((fun _ => 0 : Nat → Nat) j : Nat) : Int)) := (ho118 _ (by omega)).trans c109
  have c126 : f116 (91) = eI tc 1310 (fun j => iI (((fun _ => 0 : Nat → Nat) j : Nat) : Int)) := (ho118 _ (by omega)).trans c110
  have c127 : f116 (92) = eB tc 2 (fun _ => iI ((0 : Nat) : Int)) := (ho118 _ (by omega)).trans c111
  have c128 : f116 (93) = eI tc 64 (fun j => iI (((fun _ => 0 : Nat → Nat) j : Nat) : Int)) := (ho118 _ (by omega)).trans c112
  have c129 : f116 (94) = eI tc 128 (fun j => iI (((fun _ => 0 : Nat → Nat) j : Nat) : Int)) := (ho118 _ (by omega)).trans c113
  have c130 : f116 (95) = eI tc 128 (fun j => iI (((fun _ => 0 : Nat → Nat) j : Nat) : Int)) := (ho118 _ (by omega)).trans hs99
  refine r_newI C 128 rfl (by decide) m3 ⟨by show 7 + 1 ≤ 9; omega, by show 6217 + 128 ≤ 6347; omega⟩ dX4_init_68 (fun ad f120 hag121 hs122 ho123 => ?_)
  have c131 : f120 (88) = eO 4 [.ref (ad (89)), .ref (ad (90)), .int (iI ((0 : Nat) : Int)), .ref (ad (91)), .ref (ad (92)), .ref (ad (93)), .int (iI ((0 : Nat) : Int)), .ref (ad (94)), .ref (ad (95)), .null, .null, .int (iI ((0 : Nat) : Int)), .int (iI ((0 : Nat) : Int)), .int (iI ((0 : Nat) : Int)), .int (iI ((0 : Nat) : Int))] := (ho123 _ (by omega)).trans (c119.trans (by rw [hag121 (89) (by omega), hag121 (90) (by omega), hag121 (91) (by omega), hag121 (92) (by omega), hag121 (93) (by omega), hag121 (94) (by omega), hag121 (95) (by omega)]))
  have c132 : f120 (89) = eI tc 655 (fun j => iI (((fun _ => 0 : Nat → Nat) j : Nat) : Int)) := (ho123 _ (by omega)).trans (c124)
  have c133 : f120 (90) = eI tc 3930 (fun j => iI (((fun _ => 0 : Nat → Nat) j : Nat) : Int)) := (ho123 _ (by omega)).trans (c125)
  have c134 : f120 (91) = eI tc 1310 (fun j => iI (((fun _ => 0 : Nat → Nat) j : Nat) : Int)) := (ho123 _ (by omega)).trans (c126)
  have c135 : f120 (92) = eB tc 2 (fun _ => iI ((0 : Nat) : Int)) := (ho123 _ (by omega)).trans (c127)
  have c136 : f120 (93) = eI tc 64 (fun j => iI (((fun _ => 0 : Nat → Nat) j : Nat) : Int)) := (ho123 _ (by omega)).trans (c128)
  have c137 : f120 (94) = eI tc 128 (fun j => iI (((fun _ => 0 : Nat → Nat) j : Nat) : Int)) := (ho123 _ (by omega)).trans (c129)
  have c138 : f120 (95) = eI tc 128 (fun j => iI (((fun _ => 0 : Nat → Nat) j : Nat) : Int)) := (ho123 _ (by omega)).trans (c130)
  have hA139 : ∀ q, q ≤ 88 → ad q = ad0 q := fun q hq => (hag121 q (by omega)).trans (hA114 q hq)
  have hA140 : ∀ q, q < 88 → f120 q = f q := fun q hq => ((ho123 q (by omega)).trans ((ho118 _ (by omega)))).trans (hA115 q hq)
  rw [← hag121 (88) (by omega)]
  refine r_putF (ty := .array .int) C (by omega) c131 (show vwCl[4]? = some (RX4, TX4, 15) from rfl) m5 tyX4_ok nmX4 9 (by decide) m13 rfl rfl hinit rfl (by decide +kernel) rfl rfl (Nat.le_of_ble_eq_true rfl) dX4_init_70 (fun f141 hs142 ho143 => ?_)
  have c144 : f141 (88) = eO 4 [.ref (ad (89)), .ref (ad (90)), .int (iI ((0 : Nat) : Int)), .ref (ad (91)), .ref (ad (92)), .ref (ad (93)), .int (iI ((0 : Nat) : Int)), .ref (ad (94)), .ref (ad (95)), .ref (ad (96)), .null, .int (iI ((0 : Nat) : Int)), .int (iI ((0 : Nat) : Int)), .int (iI ((0 : Nat) : Int)), .int (iI ((0 : Nat) : Int))] := hs142
  refine r_aload_n C dX4_init_73 rfl rfl ?_
  refine r_iconst C ((2 : Nat) : Int) (by decide) dX4_init_74 ?_
  have c149 : f141 (89) = eI tc 655 (fun j => iI (((fun _ => 0 : Nat → Nat) j : Nat) : Int)) := (ho143 _ (by omega)).trans c132
  have c150 : f141 (90) = eI tc 3930 (fun j => iI (((fun _ => 0 : Nat → Nat) j : Nat) : Int)) := (ho143 _ (by omega)).trans c133
  have c151 : f141 (91) = eI tc 1310 (fun j => iI (((fun _ => 0 : Nat → Nat) j : Nat) : Int)) := (ho143 _ (by omega)).trans c134
  have c152 : f141 (92) = eB tc 2 (fun _ => iI ((0 : Nat) : Int)) := (ho143 _ (by omega)).trans c135
  have c153 : f141 (93) = eI tc 64 (fun j => iI (((fun _ => 0 : Nat → Nat) j : Nat) : Int)) := (ho143 _ (by omega)).trans c136
  have c154 : f141 (94) = eI tc 128 (fun j => iI (((fun _ => 0 : Nat → Nat) j : Nat) : Int)) := (ho143 _ (by omega)).trans c137
  have c155 : f141 (95) = eI tc 128 (fun j => iI (((fun _ => 0 : Nat → Nat) j : Nat) : Int)) := (ho143 _ (by omega)).trans c138
  have c156 : f141 (96) = eI tc 128 (fun j => iI (((fun _ => 0 : Nat → Nat) j : Nat) : Int)) := (ho143 _ (by omega)).trans hs122
  refine r_newI C 2 rfl (by decide) m3 ⟨by show 8 + 1 ≤ 9; omega, by show 6345 + 2 ≤ 6347; omega⟩ dX4_init_75 (fun ad f145 hag146 hs147 ho148 => ?_)
  have c157 : f145 (88) = eO 4 [.ref (ad (89)), .ref (ad (90)), .int (iI ((0 : Nat) : Int)), .ref (ad (91)), .ref (ad (92)), .ref (ad (93)), .int (iI ((0 : Nat) : Int)), .ref (ad (94)), .ref (ad (95)), .ref (ad (96)), .null, .int (iI ((0 : Nat) : Int)), .int (iI ((0 : Nat) : Int)), .int (iI ((0 : Nat) : Int)), .int (iI ((0 : Nat) : Int))] := (ho148 _ (by omega)).trans (c144.trans (by rw [hag146 (89) (by omega), hag146 (90) (by omega), hag146 (91) (by omega), hag146 (92) (by omega), hag146 (93) (by omega), hag146 (94) (by omega), hag146 (95) (by omega), hag146 (96) (by omega)]))
  have c158 : f145 (89) = eI tc 655 (fun j => iI (((fun _ => 0 : Nat → Nat) j : Nat) : Int)) := (ho148 _ (by omega)).trans (c149)
  have c159 : f145 (90) = eI tc 3930 (fun j => iI (((fun _ => 0 : Nat → Nat) j : Nat) : Int)) := (ho148 _ (by omega)).trans (c150)
  have c160 : f145 (91) = eI tc 1310 (fun j => iI (((fun _ => 0 : Nat → Nat) j : Nat) : Int)) := (ho148 _ (by omega)).trans (c151)
  have c161 : f145 (92) = eB tc 2 (fun _ => iI ((0 : Nat) : Int)) := (ho148 _ (by omega)).trans (c152)
  have c162 : f145 (93) = eI tc 64 (fun j => iI (((fun _ => 0 : Nat → Nat) j : Nat) : Int)) := (ho148 _ (by omega)).trans (c153)
  have c163 : f145 (94) = eI tc 128 (fun j => iI (((fun _ => 0 : Nat → Nat) j : Nat) : Int)) := (ho148 _ (by omega)).trans (c154)
  have c164 : f145 (95) = eI tc 128 (fun j => iI (((fun _ => 0 : Nat → Nat) j : Nat) : Int)) := (ho148 _ (by omega)).trans (c155)
  have c165 : f145 (96) = eI tc 128 (fun j => iI (((fun _ => 0 : Nat → Nat) j : Nat) : Int)) := (ho148 _ (by omega)).trans (c156)
  have hA166 : ∀ q, q ≤ 88 → ad q = ad0 q := fun q hq => (hag146 q (by omega)).trans (hA139 q hq)
  have hA167 : ∀ q, q < 88 → f145 q = f q := fun q hq => ((ho148 q (by omega)).trans ((ho143 _ (by omega)))).trans (hA140 q hq)
  rw [← hag146 (88) (by omega)]
  refine r_putF (ty := .array .int) C (by omega) c157 (show vwCl[4]? = some (RX4, TX4, 15) from rfl) m5 tyX4_ok nmX4 10 (by decide) m14 rfl rfl hinit rfl (by decide +kernel) rfl rfl (Nat.le_of_ble_eq_true rfl) dX4_init_77 (fun f168 hs169 ho170 => ?_)
  have c171 : f168 (88) = eO 4 [.ref (ad (89)), .ref (ad (90)), .int (iI ((0 : Nat) : Int)), .ref (ad (91)), .ref (ad (92)), .ref (ad (93)), .int (iI ((0 : Nat) : Int)), .ref (ad (94)), .ref (ad (95)), .ref (ad (96)), .ref (ad (97)), .int (iI ((0 : Nat) : Int)), .int (iI ((0 : Nat) : Int)), .int (iI ((0 : Nat) : Int)), .int (iI ((0 : Nat) : Int))] := hs169
  refine r_aload_n C dX4_init_80 rfl rfl ?_
  refine r_get (v := .ref (ad (89))) C (by omega) c171 (show vwCl[4]? = some (RX4, TX4, 15) from rfl) m5 0 (by decide) m4 rfl rfl dX4_init_81 ?_
  refine r_iconst C ((0 : Nat) : Int) (by decide) dX4_init_84 ?_
  refine r_iconst C ((3 : Nat) : Int) (by decide) dX4_init_85 ?_
  have c172 : f168 (89) = eI tc 655 (fun j => iI (((fun _ => 0 : Nat → Nat) j : Nat) : Int)) := (ho170 _ (by omega)).trans c158
  refine r_iast C (by omega) c172 (0) rfl (by omega) (Nat.le_of_ble_eq_true rfl) dX4_init_86 (fun f173 hs174 ho175 => ?_)
  have c176 : f173 (89) = eI tc 655 (fun j => iI (((upN ((fun _ => 0 : Nat → Nat)) (0) (3)) j : Nat) : Int)) := hs174.trans (congrArg (fun g => eI tc 655 g) (updN _ _ _))
  refine r_aload_n C dX4_init_87 rfl rfl ?_
  have c177 : f173 (88) = eO 4 [.ref (ad (89)), .ref (ad (90)), .int (iI ((0 : Nat) : Int)), .ref (ad (91)), .ref (ad (92)), .ref (ad (93)), .int (iI ((0 : Nat) : Int)), .ref (ad (94)), .ref (ad (95)), .ref (ad (96)), .ref (ad (97)), .int (iI ((0 : Nat) : Int)), .int (iI ((0 : Nat) : Int)), .int (iI ((0 : Nat) : Int)), .int (iI ((0 : Nat) : Int))] := (ho175 _ (by omega)).trans c171
  refine r_get (v := .ref (ad (89))) C (by omega) c177 (show vwCl[4]? = some (RX4, TX4, 15) from rfl) m5 0 (by decide) m4 rfl rfl dX4_init_88 ?_
  refine r_iconst C ((1 : Nat) : Int) (by decide) dX4_init_91 ?_
  refine r_bipush C ((8 : Nat) : Int) (by decide) dX4_init_92 ?_
  refine r_iast C (by omega) c176 (1) rfl (by omega) (Nat.le_of_ble_eq_true rfl) dX4_init_94 (fun f178 hs179 ho180 => ?_)
  have c181 : f178 (89) = eI tc 655 (fun j => iI (((upN ((upN ((fun _ => 0 : Nat → Nat)) (0) (3))) (1) (8)) j : Nat) : Int)) := hs179.trans (congrArg (fun g => eI tc 655 g) (updN _ _ _))
  refine r_aload_n C dX4_init_95 rfl rfl ?_
  have c182 : f178 (88) = eO 4 [.ref (ad (89)), .ref (ad (90)), .int (iI ((0 : Nat) : Int)), .ref (ad (91)), .ref (ad (92)), .ref (ad (93)), .int (iI ((0 : Nat) : Int)), .ref (ad (94)), .ref (ad (95)), .ref (ad (96)), .ref (ad (97)), .int (iI ((0 : Nat) : Int)), .int (iI ((0 : Nat) : Int)), .int (iI ((0 : Nat) : Int)), .int (iI ((0 : Nat) : Int))] := (ho180 _ (by omega)).trans c177
  refine r_get (v := .ref (ad (89))) C (by omega) c182 (show vwCl[4]? = some (RX4, TX4, 15) from rfl) m5 0 (by decide) m4 rfl rfl dX4_init_96 ?_
  refine r_iconst C ((2 : Nat) : Int) (by decide) dX4_init_99 ?_
  refine r_sipush C ((7919 : Nat) : Int) (by decide) dX4_init_100 ?_
  refine r_iast C (by omega) c181 (2) rfl (by omega) (Nat.le_of_ble_eq_true rfl) dX4_init_103 (fun f183 hs184 ho185 => ?_)
  have c186 : f183 (89) = eI tc 655 (fun j => iI (((upN ((upN ((upN ((fun _ => 0 : Nat → Nat)) (0) (3))) (1) (8))) (2) (7919)) j : Nat) : Int)) := hs184.trans (congrArg (fun g => eI tc 655 g) (updN _ _ _))
  refine r_aload_n C dX4_init_104 rfl rfl ?_
  have c187 : f183 (88) = eO 4 [.ref (ad (89)), .ref (ad (90)), .int (iI ((0 : Nat) : Int)), .ref (ad (91)), .ref (ad (92)), .ref (ad (93)), .int (iI ((0 : Nat) : Int)), .ref (ad (94)), .ref (ad (95)), .ref (ad (96)), .ref (ad (97)), .int (iI ((0 : Nat) : Int)), .int (iI ((0 : Nat) : Int)), .int (iI ((0 : Nat) : Int)), .int (iI ((0 : Nat) : Int))] := (ho185 _ (by omega)).trans c182
  refine r_get (v := .ref (ad (89))) C (by omega) c187 (show vwCl[4]? = some (RX4, TX4, 15) from rfl) m5 0 (by decide) m4 rfl rfl dX4_init_105 ?_
  refine r_iconst C ((3 : Nat) : Int) (by decide) dX4_init_108 ?_
  refine r_ldc C ((104729 : Nat) : Int) (by decide) m15 dX4_init_109 ?_
  refine r_iast C (by omega) c186 (3) rfl (by omega) (Nat.le_of_ble_eq_true rfl) dX4_init_111 (fun f188 hs189 ho190 => ?_)
  have c191 : f188 (89) = eI tc 655 (fun j => iI (((upN ((upN ((upN ((upN ((fun _ => 0 : Nat → Nat)) (0) (3))) (1) (8))) (2) (7919))) (3) (104729)) j : Nat) : Int)) := hs189.trans (congrArg (fun g => eI tc 655 g) (updN _ _ _))
  have c192 : f188 89 = eI tc 655 (fun j => iI ((nwF n0 j : Nat) : Int)) := c191.trans (congrArg (fun g : Nat → Nat => eI tc 655 (fun j => iI ((g j : Nat) : Int))) now_0)
  have c193 : f188 (88) = eO 4 [.ref (ad (89)), .ref (ad (90)), .int (iI ((0 : Nat) : Int)), .ref (ad (91)), .ref (ad (92)), .ref (ad (93)), .int (iI ((0 : Nat) : Int)), .ref (ad (94)), .ref (ad (95)), .ref (ad (96)), .ref (ad (97)), .int (iI ((0 : Nat) : Int)), .int (iI ((0 : Nat) : Int)), .int (iI ((0 : Nat) : Int)), .int (iI ((0 : Nat) : Int))] := (ho190 _ (by omega)).trans c187
  have c194 : f168 (90) = eI tc 3930 (fun j => iI (((fun _ => 0 : Nat → Nat) j : Nat) : Int)) := (ho170 _ (by omega)).trans c159
  have c195 : f173 (90) = eI tc 3930 (fun j => iI (((fun _ => 0 : Nat → Nat) j : Nat) : Int)) := (ho175 _ (by omega)).trans c194
  have c196 : f178 (90) = eI tc 3930 (fun j => iI (((fun _ => 0 : Nat → Nat) j : Nat) : Int)) := (ho180 _ (by omega)).trans c195
  have c197 : f183 (90) = eI tc 3930 (fun j => iI (((fun _ => 0 : Nat → Nat) j : Nat) : Int)) := (ho185 _ (by omega)).trans c196
  have c198 : f188 (90) = eI tc 3930 (fun j => iI (((fun _ => 0 : Nat → Nat) j : Nat) : Int)) := (ho190 _ (by omega)).trans c197
  have c199 : f168 (91) = eI tc 1310 (fun j => iI (((fun _ => 0 : Nat → Nat) j : Nat) : Int)) := (ho170 _ (by omega)).trans c160
  have c200 : f173 (91) = eI tc 1310 (fun j => iI (((fun _ => 0 : Nat → Nat) j : Nat) : Int)) := (ho175 _ (by omega)).trans c199
  have c201 : f178 (91) = eI tc 1310 (fun j => iI (((fun _ => 0 : Nat → Nat) j : Nat) : Int)) := (ho180 _ (by omega)).trans c200
  have c202 : f183 (91) = eI tc 1310 (fun j => iI (((fun _ => 0 : Nat → Nat) j : Nat) : Int)) := (ho185 _ (by omega)).trans c201
  have c203 : f188 (91) = eI tc 1310 (fun j => iI (((fun _ => 0 : Nat → Nat) j : Nat) : Int)) := (ho190 _ (by omega)).trans c202
  have c204 : f168 (92) = eB tc 2 (fun _ => iI ((0 : Nat) : Int)) := (ho170 _ (by omega)).trans c161
  have c205 : f173 (92) = eB tc 2 (fun _ => iI ((0 : Nat) : Int)) := (ho175 _ (by omega)).trans c204
  have c206 : f178 (92) = eB tc 2 (fun _ => iI ((0 : Nat) : Int)) := (ho180 _ (by omega)).trans c205
  have c207 : f183 (92) = eB tc 2 (fun _ => iI ((0 : Nat) : Int)) := (ho185 _ (by omega)).trans c206
  have c208 : f188 (92) = eB tc 2 (fun _ => iI ((0 : Nat) : Int)) := (ho190 _ (by omega)).trans c207
  have c209 : f168 (93) = eI tc 64 (fun j => iI (((fun _ => 0 : Nat → Nat) j : Nat) : Int)) := (ho170 _ (by omega)).trans c162
  have c210 : f173 (93) = eI tc 64 (fun j => iI (((fun _ => 0 : Nat → Nat) j : Nat) : Int)) := (ho175 _ (by omega)).trans c209
  have c211 : f178 (93) = eI tc 64 (fun j => iI (((fun _ => 0 : Nat → Nat) j : Nat) : Int)) := (ho180 _ (by omega)).trans c210
  have c212 : f183 (93) = eI tc 64 (fun j => iI (((fun _ => 0 : Nat → Nat) j : Nat) : Int)) := (ho185 _ (by omega)).trans c211
  have c213 : f188 (93) = eI tc 64 (fun j => iI (((fun _ => 0 : Nat → Nat) j : Nat) : Int)) := (ho190 _ (by omega)).trans c212
  have c214 : f168 (94) = eI tc 128 (fun j => iI (((fun _ => 0 : Nat → Nat) j : Nat) : Int)) := (ho170 _ (by omega)).trans c163
  have c215 : f173 (94) = eI tc 128 (fun j => iI (((fun _ => 0 : Nat → Nat) j : Nat) : Int)) := (ho175 _ (by omega)).trans c214
  have c216 : f178 (94) = eI tc 128 (fun j => iI (((fun _ => 0 : Nat → Nat) j : Nat) : Int)) := (ho180 _ (by omega)).trans c215
  have c217 : f183 (94) = eI tc 128 (fun j => iI (((fun _ => 0 : Nat → Nat) j : Nat) : Int)) := (ho185 _ (by omega)).trans c216
  have c218 : f188 (94) = eI tc 128 (fun j => iI (((fun _ => 0 : Nat → Nat) j : Nat) : Int)) := (ho190 _ (by omega)).trans c217
  have c219 : f168 (95) = eI tc 128 (fun j => iI (((fun _ => 0 : Nat → Nat) j : Nat) : Int)) := (ho170 _ (by omega)).trans c164
  have c220 : f173 (95) = eI tc 128 (fun j => iI (((fun _ => 0 : Nat → Nat) j : Nat) : Int)) := (ho175 _ (by omega)).trans c219
  have c221 : f178 (95) = eI tc 128 (fun j => iI (((fun _ => 0 : Nat → Nat) j : Nat) : Int)) := (ho180 _ (by omega)).trans c220
  have c222 : f183 (95) = eI tc 128 (fun j => iI (((fun _ => 0 : Nat → Nat) j : Nat) : Int)) := (ho185 _ (by omega)).trans c221
  have c223 : f188 (95) = eI tc 128 (fun j => iI (((fun _ => 0 : Nat → Nat) j : Nat) : Int)) := (ho190 _ (by omega)).trans c222
  have c224 : f168 (96) = eI tc 128 (fun j => iI (((fun _ => 0 : Nat → Nat) j : Nat) : Int)) := (ho170 _ (by omega)).trans c165
  have c225 : f173 (96) = eI tc 128 (fun j => iI (((fun _ => 0 : Nat → Nat) j : Nat) : Int)) := (ho175 _ (by omega)).trans c224
  have c226 : f178 (96) = eI tc 128 (fun j => iI (((fun _ => 0 : Nat → Nat) j : Nat) : Int)) := (ho180 _ (by omega)).trans c225
  have c227 : f183 (96) = eI tc 128 (fun j => iI (((fun _ => 0 : Nat → Nat) j : Nat) : Int)) := (ho185 _ (by omega)).trans c226
  have c228 : f188 (96) = eI tc 128 (fun j => iI (((fun _ => 0 : Nat → Nat) j : Nat) : Int)) := (ho190 _ (by omega)).trans c227
  have c229 : f168 (97) = eI tc 2 (fun j => iI (((fun _ => 0 : Nat → Nat) j : Nat) : Int)) := (ho170 _ (by omega)).trans hs147
  have c230 : f173 (97) = eI tc 2 (fun j => iI (((fun _ => 0 : Nat → Nat) j : Nat) : Int)) := (ho175 _ (by omega)).trans c229
  have c231 : f178 (97) = eI tc 2 (fun j => iI (((fun _ => 0 : Nat → Nat) j : Nat) : Int)) := (ho180 _ (by omega)).trans c230
  have c232 : f183 (97) = eI tc 2 (fun j => iI (((fun _ => 0 : Nat → Nat) j : Nat) : Int)) := (ho185 _ (by omega)).trans c231
  have c233 : f188 (97) = eI tc 2 (fun j => iI (((fun _ => 0 : Nat → Nat) j : Nat) : Int)) := (ho190 _ (by omega)).trans c232
  exact hret ad _ f188 _ _ dX4_init_112 ⟨rfl, rfl, fun q hq => (hA166 q hq).trans (by rw [had0]), ⟨⟨_, _, _, _, c193⟩, c192, ⟨_, c198, fun k hk => absurd hk (Nat.not_lt_zero _)⟩, ⟨_, c203, fun k _ hk => absurd hk Bool.false_ne_true⟩, ⟨_, c208, fun k _ => rfl⟩, c213, ⟨_, _, _, _, c218, c223, c228, c233⟩⟩, fun q hq => ((((((ho190 _ (by omega))).trans (ho185 _ (by omega))).trans (ho180 _ (by omega))).trans (ho175 _ (by omega))).trans (ho170 _ (by omega))).trans (hA167 q hq)⟩
end INI
