section XG1
theorem jI0_bit (j : Nat) : (jI 0).toBitVec.getLsbD j = false := by
  show (BitVec.ofInt 64 0).getLsbD j = false
  simp
theorem shl_tp : ∀ {k : Nat}, k < 64 → ((jI 1) <<< ((iI ((k : Nat) : Int)).toInt64 &&& 63)).toBitVec = BitVec.twoPow 64 k := by
  have h : ∀ k, k < 64 → ((jI 1) <<< ((iI ((k : Nat) : Int)).toInt64 &&& 63)).toBitVec = BitVec.twoPow 64 k := by decide +kernel
  exact fun {k} hk => h k hk
theorem bit_or2 (x y : Int64) (j : Nat) : (x ||| y).toBitVec.getLsbD j = (x.toBitVec.getLsbD j || y.toBitVec.getLsbD j) := by
  show (x.toBitVec ||| y.toBitVec).getLsbD j = _
  rw [BitVec.getLsbD_or]
theorem bit_or {x : Int64} {k j : Nat} (hk : k < 64) (hj : j < 64) : ((x) ||| ((jI 1) <<< ((iI ((k : Nat) : Int)).toInt64 &&& 63))).toBitVec.getLsbD j = (x.toBitVec.getLsbD j || decide (j = k)) := by
  rw [bit_or2, shl_tp hk, BitVec.getLsbD_twoPow]
  simp [hk, eq_comm]
theorem lcmp_0 (a b : Int64) : (lg_cmp a b).toInt = 0 ↔ a = b := by
  rw [← lg_cmp_eq a b, ← Int32.toInt_inj]
  rfl
theorem and_bit {x : Int64} {k : Nat} (hk : k < 64) : (x &&& ((jI 1) <<< ((iI ((k : Nat) : Int)).toInt64 &&& 63))) = jI 0 ↔ x.toBitVec.getLsbD k = false := by
  rw [← Int64.toBitVec_inj]
  show x.toBitVec &&& ((jI 1) <<< ((iI ((k : Nat) : Int)).toInt64 &&& 63)).toBitVec = (jI 0).toBitVec ↔ _
  rw [shl_tp hk, BitVec.and_twoPow]
  cases h : x.toBitVec.getLsbD k
  · simp; rfl
  · simp
    intro e
    have e2 : (BitVec.twoPow 64 k).getLsbD k = ((jI 0).toBitVec).getLsbD k := by rw [e]
    rw [jI0_bit, BitVec.getLsbD_twoPow] at e2
    simp [hk] at e2
theorem eq_bit {x : Int64} {k : Nat} (hk : k < 64) (h : (lg_cmp ((x) &&& ((jI 1) <<< ((iI ((k : Nat) : Int)).toInt64 &&& 63))) (jI 0)).toInt = 0) : x.toBitVec.getLsbD k = false := (and_bit hk).mp ((lcmp_0 _ _).mp h)
theorem ne_bit {x : Int64} {k : Nat} (hk : k < 64) (h : ¬ (lg_cmp ((x) &&& ((jI 1) <<< ((iI ((k : Nat) : Int)).toInt64 &&& 63))) (jI 0)).toInt = 0) : x.toBitVec.getLsbD k = true := by
  cases h2 : x.toBitVec.getLsbD k
  · exact absurd ((lcmp_0 _ _).mpr ((and_bit hk).mpr h2)) h
  · rfl
/-- a pair ahead of (r, r + 1 + d) is farther than lim -/
def FB (n : NS) (lim : Int) (j r d : Nat) : Prop := ∃ r' o', r' < o' ∧ o' < n.2.2.2 ∧ (r' < r ∨ (r' = r ∧ o' < r + 1 + d)) ∧ lim < ((err (wds n r') (wds n o') j : Nat) : Int)
theorem fb_in {n : NS} {lim : Int} {j r : Nat} : FB n lim j r 0 ↔ FB n lim j r 0 := Iff.rfl
theorem fb_out {n : NS} {lim : Int} {j r d : Nat} (h : n.2.2.2 ≤ r + 1 + d) : FB n lim j r d ↔ FB n lim j (r + 1) 0 :=
  ⟨fun ⟨r', o', a, b, c, e⟩ => ⟨r', o', a, b, Or.inl (by omega), e⟩, fun ⟨r', o', a, b, c, e⟩ => ⟨r', o', a, b, by omega, e⟩⟩
theorem fb_step {n : NS} {lim : Int} {j r d : Nat} {x y z : Bool} (h : x = true ↔ FB n lim j r d) (hy : y = true ↔ lim < ((err (wds n r) (wds n (r + 1 + d)) j : Nat) : Int)) (hz : z = (x || y)) (hd : r + 1 + d < n.2.2.2) : z = true ↔ FB n lim j r (d + 1) := by
  rw [hz, Bool.or_eq_true, h, hy]
  constructor
  · rintro (⟨r', o', a, b, c, e⟩ | e)
    · exact ⟨r', o', a, b, by omega, e⟩
    · exact ⟨r, r + 1 + d, by omega, hd, Or.inr ⟨rfl, by omega⟩, e⟩
  · rintro ⟨r', o', a, b, c, e⟩
    by_cases q : r' = r ∧ o' = r + 1 + d
    · rw [q.1, q.2] at e
      exact Or.inr e
    · exact Or.inl ⟨r', o', a, b, by omega, e⟩
def okK (n : NS) (lim : Int) (j : Nat) : Bool := decide (∀ r, r < n.2.2.2 → ∀ o, o < n.2.2.2 → r < o → ((err (wds n r) (wds n o) j : Nat) : Int) ≤ lim)
theorem okK_no {n : NS} {lim : Int} {j : Nat} {x : Bool} (h : x = true ↔ FB n lim j n.2.2.2 0) (hx : x = true) : okK n lim j = false := by
  obtain ⟨r, o, a, b, c, e⟩ := h.mp hx
  unfold okK
  rw [decide_eq_false_iff_not]
  intro q
  have := q r (by omega) o b a
  omega
theorem okK_yes {n : NS} {lim : Int} {j : Nat} {x : Bool} (h : x = true ↔ FB n lim j n.2.2.2 0) (hx : x = false) : okK n lim j = true := by
  unfold okK
  rw [decide_eq_true_eq]
  intro r hr o ho hro
  rcases Int.lt_or_le lim ((err (wds n r) (wds n o) j : Nat) : Int) with q | q
  · have := h.mpr ⟨r, o, hro, ho, Or.inl hr, q⟩
    rw [hx] at this
    cases this
  · exact q
def aBst (s : SG) (lim : Int) : Int := if 0 ≤ lim ∧ lim ≤ 10000 then (if frst (fun j => okK (cur s) lim (j + 1)) 32 < 32 then ((frst (fun j => okK (cur s) lim (j + 1)) 32 + 1 : Nat) : Int) else -6) else -2
theorem bst_hit {s : SG} {lim : Int} {k : Nat} (h : 0 ≤ lim ∧ lim ≤ 10000) (h1 : 1 ≤ k) (h2 : k ≤ 32) (hno : ∀ j, 1 ≤ j → j < k → okK (cur s) lim j = false) (hk : okK (cur s) lim k = true) : aBst s lim = ((k : Nat) : Int) := by
  have e : frst (fun j => okK (cur s) lim (j + 1)) 32 = k - 1 := frst_eq (by omega) (fun j hj => hno _ (by omega) (by omega)) (fun _ => by show okK (cur s) lim (k - 1 + 1) = true; rw [Nat.sub_add_cancel h1]; exact hk)
  unfold aBst
  rw [if_pos h, e, if_pos (by omega), Nat.sub_add_cancel h1]
theorem bst_no {s : SG} {lim : Int} (h : 0 ≤ lim ∧ lim ≤ 10000) (hno : ∀ j, 1 ≤ j → j ≤ 32 → okK (cur s) lim j = false) : aBst s lim = -6 := by
  have e : frst (fun j => okK (cur s) lim (j + 1)) 32 = 32 := frst_eq (by omega) (fun j hj => hno _ (by omega) (by omega)) (fun h => absurd h (by omega))
  unfold aBst
  rw [if_pos h, e, if_neg (by omega)]
theorem fb_bit_nat (n j : Nat) : n &&& 2 ^ j = 0 ↔ n.testBit j = false := by
  constructor
  · intro h
    have h1 : (n &&& 2 ^ j).testBit j = false := by rw [h]; simp
    rw [Nat.testBit_and] at h1
    simpa using h1
  · intro h
    apply Nat.eq_of_testBit_eq
    intro i
    rw [Nat.testBit_and, Nat.testBit_two_pow]
    by_cases e : j = i
    · subst e
      simp [h]
    · simp [e]
theorem bit_t {n j : Nat} (h : ¬ n &&& 2 ^ j = 0) : n.testBit j = true := by
  cases h2 : n.testBit j
  · exact absurd ((fb_bit_nat n j).mpr h2) h
  · rfl
theorem iI_and (a b : Nat) : iI ((a : Nat) : Int) &&& iI ((b : Nat) : Int) = iI ((a &&& b : Nat) : Int) := by
  rw [iI_nat, iI_nat, iI_nat]
  apply Int32.toBitVec_inj.1
  show BitVec.ofNat 32 a &&& BitVec.ofNat 32 b = BitVec.ofNat 32 (a &&& b)
  apply BitVec.eq_of_getLsbD_eq
  intro i hi
  simp [hi]
theorem big_bit {n i : Nat} (h : n < 1024) (hi : 10 ≤ i) : n.testBit i = false := Nat.testBit_lt_two_pow (Nat.lt_of_lt_of_le h (show 2 ^ 10 ≤ 2 ^ i from Nat.pow_le_pow_right (by omega) hi))
theorem iI_anx {a b : Nat} (ha : a < 1024) (hb : b < 1024) : iI ((a : Nat) : Int) &&& (iI ((b : Nat) : Int) ^^^ iI (-1)) = iI ((a &&& (b ^^^ 1023) : Nat) : Int) := by
  rw [iI_nat, iI_nat, iI_nat]
  apply Int32.toBitVec_inj.1
  show BitVec.ofNat 32 a &&& (BitVec.ofNat 32 b ^^^ BitVec.allOnes 32) = BitVec.ofNat 32 (a &&& (b ^^^ 1023))
  apply BitVec.eq_of_getLsbD_eq
  intro i hi
  have e : (1023 : Nat).testBit i = decide (i < 10) := by
    rw [show (1023 : Nat) = 2 ^ 10 - 1 from rfl, Nat.testBit_two_pow_sub_one]
  simp only [BitVec.getLsbD_and, BitVec.getLsbD_xor, BitVec.getLsbD_ofNat, BitVec.getLsbD_allOnes, Nat.testBit_and, Nat.testBit_xor, e, hi, decide_true, Bool.true_and]
  by_cases h : i < 10
  · simp [h]
  · rw [big_bit ha (by omega)]
    rfl
def lwi (m : Nat) : Nat := if frst (fun j => m.testBit j) 10 < 10 then frst (fun j => m.testBit j) 10 else 0
theorem lwi_hit {m k : Nat} (hk : k < 10) (h : ∀ j, j < k → m.testBit j = false) (h2 : m.testBit k = true) : lwi m = k := by
  have e : frst (fun j => m.testBit j) 10 = k := frst_eq (by omega) h (fun _ => h2)
  unfold lwi
  rw [e, if_pos hk]
theorem lwi_no {m : Nat} (h : ∀ j, j < 10 → m.testBit j = false) : lwi m = 0 := by
  have e : frst (fun j => m.testBit j) 10 = 10 := frst_eq (by omega) h (fun q => absurd q (by omega))
  unfold lwi
  rw [e, if_neg (by omega)]
theorem lwi_bit {m i : Nat} (hi : i < 10) (h : m.testBit i = true) : m.testBit (lwi m) = true ∧ ∀ j, m.testBit j = true → lwi m ≤ j := by
  have h1 : frst (fun j => m.testBit j) 10 < 10 := by
    rcases Nat.lt_or_ge (frst (fun j => m.testBit j) 10) 10 with q | q
    · exact q
    · have := frst_no (fun j => m.testBit j) 10 i (by omega)
      rw [h] at this
      cases this
  unfold lwi
  rw [if_pos h1]
  refine ⟨frst_yes (fun j => m.testBit j) 10 h1, fun j hj => ?_⟩
  rcases Nat.lt_or_ge j (frst (fun j => m.testBit j) 10) with q | q
  · have := frst_no (fun j => m.testBit j) 10 j q
    rw [hj] at this
    cases this
  · exact q
def tal (e : Nat → Bool) : Nat → Nat
  | 0 => 0
  | k + 1 => if e k = true then tal e k ||| 2 ^ k else tal e k
theorem tal_new {e : Nat → Bool} {k : Nat} (h : e k = true) : tal e (k + 1) = tal e k ||| 2 ^ k := by rw [tal, if_pos h]
theorem tal_old {e : Nat → Bool} {k : Nat} (h : e k = false) : tal e (k + 1) = tal e k := by rw [tal, if_neg (by rw [h]; decide)]
theorem tal_bit {e : Nat → Bool} {j : Nat} : ∀ k, (tal e k).testBit j = (decide (j < k) && e j)
  | 0 => by simp [tal]
  | k + 1 => by
    rw [tal]
    split
    · rename_i h
      rw [Nat.testBit_or, tal_bit k, Nat.testBit_two_pow]
      by_cases q : k = j
      · subst q
        simp [h]
      · simp [q]
        congr 1
        rw [decide_eq_decide]
        omega
    · rename_i h
      rw [tal_bit k]
      by_cases q : k = j
      · subst q
        simp at h
        simp [h]
      · congr 1
        rw [decide_eq_decide]
        omega
/-- rows that are told near enough -/
def edg (n : NS) (lim : Int) (i o : Nat) : Bool := decide (lim ≤ ((tol (wds n i) (wds n o) (n.1 1) : Nat) : Int))
/-- g is the lowest of the least set that holds r and is closed -/
def clo (ed : Nat → Nat → Bool) (R : Nat) (D : Nat → Prop) : Prop := ∀ i, i < R → D i → ∀ j, j < R → ed i j = true → D j
def isG (ed : Nat → Nat → Bool) (R r g : Nat) : Prop := ∃ C : Nat → Prop, C r ∧ clo ed R C ∧ (∀ D : Nat → Prop, D r → clo ed R D → ∀ i, C i → D i) ∧ C g ∧ ∀ j, C j → g ≤ j
theorem isG_one {ed : Nat → Nat → Bool} {R r g g' : Nat} (h : isG ed R r g) (h' : isG ed R r g') : g = g' := by
  obtain ⟨C, a, b, c, d, e⟩ := h
  obtain ⟨C', a', b', c', d', e'⟩ := h'
  exact Nat.le_antisymm (e _ (c' C a b _ d')) (e' _ (c C' a' b' _ d))
noncomputable def grp (ed : Nat → Nat → Bool) (R r : Nat) : Nat := Classical.epsilon (fun g => isG ed R r g)
theorem grp_eq {ed : Nat → Nat → Bool} {R r g : Nat} (h : isG ed R r g) : grp ed R r = g := isG_one (Classical.epsilon_spec (p := fun g => isG ed R r g) ⟨g, h⟩) h
noncomputable def aGrp (s : SG) (z lim : Int) : Int := if isR s z then (if 0 ≤ lim ∧ lim ≤ 10000 then ((grp (edg (cur s) lim) (cur s).2.2.2 z.toNat : Nat) : Int) else -2) else -1
def cnb (p : Nat → Bool) : Nat → Nat
  | 0 => 0
  | n + 1 => cnb p n + (if p n = true then 1 else 0)
theorem cnb_le (p : Nat → Bool) : ∀ n, cnb p n ≤ n
  | 0 => Nat.le_refl _
  | n + 1 => by
    have := cnb_le p n
    rw [cnb]
    split <;> omega
theorem cnb_all {p : Nat → Bool} : ∀ {n : Nat}, cnb p n = n → ∀ j, j < n → p j = true
  | 0, _, j, h => absurd h (Nat.not_lt_zero _)
  | n + 1, h, j, hj => by
    have h1 := cnb_le p n
    rw [cnb] at h
    split at h
    · rcases Nat.lt_or_ge j n with q | q
      · exact cnb_all (by omega) j q
      · have : j = n := by omega
        subst this
        assumption
    · omega
theorem cnb_cong {p p' : Nat → Bool} : ∀ {n : Nat}, (∀ j, j < n → p j = p' j) → cnb p n = cnb p' n
  | 0, _ => rfl
  | n + 1, h => by rw [cnb, cnb, cnb_cong (fun j hj => h j (by omega)), h n (by omega)]
theorem cnb_up {p p' : Nat → Bool} {i : Nat} (h0 : p i = false) (h1 : p' i = true) (h : ∀ j, j ≠ i → p' j = p j) : ∀ {n : Nat}, i < n → cnb p' n = cnb p n + 1
  | 0, hi => absurd hi (Nat.not_lt_zero _)
  | n + 1, hi => by
    rw [cnb, cnb]
    rcases Nat.lt_or_ge i n with q | q
    · rw [cnb_up h0 h1 h q, h n (by omega)]
      omega
    · have e : i = n := by omega
      subst e
      rw [cnb_cong (fun j hj => h j (by omega)), h0, h1]
      simp
/-- reached m, followed q, k of them -/
def GS (ed : Nat → Nat → Bool) (R r m q k : Nat) : Prop := (∀ j, m.testBit j = true → j < R) ∧ m.testBit r = true ∧ (∀ j, q.testBit j = true → m.testBit j = true) ∧ (∀ D : Nat → Prop, D r → clo ed R D → ∀ i, m.testBit i = true → D i) ∧ (∀ i, q.testBit i = true → ∀ j, j < R → ed i j = true → m.testBit j = true) ∧ cnb (fun j => q.testBit j) R = k ∧ r < R
theorem bits_lt {m R : Nat} (hR : R ≤ 10) (h : ∀ j, m.testBit j = true → j < R) : m < 1024 := by
  show m < 2 ^ 10
  apply Nat.lt_pow_two_of_testBit
  intro i hi
  cases h2 : m.testBit i
  · rfl
  · have := h i h2
    omega
theorem GS_lt {ed : Nat → Nat → Bool} {R r m q k : Nat} (hR : R ≤ 10) (h : GS ed R r m q k) : m < 1024 ∧ q < 1024 := ⟨bits_lt hR h.1, bits_lt hR (fun j hj => h.1 j (h.2.2.1 j hj))⟩
theorem GS_0 {ed : Nat → Nat → Bool} {R r : Nat} (hr : r < R) : GS ed R r (2 ^ r) 0 0 := by
  have hb : ∀ j, (2 ^ r).testBit j = true ↔ r = j := fun j => by rw [Nat.testBit_two_pow]; simp
  refine ⟨fun j hj => by rw [← (hb j).mp hj]; exact hr, (hb r).mpr rfl, fun j hj => by simp at hj, fun D h1 _ i hi => by rw [← (hb i).mp hi]; exact h1, fun i hi => by simp at hi, ?_, hr⟩
  have h : ∀ n, cnb (fun j => (0 : Nat).testBit j) n = 0 := by
    intro n
    induction n with
    | zero => rfl
    | succ n ih => rw [cnb, ih]; simp
  exact h R
theorem GS_nx {ed : Nat → Nat → Bool} {R r m q k : Nat} (hR : R ≤ 10) (h : GS ed R r m q k) (hne : ¬ m = q) : m.testBit (lwi (m &&& (q ^^^ 1023))) = true ∧ q.testBit (lwi (m &&& (q ^^^ 1023))) = false ∧ lwi (m &&& (q ^^^ 1023)) < R := by
  have hl := GS_lt hR h
  have hb : ∀ j, (m &&& (q ^^^ 1023)).testBit j = (m.testBit j && (q.testBit j ^^ decide (j < 10))) := by
    intro j
    rw [Nat.testBit_and, Nat.testBit_xor, show (1023 : Nat) = 2 ^ 10 - 1 from rfl, Nat.testBit_two_pow_sub_one]
  have hex : ∃ i, i < 10 ∧ (m &&& (q ^^^ 1023)).testBit i = true := by
    apply Classical.byContradiction
    intro hn
    apply hne
    apply Nat.eq_of_testBit_eq
    intro i
    cases hm : m.testBit i
    · cases hq : q.testBit i
      · rfl
      · have := h.2.2.1 i hq
        rw [hm] at this
        cases this
    · cases hq : q.testBit i
      · exfalso
        have hi : i < 10 := by have := h.1 i hm; omega
        exact hn ⟨i, hi, by rw [hb, hm, hq]; simp [hi]⟩
      · rfl
  obtain ⟨i, hi, h1⟩ := hex
  have h2 := (lwi_bit hi h1).1
  rw [hb, Bool.and_eq_true] at h2
  have h3 := h.1 _ h2.1
  refine ⟨h2.1, ?_, h3⟩
  have h4 := h2.2
  rw [show decide (lwi (m &&& (q ^^^ 1023)) < 10) = true from decide_eq_true (by omega)] at h4
  simpa using h4
theorem GS_s {n : NS} {lim : Int} {R r m q k : Nat} (hR : R ≤ 10) (h : GS (edg n lim) R r m q k) (hne : ¬ m = q) : GS (edg n lim) R r (m ||| tal (fun o => decide (lim ≤ ((tol (wds n (lwi (m &&& (q ^^^ 1023)))) (wds n o) (n.1 1) : Nat) : Int))) R) (q ||| 2 ^ (lwi (m &&& (q ^^^ 1023)))) (k + 1) := by
  obtain ⟨h1, h2, h3⟩ := GS_nx hR h hne
  generalize hx : lwi (m &&& (q ^^^ 1023)) = x at h1 h2 h3 ⊢
  obtain ⟨a1, a2, a3, a4, a5, a6, a7⟩ := h
  have hb : ∀ j, (m ||| tal (fun o => decide (lim ≤ ((tol (wds n x) (wds n o) (n.1 1) : Nat) : Int))) R).testBit j = (m.testBit j || (decide (j < R) && edg n lim x j)) := fun j => by rw [Nat.testBit_or, tal_bit]; rfl
  have hq : ∀ j, (q ||| 2 ^ x).testBit j = (q.testBit j || decide (x = j)) := fun j => by rw [Nat.testBit_or, Nat.testBit_two_pow]
  refine ⟨fun j hj => ?_, by rw [hb, a2]; rfl, fun j hj => ?_, fun D d1 d2 i hi => ?_, fun i hi j hj he => ?_, ?_, a7⟩
  · rw [hb, Bool.or_eq_true, Bool.and_eq_true] at hj
    rcases hj with hj | hj
    · exact a1 j hj
    · simpa using hj.1
  · rw [hq, Bool.or_eq_true] at hj
    rw [hb, Bool.or_eq_true]
    rcases hj with hj | hj
    · exact Or.inl (a3 j hj)
    · have e : x = j := by simpa using hj
      exact Or.inl (by rw [← e]; exact h1)
  · rw [hb, Bool.or_eq_true, Bool.and_eq_true] at hi
    rcases hi with hi | hi
    · exact a4 D d1 d2 i hi
    · exact d2 x h3 (a4 D d1 d2 x h1) i (by simpa using hi.1) hi.2
  · rw [hq, Bool.or_eq_true] at hi
    rw [hb, Bool.or_eq_true]
    rcases hi with hi | hi
    · exact Or.inl (a5 i hi j hj he)
    · have e : x = i := by simpa using hi
      exact Or.inr (by rw [Bool.and_eq_true]; exact ⟨decide_eq_true hj, by rw [e]; exact he⟩)
  · rw [← a6]
    exact cnb_up (i := x) h2 (by show (q ||| 2 ^ x).testBit x = true; rw [hq]; simp) (fun j hj => by show (q ||| 2 ^ x).testBit j = q.testBit j; rw [hq]; simp [Ne.symm hj]) h3
theorem GS_end {ed : Nat → Nat → Bool} {R r m q k : Nat} (hR : R ≤ 10) (hk : k ≤ R) (h : GS ed R r m q k) (he : R ≤ k ∨ m = q) : isG ed R r (lwi m) := by
  obtain ⟨a1, a2, a3, a4, a5, a6, a7⟩ := h
  have hl := lwi_bit (m := m) (i := r) (by omega) a2
  refine ⟨fun j => m.testBit j = true, a2, fun i hi hm j hj hee => ?_, a4, hl.1, hl.2⟩
  rcases he with he | he
  · exact a5 i (cnb_all (p := fun j => q.testBit j) (n := R) (by omega) i hi) j hj hee
  · exact a5 i (by rw [← he]; exact hm) j hj hee
theorem r_lcmp {X : XT} {G : va_G} {tc : Nat → ClassId} {l : Launch} {cc : ByteArray} {own : String} {Ts : List Cond} {nL : Nat} {R : Room} {ad : Nat → Nat} {N : Nat} {f : Nat → va_E} {k n pc : Nat} {lv : List (Nat × Value)} {st : List Value} (C : CC X G tc l cc own Ts nL R) {x y : Int64} (hdg : decode cc pc = .ok (.lcmp, 1)) (kk : VV X ad N f k n (pc + 1) lv (.int (lg_cmp x y) :: st)) : VV X ad N f k n pc lv (.long y :: .long x :: st) :=
  fun H locs ls hP hD hS hl => W.lcmp C.2.1.1 C.2.1.2.1 hdg (kk H locs ls hP hD hS hl)
set_option maxHeartbeats 4000000 in
set_option maxRecDepth 100000 in
/-- keptBeyond(pair, lim) -/
theorem c_X3_keptBeyond (G : va_G) (tc : Nat → ClassId) (l : Launch) (ad : Nat → Nat) (N : Nat) (f : Nat → va_E) (a b : WW) (ha64 : a.1 ≤ 64) (hb64 : b.1 ≤ 64) (ha : ∀ j, j < a.1 → a.2.1 j < 1000003) (hb : ∀ j, j < b.1 → b.2.1 j < 1000003) (hN : 98 ≤ N) (hp : isPr tc ad f a b) (lim : Int) (hlim : inR lim)   : Ct G tc l yX3_keptBeyond wsX3_keptBeyond { frames := 5, cells := 0, slots := 0, locals := 104 } 0 0 [.ref (ad (83)), .int (iI (lim))] ad N f (poJ ad N (fun x => ∀ j, 1 ≤ j → j ≤ 32 → (x.toBitVec.getLsbD j = true ↔ lim < ((err a b j : Nat) : Int))) (fun f' => f' = f)) := by
  obtain ⟨d1, d2, d3, p0, p1, p2, p3, hd⟩ := id hp
  refine stJ (cc := cX3_keptBeyond) (maxL := 5) (lv := [(0, .ref (ad (83))), (1, .int (iI (lim)))]) (by decide) rfl (Nat.le_of_ble_eq_true rfl) rfl (fun X C hret => ?_)
  refine r_lconst C 0 (by decide) dX3_keptBeyond_0 ?_
  refine r_lstore_n (lv' := [(0, .ref (ad (83))), (1, .int (iI (lim))), (2, .long (jI 0))]) C dX3_keptBeyond_1 rfl (by decide) rfl ?_
  refine r_iconst C ((1 : Nat) : Int) (by decide) dX3_keptBeyond_2 ?_
  refine r_istore (lv' := [(0, .ref (ad (83))), (1, .int (iI (lim))), (2, .long (jI 0)), (4, .int (iI ((1 : Nat) : Int)))]) C dX3_keptBeyond_3 (by decide) rfl ?_
  have hL1 : ∀ (m_2 : Nat) (k : Nat) (x : Int64) (hk1 : 1 ≤ k) (hk : k ≤ 33) (hx : ∀ j, 1 ≤ j → j < k → (x.toBitVec.getLsbD j = true ↔ lim < ((err a b j : Nat) : Int))) (hx2 : ∀ j, k ≤ j → j ≤ 32 → x.toBitVec.getLsbD j = false), 33 - k < m_2 → VV X ad N f 0 0 5 [(0, .ref (ad (83))), (1, .int (iI (lim))), (2, .long (x)), (4, .int (iI ((k : Nat) : Int)))] [] := by
    intro m_2
    induction m_2 with
    | zero => intros; omega
    | succ m_2 ih3 =>
      intro k x hk1 hk hx hx2 hm4
      refine r_iload C dX3_keptBeyond_5 rfl ?_
      refine r_bipush C ((32 : Nat) : Int) (by decide) dX3_keptBeyond_7 ?_
      refine r_icmp_gt (tgt := 35) C ⟨by omega, by omega⟩ ⟨by omega, by omega⟩ dX3_keptBeyond_9 (by decide) (fun b5 => ?_) (fun b5 => ?_)
      · refine r_lload_n C dX3_keptBeyond_35 rfl rfl ?_
        exact hret f _ _ _ dX3_keptBeyond_36 (fun j g1 g2 => hx j g1 (by omega)) rfl
      · refine r_aload_n C dX3_keptBeyond_12 rfl rfl ?_
        refine r_iload C dX3_keptBeyond_13 rfl ?_
        refine r_callV (As := [.int (iI ((k : Nat) : Int))]) (rest := []) (na := 1) C (c_X0_errorOfTold G tc l ad N _ a b ha64 hb64 ha hb hN hp k hk1 (by omega)) gX3_keptBeyond_X0_errorOfTold rfl rfl rfl (by decide +kernel) ⟨Nat.le_of_ble_eq_true rfl, Nat.le_of_ble_eq_true rfl⟩ (by omega) p0 (show vwCl[0]? = some (RX0, TX0, 7) from rfl) rfl rfl (Nat.le_of_ble_eq_true rfl) dX3_keptBeyond_15 ⟨Nat.le_of_ble_eq_true rfl, Nat.le_of_ble_eq_true rfl⟩ (aft_I (fun f6 hF7 => ?_))
        rw [hF7]
        have her := err_le ha64 hb64 ha hb k
        refine r_iload_n C dX3_keptBeyond_18 rfl rfl ?_
        refine r_icmp_le (tgt := 29) C ⟨by omega, by omega⟩ ⟨by omega, by omega⟩ dX3_keptBeyond_19 (by decide) (fun b8 => ?_) (fun b8 => ?_)
        · refine r_iinc (lv' := [(0, .ref (ad (83))), (1, .int (iI (lim))), (2, .long (x)), (4, .int (iI ((k + 1 : Nat) : Int)))]) C ((k + 1 : Nat) : Int) (by omega) dX3_keptBeyond_29 rfl (by decide) rfl ?_
          refine r_goto (tgt := 5) C dX3_keptBeyond_32 (by decide) ?_
          exact ih3 (k + 1) x (by omega) (by omega) (fun j g1 g2 => if h : j = k then (by rw [h, hx2 k (Nat.le_refl _) (by omega)]; exact ⟨fun q => absurd q (by decide), fun q => absurd q (by omega)⟩) else hx j g1 (by omega)) (fun j g1 g2 => hx2 j (by omega) g2) (by omega)
        · have b_kb : lim < ((err a b k : Nat) : Int) := by omega
          refine r_lload_n C dX3_keptBeyond_22 rfl rfl ?_
          refine r_lconst C 1 (by decide) dX3_keptBeyond_23 ?_
          refine r_iload C dX3_keptBeyond_24 rfl ?_
          refine r_lshl C dX3_keptBeyond_26 ?_
          refine r_lor C dX3_keptBeyond_27 ?_
          refine r_lstore_n (lv' := [(0, .ref (ad (83))), (1, .int (iI (lim))), (2, .long ((x) ||| ((jI 1) <<< (((iI ((k : Nat) : Int))).toInt64 &&& 63)))), (4, .int (iI ((k : Nat) : Int)))]) C dX3_keptBeyond_28 rfl (by decide) rfl ?_
          refine r_iinc (lv' := [(0, .ref (ad (83))), (1, .int (iI (lim))), (2, .long ((x) ||| ((jI 1) <<< (((iI ((k : Nat) : Int))).toInt64 &&& 63)))), (4, .int (iI ((k + 1 : Nat) : Int)))]) C ((k + 1 : Nat) : Int) (by omega) dX3_keptBeyond_29 rfl (by decide) rfl ?_
          refine r_goto (tgt := 5) C dX3_keptBeyond_32 (by decide) ?_
          exact ih3 (k + 1) ((x) ||| ((jI 1) <<< (((iI ((k : Nat) : Int))).toInt64 &&& 63))) (by omega) (by omega) (fun j g1 g2 => if h : j = k then (by rw [bit_or (by omega) (by omega), h]; simp; exact b_kb) else (by rw [bit_or (by omega) (by omega)]; simp [h]; exact hx j g1 (by omega))) (fun j g1 g2 => by rw [bit_or (by omega) (by omega), hx2 j (by omega) g2]; simp; omega) (by omega)
  exact hL1 _ 1 (jI 0) (by omega) (by omega) (fun j h1 h2 => absurd h2 (by omega)) (fun j h1 h2 => jI0_bit j) (Nat.lt_succ_self _)
set_option maxHeartbeats 4000000 in
set_option maxRecDepth 100000 in
/-- bestKept -/
theorem c_X3_bestKept (G : va_G) (tc : Nat → ClassId) (l : Launch) (ad : Nat → Nat) (N : Nat) (f : Nat → va_E) (s : SG) (hX : XI tc ad f s) (ho : okS s) (hN : 98 ≤ N) (lim : Int) (hlim : inR lim)   : Ct G tc l yX3_bestKept wsX3_bestKept { frames := 6, cells := 0, slots := 0, locals := 128 } 0 0 [.ref (ad (0)), .int (iI (lim))] ad N f (poI ad N (aBst s lim) (fun f' => XI tc ad f' s ∧ ∀ q, 88 ≤ q → f' q = f q)) := by
  obtain ⟨h0, ⟨h1, h2, h3, h4⟩, hHis, hSlo, h40, hWds, hPr, hHd⟩ := id hX
  obtain ⟨⟨⟨a1, a2⟩, ⟨a3, a4⟩, ⟨a5, a6⟩, a7, a8, a9, a10⟩, o2, o3, o4, o5, o6⟩ := id ho
  refine stI (cc := cX3_bestKept) (maxL := 6) (lv := [(0, .ref (ad (0))), (1, .int (iI (lim)))]) (by decide) rfl (Nat.le_of_ble_eq_true rfl) rfl (fun X C hret => ?_)
  have m0 : Cond.fieldLink RX3 10 "WordSamples" "now" "LWordSamples$State;" ∈ wsX3_bestKept := by decide +kernel
  have m1 : ∀ w ∈ wsX30, w ∈ wsX3_bestKept := by decide +kernel
  have m2 : Cond.fieldLink RX3 74 "WordSamples$State" "rows" "I" ∈ wsX3_bestKept := by decide +kernel
  have m3 : ∀ w ∈ wsX10, w ∈ wsX3_bestKept := by decide +kernel
  refine r_iload_n C dX3_bestKept_0 rfl rfl ?_
  refine r_if_lt (tgt := 11) C ⟨by omega, by omega⟩ dX3_bestKept_1 (by decide) (fun b1 => ?_) (fun b1 => ?_)
  · refine r_bipush C ((-2)) (by decide) dX3_bestKept_11 ?_
    exact hret f ((-2)) _ _ dX3_bestKept_13 (by unfold aBst; rw [if_neg (by omega)]) (⟨hX, fun _ _ => rfl⟩)
  · refine r_iload_n C dX3_bestKept_4 rfl rfl ?_
    refine r_sipush C ((10000 : Nat) : Int) (by decide) dX3_bestKept_5 ?_
    refine r_icmp_le (tgt := 14) C ⟨by omega, by omega⟩ ⟨by omega, by omega⟩ dX3_bestKept_8 (by decide) (fun b2 => ?_) (fun b2 => ?_)
    · refine r_lconst C 0 (by decide) dX3_bestKept_14 ?_
      refine r_lstore_n (lv' := [(0, .ref (ad (0))), (1, .int (iI (lim))), (2, .long (jI 0))]) C dX3_bestKept_15 rfl (by decide) rfl ?_
      refine r_iconst C ((0 : Nat) : Int) (by decide) dX3_bestKept_16 ?_
      refine r_istore (lv' := [(0, .ref (ad (0))), (1, .int (iI (lim))), (2, .long (jI 0)), (4, .int (iI ((0 : Nat) : Int)))]) C dX3_bestKept_17 (by decide) rfl ?_
      have hL5 : ∀ (m_6 : Nat) (r : Nat) (x : Int64) (f3 : Nat → va_E) (ho4 : ∀ q, 88 ≤ q → f3 q = f q) (hXl : XI tc ad f3 s) (hr : r ≤ (cur s).2.2.2) (hb : ∀ j, 1 ≤ j → j ≤ 32 → (x.toBitVec.getLsbD j = true ↔ FB (cur s) lim j r 0)), (cur s).2.2.2 - r < m_6 → VV X ad N f3 0 0 19 [(0, .ref (ad (0))), (1, .int (iI (lim))), (2, .long (x)), (4, .int (iI ((r : Nat) : Int)))] [] := by
        intro m_6
        induction m_6 with
        | zero => intros; omega
        | succ m_6 ih7 =>
          intro r x f3 ho4 hXl hr hb hm8
          obtain ⟨x9, ⟨x10, x11, x12, x13⟩, -⟩ := id hXl
          refine r_iload C dX3_bestKept_19 rfl ?_
          refine r_aload_n C dX3_bestKept_21 rfl rfl ?_
          refine r_get (v := .ref (ad (1))) C (by omega) x9 (show vwCl[3]? = some (RX3, TX3, 11) from rfl) m1 0 (by decide) m0 rfl rfl dX3_bestKept_22 ?_
          refine r_get (v := .int (iI (((cur s).2.2.2 : Nat) : Int))) C (by omega) x10 (show vwCl[1]? = some (RX1, TX1, 4) from rfl) m3 3 (by decide) m2 rfl rfl dX3_bestKept_25 ?_
          refine r_icmp_ge (tgt := 76) C ⟨by omega, by omega⟩ ⟨by omega, by omega⟩ dX3_bestKept_28 (by decide) (fun b14 => ?_) (fun b14 => ?_)
          · have hre : r = (cur s).2.2.2 := by omega
            have hxf := hb
            rw [hre] at hxf
            refine r_iconst C ((1 : Nat) : Int) (by decide) dX3_bestKept_76 ?_
            refine r_istore (lv' := [(0, .ref (ad (0))), (1, .int (iI (lim))), (2, .long (x)), (4, .int (iI ((1 : Nat) : Int)))]) C dX3_bestKept_77 (by decide) rfl ?_
            have hL15 : ∀ (m_16 : Nat) (k : Nat) (hk1 : 1 ≤ k) (hk : k ≤ 33) (hno : ∀ j, 1 ≤ j → j < k → okK (cur s) lim j = false), 33 - k < m_16 → VV X ad N f3 0 0 79 [(0, .ref (ad (0))), (2, .long (x)), (4, .int (iI ((k : Nat) : Int)))] [] := by
              intro m_16
              induction m_16 with
              | zero => intros; omega
              | succ m_16 ih17 =>
                intro k hk1 hk hno hm18
                refine r_iload C dX3_bestKept_79 rfl ?_
                refine r_bipush C ((32 : Nat) : Int) (by decide) dX3_bestKept_81 ?_
                refine r_icmp_gt (tgt := 106) C ⟨by omega, by omega⟩ ⟨by omega, by omega⟩ dX3_bestKept_83 (by decide) (fun b19 => ?_) (fun b19 => ?_)
                · refine r_bipush C ((-6)) (by decide) dX3_bestKept_106 ?_
                  exact hret f3 ((-6)) _ _ dX3_bestKept_108 (bst_no (by omega) (fun j g1 g2 => hno j g1 (by omega))).symm (⟨hXl, fun q hq => (ho4 _ (by omega))⟩)
                · refine r_lload_n C dX3_bestKept_86 rfl rfl ?_
                  refine r_lconst C 1 (by decide) dX3_bestKept_87 ?_
                  refine r_iload C dX3_bestKept_88 rfl ?_
                  refine r_lshl C dX3_bestKept_90 ?_
                  refine r_land C dX3_bestKept_91 ?_
                  refine r_lconst C 0 (by decide) dX3_bestKept_92 ?_
                  refine r_lcmp C dX3_bestKept_93 ?_
                  rw [show (.int (lg_cmp ((x) &&& ((jI 1) <<< (((iI ((k : Nat) : Int))).toInt64 &&& 63))) (jI 0)) : Value) = .int (iI ((lg_cmp ((x) &&& ((jI 1) <<< (((iI ((k : Nat) : Int))).toInt64 &&& 63))) (jI 0)).toInt)) from congrArg Value.int (iI_of _)]
                  refine r_if_ne (tgt := 100) C (inR_toInt _) dX3_bestKept_94 (by decide) (fun b_z => ?_) (fun b_z => ?_)
                  · refine r_iinc (lv' := [(0, .ref (ad (0))), (2, .long (x)), (4, .int (iI ((k + 1 : Nat) : Int)))]) C ((k + 1 : Nat) : Int) (by omega) dX3_bestKept_100 rfl (by decide) rfl ?_
                    refine r_goto (tgt := 79) C dX3_bestKept_103 (by decide) ?_
                    exact ih17 (k + 1) (by omega) (by omega) (fun j g1 g2 => if h : j < k then hno j g1 h else (by have e : j = k := (by omega); rw [e]; exact okK_no (hxf k hk1 (by omega)) (ne_bit (by omega) b_z))) (by omega)
                  · refine r_iload C dX3_bestKept_97 rfl ?_
                    exact hret f3 ((k : Nat) : Int) _ _ dX3_bestKept_99 (bst_hit (by omega) hk1 (by omega) hno (okK_yes (hxf k hk1 (by omega)) (eq_bit (by omega) b_z))).symm (⟨hXl, fun q hq => (ho4 _ (by omega))⟩)
            refine r_sub (ks := [0, 2, 3]) (lv' := [(0, .ref (ad (0))), (2, .long (x)), (4, .int (iI ((1 : Nat) : Int)))]) rfl ?_
            exact hL15 _ 1 (by omega) (by omega) (fun j g1 g2 => absurd g2 (by omega)) (Nat.lt_succ_self _)
          · refine r_iload C dX3_bestKept_31 rfl ?_
            refine r_iconst C ((1 : Nat) : Int) (by decide) dX3_bestKept_33 ?_
            refine r_iadd C ((r + 1 : Nat) : Int) (by omega) dX3_bestKept_34 ?_
            refine r_istore (lv' := [(0, .ref (ad (0))), (1, .int (iI (lim))), (2, .long (x)), (4, .int (iI ((r : Nat) : Int))), (5, .int (iI ((r + 1 : Nat) : Int)))]) C dX3_bestKept_35 (by decide) rfl ?_
            have hL22 : ∀ (m_23 : Nat) (d : Nat) (x : Int64) (f20 : Nat → va_E) (ho21 : ∀ q, 88 ≤ q → f20 q = f3 q) (hXm : XI tc ad f20 s) (hd : r + 1 + d ≤ (cur s).2.2.2) (hi : ∀ j, 1 ≤ j → j ≤ 32 → (x.toBitVec.getLsbD j = true ↔ FB (cur s) lim j r d)), (cur s).2.2.2 - (r + 1 + d) < m_23 → VV X ad N f20 0 0 37 [(0, .ref (ad (0))), (1, .int (iI (lim))), (2, .long (x)), (4, .int (iI ((r : Nat) : Int))), (5, .int (iI ((r + 1 + d : Nat) : Int)))] [] := by
              intro m_23
              induction m_23 with
              | zero => intros; omega
              | succ m_23 ih24 =>
                intro d x f20 ho21 hXm hd hi hm25
                obtain ⟨x26, ⟨x27, x28, x29, x30⟩, -⟩ := id hXm
                refine r_iload C dX3_bestKept_37 rfl ?_
                refine r_aload_n C dX3_bestKept_39 rfl rfl ?_
                refine r_get (v := .ref (ad (1))) C (by omega) x26 (show vwCl[3]? = some (RX3, TX3, 11) from rfl) m1 0 (by decide) m0 rfl rfl dX3_bestKept_40 ?_
                refine r_get (v := .int (iI (((cur s).2.2.2 : Nat) : Int))) C (by omega) x27 (show vwCl[1]? = some (RX1, TX1, 4) from rfl) m3 3 (by decide) m2 rfl rfl dX3_bestKept_43 ?_
                refine r_icmp_ge (tgt := 70) C ⟨by omega, by omega⟩ ⟨by omega, by omega⟩ dX3_bestKept_46 (by decide) (fun b31 => ?_) (fun b31 => ?_)
                · refine r_iinc (lv' := [(0, .ref (ad (0))), (1, .int (iI (lim))), (2, .long (x)), (4, .int (iI ((r + 1 : Nat) : Int))), (5, .int (iI ((r + 1 + d : Nat) : Int)))]) C ((r + 1 : Nat) : Int) (by omega) dX3_bestKept_70 rfl (by decide) rfl ?_
                  refine r_goto (tgt := 19) C dX3_bestKept_73 (by decide) ?_
                  refine r_sub (ks := [0, 1, 2, 3]) (lv' := [(0, .ref (ad (0))), (1, .int (iI (lim))), (2, .long (x)), (4, .int (iI ((r + 1 : Nat) : Int)))]) rfl ?_
                  exact ih7 (r + 1) x f20 (fun q hq => ((ho21 _ (by omega))).trans (ho4 _ (by omega))) hXm (by omega) (fun j g1 g2 => (hi j g1 g2).trans (fb_out (by omega))) (by omega)
                · refine r_lload_n C dX3_bestKept_49 rfl rfl ?_
                  refine r_aload_n C dX3_bestKept_50 rfl rfl ?_
                  refine r_iload C dX3_bestKept_51 rfl ?_
                  refine r_iload C dX3_bestKept_53 rfl ?_
                  refine r_callV (As := [.int (iI ((r : Nat) : Int)), .int (iI ((r + 1 + d : Nat) : Int))]) (rest := [.long (x)]) (na := 2) C (c_X3_pairOf G tc l ad N _ s hXm ho hN r (r + 1 + d) (by omega) (by omega)) gX3_bestKept_X3_pairOf rfl rfl rfl (by decide +kernel) ⟨Nat.le_of_ble_eq_true rfl, Nat.le_of_ble_eq_true rfl⟩ (by omega) x26 (show vwCl[3]? = some (RX3, TX3, 11) from rfl) rfl rfl (Nat.le_of_ble_eq_true rfl) dX3_bestKept_55 ⟨Nat.le_of_ble_eq_true rfl, Nat.le_of_ble_eq_true rfl⟩ (aft_A (fun f43 hF44 => ?_))
                  obtain ⟨hx32, hp33, ow34⟩ := hF44
                  obtain ⟨d35, d36, d37, p38, p39, p40, p41, hd42⟩ := id hp33
                  have hehp33 := eb_le (wds_lt (cur s) r) (wds_lt (cur s) (r + 1 + d))
                  have hqhp33 := wds_le ho.1 (r := r) (by omega)
                  have hrhp33 := wds_le ho.1 (r := r + 1 + d) (by omega)
                  have hlhp33 := lcw_le (wds_lt (cur s) r) (wds_lt (cur s) (r + 1 + d)) ((cur s).1 1)
                  have hmhp33 := mcw_le (wds_lt (cur s) r) (wds_lt (cur s) (r + 1 + d)) ((cur s).1 1)
                  refine r_iload_n C dX3_bestKept_58 rfl rfl ?_
                  refine r_callS (As := [.ref (ad (83)), .int (iI (lim))]) (rest := [.long (x)]) (na := 2) C (c_X3_keptBeyond G tc l ad N _ (wds (cur s) r) (wds (cur s) (r + 1 + d)) (wds_le ho.1 (by omega)) (wds_le ho.1 (by omega)) (wds_lt _ _) (wds_lt _ _) hN hp33 lim hlim) gX3_bestKept_X3_keptBeyond rfl rfl rfl (by decide +kernel) ⟨Nat.le_of_ble_eq_true rfl, Nat.le_of_ble_eq_true rfl⟩ rfl rfl (Nat.le_of_ble_eq_true rfl) dX3_bestKept_59 ⟨Nat.le_of_ble_eq_true rfl, Nat.le_of_ble_eq_true rfl⟩ (aft_J (fun f45 y hF46 hy => ?_))
                  rw [hF46]
                  refine r_lor C dX3_bestKept_62 ?_
                  refine r_lstore_n (lv' := [(0, .ref (ad (0))), (1, .int (iI (lim))), (2, .long ((x) ||| (y))), (4, .int (iI ((r : Nat) : Int))), (5, .int (iI ((r + 1 + d : Nat) : Int)))]) C dX3_bestKept_63 rfl (by decide) rfl ?_
                  refine r_iinc (lv' := [(0, .ref (ad (0))), (1, .int (iI (lim))), (2, .long ((x) ||| (y))), (4, .int (iI ((r : Nat) : Int))), (5, .int (iI ((r + 1 + (d + 1) : Nat) : Int)))]) C ((r + 1 + (d + 1) : Nat) : Int) (by omega) dX3_bestKept_64 rfl (by decide) rfl ?_
                  refine r_goto (tgt := 37) C dX3_bestKept_67 (by decide) ?_
                  exact ih24 (d + 1) ((x) ||| (y)) f43 (fun q hq => ((ow34 _ (by omega))).trans (ho21 _ (by omega))) hx32 (by omega) (fun j g1 g2 => fb_step (hi j g1 g2) (hy j g1 g2) (by rw [bit_or2]) (by omega)) (by omega)
            exact hL22 _ 0 x f3 (fun _ _ => rfl) hXl (by omega) (fun j g1 g2 => (hb j g1 g2).trans fb_in) (Nat.lt_succ_self _)
      exact hL5 _ 0 (jI 0) f (fun _ _ => rfl) hX (by omega) (fun j g1 g2 => ⟨fun h => absurd ((jI0_bit j).symm.trans h) (by decide), fun ⟨r, o, h1, h2, h3, _⟩ => absurd h3 (by omega)⟩) (Nat.lt_succ_self _)
    · refine r_bipush C ((-2)) (by decide) dX3_bestKept_11 ?_
      exact hret f ((-2)) _ _ dX3_bestKept_13 (by unfold aBst; rw [if_neg (by omega)]) (⟨hX, fun _ _ => rfl⟩)
set_option maxHeartbeats 4000000 in
set_option maxRecDepth 100000 in
/-- lowestIn(m) -/
theorem c_X3_lowestIn (G : va_G) (tc : Nat → ClassId) (l : Launch) (ad : Nat → Nat) (N : Nat) (f : Nat → va_E) (m : Nat) (hm : m < 1024)   : Ct G tc l yX3_lowestIn wsX3_lowestIn { frames := 0, cells := 0, slots := 0, locals := 0 } 0 0 [.int (iI ((m : Nat) : Int))] ad N f (poI ad N (((lwi m : Nat) : Int)) (fun f' => f' = f)) := by
  refine stI (cc := cX3_lowestIn) (maxL := 2) (lv := [(0, .int (iI ((m : Nat) : Int)))]) (by decide) rfl (Nat.le_of_ble_eq_true rfl) rfl (fun X C hret => ?_)
  refine r_iconst C ((0 : Nat) : Int) (by decide) dX3_lowestIn_0 ?_
  refine r_istore_n (lv' := [(0, .int (iI ((m : Nat) : Int))), (1, .int (iI ((0 : Nat) : Int)))]) C dX3_lowestIn_1 rfl (by decide) rfl ?_
  have hL1 : ∀ (m_2 : Nat) (k : Nat) (hk : k ≤ 10) (hb : ∀ j, j < k → m.testBit j = false), 10 - k < m_2 → VV X ad N f 0 0 2 [(0, .int (iI ((m : Nat) : Int))), (1, .int (iI ((k : Nat) : Int)))] [] := by
    intro m_2
    induction m_2 with
    | zero => intros; omega
    | succ m_2 ih3 =>
      intro k hk hb hm4
      refine r_iload_n C dX3_lowestIn_2 rfl rfl ?_
      refine r_bipush C ((10 : Nat) : Int) (by decide) dX3_lowestIn_3 ?_
      refine r_icmp_ge (tgt := 24) C ⟨by omega, by omega⟩ ⟨by omega, by omega⟩ dX3_lowestIn_5 (by decide) (fun b5 => ?_) (fun b5 => ?_)
      · refine r_iconst C ((0 : Nat) : Int) (by decide) dX3_lowestIn_24 ?_
        exact hret f ((0 : Nat) : Int) _ _ dX3_lowestIn_25 (by rw [lwi_no (fun j hj => hb j (by omega))]) rfl
      · refine r_iload_n C dX3_lowestIn_8 rfl rfl ?_
        refine r_iconst C ((1 : Nat) : Int) (by decide) dX3_lowestIn_9 ?_
        refine r_iload_n C dX3_lowestIn_10 rfl rfl ?_
        refine r_ishl C dX3_lowestIn_11 ?_
        rw [show (.int ((iI ((1 : Nat) : Int)) <<< ((iI ((k : Nat) : Int)) &&& 31)) : Value) = .int (iI ((2 ^ k : Nat) : Int)) from by rw [iI_shl1 (by omega)]]
        refine r_iand C dX3_lowestIn_12 ?_
        rw [show (.int ((iI ((m : Nat) : Int)) &&& (iI ((2 ^ k : Nat) : Int))) : Value) = .int (iI ((m &&& 2 ^ k : Nat) : Int)) from by rw [iI_and]]
        have hle : m &&& 2 ^ k ≤ m := Nat.and_le_left
        refine r_if_eq (tgt := 18) C ⟨by omega, by omega⟩ dX3_lowestIn_13 (by decide) (fun b_z => ?_) (fun b_z => ?_)
        · refine r_iinc (lv' := [(0, .int (iI ((m : Nat) : Int))), (1, .int (iI ((k + 1 : Nat) : Int)))]) C ((k + 1 : Nat) : Int) (by omega) dX3_lowestIn_18 rfl (by decide) rfl ?_
          refine r_goto (tgt := 2) C dX3_lowestIn_21 (by decide) ?_
          exact ih3 (k + 1) (by omega) (fun j hj => if h : j < k then hb j h else (by have e : j = k := (by omega); rw [e]; exact (fb_bit_nat m k).mp (by omega))) (by omega)
        · refine r_iload_n C dX3_lowestIn_16 rfl rfl ?_
          exact hret f ((k : Nat) : Int) _ _ dX3_lowestIn_17 (by rw [lwi_hit (by omega) hb (bit_t (by omega))]) rfl
  exact hL1 _ 0 (by omega) (fun j hj => absurd hj (Nat.not_lt_zero _)) (Nat.lt_succ_self _)
set_option maxHeartbeats 4000000 in
set_option maxRecDepth 100000 in
/-- toldAtLeast(r, lim) -/
theorem c_X3_toldAtLeast (G : va_G) (tc : Nat → ClassId) (l : Launch) (ad : Nat → Nat) (N : Nat) (f : Nat → va_E) (s : SG) (hX : XI tc ad f s) (ho : okS s) (hN : 98 ≤ N) (r : Nat) (hr : r < (cur s).2.2.2) (lim : Int) (hlim : inR lim)   : Ct G tc l yX3_toldAtLeast wsX3_toldAtLeast { frames := 5, cells := 0, slots := 0, locals := 116 } 0 0 [.ref (ad (0)), .int (iI ((r : Nat) : Int)), .int (iI (lim))] ad N f (poI ad N (((tal (fun o => decide (lim ≤ ((tol (wds (cur s) r) (wds (cur s) o) ((cur s).1 1) : Nat) : Int))) ((cur s).2.2.2) : Nat) : Int)) (fun f' => XI tc ad f' s ∧ ∀ q, 88 ≤ q → f' q = f q)) := by
  obtain ⟨h0, ⟨h1, h2, h3, h4⟩, hHis, hSlo, h40, hWds, hPr, hHd⟩ := id hX
  obtain ⟨⟨⟨a1, a2⟩, ⟨a3, a4⟩, ⟨a5, a6⟩, a7, a8, a9, a10⟩, o2, o3, o4, o5, o6⟩ := id ho
  refine stI (cc := cX3_toldAtLeast) (maxL := 5) (lv := [(0, .ref (ad (0))), (1, .int (iI ((r : Nat) : Int))), (2, .int (iI (lim)))]) (by decide) rfl (Nat.le_of_ble_eq_true rfl) rfl (fun X C hret => ?_)
  have m0 : Cond.fieldLink RX3 10 "WordSamples" "now" "LWordSamples$State;" ∈ wsX3_toldAtLeast := by decide +kernel
  have m1 : ∀ w ∈ wsX30, w ∈ wsX3_toldAtLeast := by decide +kernel
  have m2 : Cond.fieldLink RX3 74 "WordSamples$State" "rows" "I" ∈ wsX3_toldAtLeast := by decide +kernel
  have m3 : ∀ w ∈ wsX10, w ∈ wsX3_toldAtLeast := by decide +kernel
  have m4 : Cond.fieldLink RX3 67 "WordSamples$State" "settings" "[I" ∈ wsX3_toldAtLeast := by decide +kernel
  refine r_iconst C ((0 : Nat) : Int) (by decide) dX3_toldAtLeast_0 ?_
  refine r_istore_n (lv' := [(0, .ref (ad (0))), (1, .int (iI ((r : Nat) : Int))), (2, .int (iI (lim))), (3, .int (iI ((0 : Nat) : Int)))]) C dX3_toldAtLeast_1 rfl (by decide) rfl ?_
  refine r_iconst C ((0 : Nat) : Int) (by decide) dX3_toldAtLeast_2 ?_
  refine r_istore (lv' := [(0, .ref (ad (0))), (1, .int (iI ((r : Nat) : Int))), (2, .int (iI (lim))), (3, .int (iI ((0 : Nat) : Int))), (4, .int (iI ((0 : Nat) : Int)))]) C dX3_toldAtLeast_3 (by decide) rfl ?_
  have hL3 : ∀ (m_4 : Nat) (k : Nat) (f1 : Nat → va_E) (ho2 : ∀ q, 88 ≤ q → f1 q = f q) (hXl : XI tc ad f1 s) (hk : k ≤ (cur s).2.2.2), (cur s).2.2.2 - k < m_4 → VV X ad N f1 0 0 5 [(0, .ref (ad (0))), (1, .int (iI ((r : Nat) : Int))), (2, .int (iI (lim))), (3, .int (iI ((tal (fun o => decide (lim ≤ ((tol (wds (cur s) r) (wds (cur s) o) ((cur s).1 1) : Nat) : Int))) k : Nat) : Int))), (4, .int (iI ((k : Nat) : Int)))] [] := by
    intro m_4
    induction m_4 with
    | zero => intros; omega
    | succ m_4 ih5 =>
      intro k f1 ho2 hXl hk hm6
      obtain ⟨x7, ⟨x8, x9, x10, x11⟩, -⟩ := id hXl
      refine r_iload C dX3_toldAtLeast_5 rfl ?_
      refine r_aload_n C dX3_toldAtLeast_7 rfl rfl ?_
      refine r_get (v := .ref (ad (1))) C (by omega) x7 (show vwCl[3]? = some (RX3, TX3, 11) from rfl) m1 0 (by decide) m0 rfl rfl dX3_toldAtLeast_8 ?_
      refine r_get (v := .int (iI (((cur s).2.2.2 : Nat) : Int))) C (by omega) x8 (show vwCl[1]? = some (RX1, TX1, 4) from rfl) m3 3 (by decide) m2 rfl rfl dX3_toldAtLeast_11 ?_
      refine r_icmp_ge (tgt := 53) C ⟨by omega, by omega⟩ ⟨by omega, by omega⟩ dX3_toldAtLeast_14 (by decide) (fun b12 => ?_) (fun b12 => ?_)
      · refine r_iload_n C dX3_toldAtLeast_53 rfl rfl ?_
        exact hret f1 ((tal (fun o => decide (lim ≤ ((tol (wds (cur s) r) (wds (cur s) o) ((cur s).1 1) : Nat) : Int))) k : Nat) : Int) _ _ dX3_toldAtLeast_54 (by rw [show (cur s).2.2.2 = k from by omega]) (⟨hXl, fun q hq => (ho2 _ (by omega))⟩)
      · refine r_aload_n C dX3_toldAtLeast_17 rfl rfl ?_
        refine r_iload_n C dX3_toldAtLeast_18 rfl rfl ?_
        refine r_iload C dX3_toldAtLeast_19 rfl ?_
        refine r_callV (As := [.int (iI ((r : Nat) : Int)), .int (iI ((k : Nat) : Int))]) (rest := []) (na := 2) C (c_X3_pairOf G tc l ad N _ s hXl ho hN r k (by omega) (by omega)) gX3_toldAtLeast_X3_pairOf rfl rfl rfl (by decide +kernel) ⟨Nat.le_of_ble_eq_true rfl, Nat.le_of_ble_eq_true rfl⟩ (by omega) x7 (show vwCl[3]? = some (RX3, TX3, 11) from rfl) rfl rfl (Nat.le_of_ble_eq_true rfl) dX3_toldAtLeast_21 ⟨Nat.le_of_ble_eq_true rfl, Nat.le_of_ble_eq_true rfl⟩ (aft_A (fun f24 hF25 => ?_))
        obtain ⟨hx13, hp14, ow15⟩ := hF25
        obtain ⟨d16, d17, d18, p19, p20, p21, p22, hd23⟩ := id hp14
        have hehp14 := eb_le (wds_lt (cur s) r) (wds_lt (cur s) k)
        have hqhp14 := wds_le ho.1 (r := r) (by omega)
        have hrhp14 := wds_le ho.1 (r := k) (by omega)
        have hlhp14 := lcw_le (wds_lt (cur s) r) (wds_lt (cur s) k) ((cur s).1 1)
        have hmhp14 := mcw_le (wds_lt (cur s) r) (wds_lt (cur s) k) ((cur s).1 1)
        obtain ⟨x26, ⟨x27, x28, x29, x30⟩, -⟩ := id hx13
        refine r_aload_n C dX3_toldAtLeast_24 rfl rfl ?_
        refine r_get (v := .ref (ad (1))) C (by omega) x26 (show vwCl[3]? = some (RX3, TX3, 11) from rfl) m1 0 (by decide) m0 rfl rfl dX3_toldAtLeast_25 ?_
        refine r_get (v := .ref (ad (2))) C (by omega) x27 (show vwCl[1]? = some (RX1, TX1, 4) from rfl) m3 0 (by decide) m4 rfl rfl dX3_toldAtLeast_28 ?_
        refine r_iconst C ((1 : Nat) : Int) (by decide) dX3_toldAtLeast_31 ?_
        refine r_iald (x := (iI (((cur s).1 1 : Nat) : Int))) C (by omega) x28 (1) rfl (by omega) (Nat.le_of_ble_eq_true rfl) (rfl) dX3_toldAtLeast_32 ?_
        refine r_callV (As := [.int (iI (((cur s).1 1 : Nat) : Int))]) (rest := []) (na := 1) C (c_X0_toldShare G tc l ad N _ (wds (cur s) r) (wds (cur s) k) (wds_le ho.1 (by omega)) (wds_le ho.1 (by omega)) (wds_lt _ _) (wds_lt _ _) hN hp14 ((cur s).1 1) a3 a4) gX3_toldAtLeast_X0_toldShare rfl rfl rfl (by decide +kernel) ⟨Nat.le_of_ble_eq_true rfl, Nat.le_of_ble_eq_true rfl⟩ (by omega) p19 (show vwCl[0]? = some (RX0, TX0, 7) from rfl) rfl rfl (Nat.le_of_ble_eq_true rfl) dX3_toldAtLeast_33 ⟨Nat.le_of_ble_eq_true rfl, Nat.le_of_ble_eq_true rfl⟩ (aft_I (fun f31 hF32 => ?_))
        rw [hF32]
        have htl := tol_le (wds_le ho.1 (r := r) (by omega)) (wds_lt (cur s) r) (wds_lt (cur s) k) ((cur s).1 1)
        refine r_iload_n C dX3_toldAtLeast_36 rfl rfl ?_
        refine r_icmp_lt (tgt := 47) C ⟨by omega, by omega⟩ ⟨by omega, by omega⟩ dX3_toldAtLeast_37 (by decide) (fun b33 => ?_) (fun b33 => ?_)
        · refine r_iinc (lv' := [(0, .ref (ad (0))), (1, .int (iI ((r : Nat) : Int))), (2, .int (iI (lim))), (3, .int (iI ((tal (fun o => decide (lim ≤ ((tol (wds (cur s) r) (wds (cur s) o) ((cur s).1 1) : Nat) : Int))) k : Nat) : Int))), (4, .int (iI ((k + 1 : Nat) : Int)))]) C ((k + 1 : Nat) : Int) (by omega) dX3_toldAtLeast_47 rfl (by decide) rfl ?_
          refine r_lveq (lv' := [(0, .ref (ad (0))), (1, .int (iI ((r : Nat) : Int))), (2, .int (iI (lim))), (3, .int (iI ((tal (fun o => decide (lim ≤ ((tol (wds (cur s) r) (wds (cur s) o) ((cur s).1 1) : Nat) : Int))) (k + 1) : Nat) : Int))), (4, .int (iI ((k + 1 : Nat) : Int)))]) (by rw [tal_old (decide_eq_false (by omega))]) ?_
          refine r_goto (tgt := 5) C dX3_toldAtLeast_50 (by decide) ?_
          exact ih5 (k + 1) f24 (fun q hq => ((ow15 _ (by omega))).trans (ho2 _ (by omega))) hx13 (by omega) (by omega)
        · refine r_iload_n C dX3_toldAtLeast_40 rfl rfl ?_
          refine r_iconst C ((1 : Nat) : Int) (by decide) dX3_toldAtLeast_41 ?_
          refine r_iload C dX3_toldAtLeast_42 rfl ?_
          refine r_ishl C dX3_toldAtLeast_44 ?_
          rw [show (.int ((iI ((1 : Nat) : Int)) <<< ((iI ((k : Nat) : Int)) &&& 31)) : Value) = .int (iI ((2 ^ k : Nat) : Int)) from by rw [iI_shl1 (by omega)]]
          refine r_ior C dX3_toldAtLeast_45 ?_
          rw [show (.int ((iI ((tal (fun o => decide (lim ≤ ((tol (wds (cur s) r) (wds (cur s) o) ((cur s).1 1) : Nat) : Int))) k : Nat) : Int)) ||| (iI ((2 ^ k : Nat) : Int))) : Value) = .int (iI ((tal (fun o => decide (lim ≤ ((tol (wds (cur s) r) (wds (cur s) o) ((cur s).1 1) : Nat) : Int))) k ||| 2 ^ k : Nat) : Int)) from by rw [iI_or]]
          refine r_istore_n (lv' := [(0, .ref (ad (0))), (1, .int (iI ((r : Nat) : Int))), (2, .int (iI (lim))), (3, .int (iI ((tal (fun o => decide (lim ≤ ((tol (wds (cur s) r) (wds (cur s) o) ((cur s).1 1) : Nat) : Int))) k ||| 2 ^ k : Nat) : Int))), (4, .int (iI ((k : Nat) : Int)))]) C dX3_toldAtLeast_46 rfl (by decide) rfl ?_
          refine r_iinc (lv' := [(0, .ref (ad (0))), (1, .int (iI ((r : Nat) : Int))), (2, .int (iI (lim))), (3, .int (iI ((tal (fun o => decide (lim ≤ ((tol (wds (cur s) r) (wds (cur s) o) ((cur s).1 1) : Nat) : Int))) k ||| 2 ^ k : Nat) : Int))), (4, .int (iI ((k + 1 : Nat) : Int)))]) C ((k + 1 : Nat) : Int) (by omega) dX3_toldAtLeast_47 rfl (by decide) rfl ?_
          refine r_lveq (lv' := [(0, .ref (ad (0))), (1, .int (iI ((r : Nat) : Int))), (2, .int (iI (lim))), (3, .int (iI ((tal (fun o => decide (lim ≤ ((tol (wds (cur s) r) (wds (cur s) o) ((cur s).1 1) : Nat) : Int))) (k + 1) : Nat) : Int))), (4, .int (iI ((k + 1 : Nat) : Int)))]) (by rw [tal_new (decide_eq_true (by omega))]) ?_
          refine r_goto (tgt := 5) C dX3_toldAtLeast_50 (by decide) ?_
          exact ih5 (k + 1) f24 (fun q hq => ((ow15 _ (by omega))).trans (ho2 _ (by omega))) hx13 (by omega) (by omega)
  exact hL3 _ 0 f (fun _ _ => rfl) hX (by omega) (Nat.lt_succ_self _)
set_option maxHeartbeats 4000000 in
set_option maxRecDepth 100000 in
/-- group -/
theorem c_X3_group (G : va_G) (tc : Nat → ClassId) (l : Launch) (ad : Nat → Nat) (N : Nat) (f : Nat → va_E) (s : SG) (hX : XI tc ad f s) (ho : okS s) (hN : 98 ≤ N) (z lim : Int) (hz : inR z) (hlim : inR lim)   : Ct G tc l yX3_group wsX3_group { frames := 6, cells := 0, slots := 0, locals := 140 } 0 0 [.ref (ad (0)), .int (iI (z)), .int (iI (lim))] ad N f (poI ad N (aGrp s z lim) (fun f' => XI tc ad f' s ∧ ∀ q, 88 ≤ q → f' q = f q)) := by
  obtain ⟨h0, ⟨h1, h2, h3, h4⟩, hHis, hSlo, h40, hWds, hPr, hHd⟩ := id hX
  obtain ⟨⟨⟨a1, a2⟩, ⟨a3, a4⟩, ⟨a5, a6⟩, a7, a8, a9, a10⟩, o2, o3, o4, o5, o6⟩ := id ho
  refine stI (cc := cX3_group) (maxL := 7) (lv := [(0, .ref (ad (0))), (1, .int (iI (z))), (2, .int (iI (lim)))]) (by decide) rfl (Nat.le_of_ble_eq_true rfl) rfl (fun X C hret => ?_)
  have m0 : Cond.fieldLink RX3 10 "WordSamples" "now" "LWordSamples$State;" ∈ wsX3_group := by decide +kernel
  have m1 : ∀ w ∈ wsX30, w ∈ wsX3_group := by decide +kernel
  have m2 : Cond.fieldLink RX3 74 "WordSamples$State" "rows" "I" ∈ wsX3_group := by decide +kernel
  have m3 : ∀ w ∈ wsX10, w ∈ wsX3_group := by decide +kernel
  refine r_aload_n C dX3_group_0 rfl rfl ?_
  refine r_iload_n C dX3_group_1 rfl rfl ?_
  refine r_callV (As := [.int (iI (z))]) (rest := []) (na := 1) C (c_X3_noRow G tc l ad N _ s hX ho hN z hz) gX3_group_X3_noRow rfl rfl rfl (by decide +kernel) ⟨Nat.le_of_ble_eq_true rfl, Nat.le_of_ble_eq_true rfl⟩ (by omega) h0 (show vwCl[3]? = some (RX3, TX3, 11) from rfl) rfl rfl (Nat.le_of_ble_eq_true rfl) dX3_group_2 ⟨Nat.le_of_ble_eq_true rfl, Nat.le_of_ble_eq_true rfl⟩ (aft_I (fun f1 hF2 => ?_))
  rw [hF2]
  refine r_if_eq (tgt := 10) C ⟨by omega, by omega⟩ dX3_group_5 (by decide) (fun b3 => ?_) (fun b3 => ?_)
  · refine r_iload_n C dX3_group_10 rfl rfl ?_
    refine r_if_lt (tgt := 21) C ⟨by omega, by omega⟩ dX3_group_11 (by decide) (fun b4 => ?_) (fun b4 => ?_)
    · refine r_bipush C ((-2)) (by decide) dX3_group_21 ?_
      exact hret f ((-2)) _ _ dX3_group_23 (by unfold aGrp; rw [if_pos (by omega), if_neg (by omega)]) (⟨hX, fun _ _ => rfl⟩)
    · refine r_iload_n C dX3_group_14 rfl rfl ?_
      refine r_sipush C ((10000 : Nat) : Int) (by decide) dX3_group_15 ?_
      refine r_icmp_le (tgt := 24) C ⟨by omega, by omega⟩ ⟨by omega, by omega⟩ dX3_group_18 (by decide) (fun b5 => ?_) (fun b5 => ?_)
      · rw [show (.int (iI (z)) : Value) = .int (iI ((z.toNat : Nat) : Int)) from by rw [Int.toNat_of_nonneg (by omega)]]
        refine r_iconst C ((1 : Nat) : Int) (by decide) dX3_group_24 ?_
        refine r_iload_n C dX3_group_25 rfl rfl ?_
        refine r_ishl C dX3_group_26 ?_
        rw [show (.int ((iI ((1 : Nat) : Int)) <<< ((iI ((z.toNat : Nat) : Int)) &&& 31)) : Value) = .int (iI ((2 ^ z.toNat : Nat) : Int)) from by rw [iI_shl1 (by omega)]]
        refine r_istore_n (lv' := [(0, .ref (ad (0))), (1, .int (iI ((z.toNat : Nat) : Int))), (2, .int (iI (lim))), (3, .int (iI ((2 ^ z.toNat : Nat) : Int)))]) C dX3_group_27 rfl (by decide) rfl ?_
        refine r_iconst C ((0 : Nat) : Int) (by decide) dX3_group_28 ?_
        refine r_istore (lv' := [(0, .ref (ad (0))), (1, .int (iI ((z.toNat : Nat) : Int))), (2, .int (iI (lim))), (3, .int (iI ((2 ^ z.toNat : Nat) : Int))), (4, .int (iI ((0 : Nat) : Int)))]) C dX3_group_29 (by decide) rfl ?_
        refine r_iconst C ((0 : Nat) : Int) (by decide) dX3_group_31 ?_
        refine r_istore (lv' := [(0, .ref (ad (0))), (1, .int (iI ((z.toNat : Nat) : Int))), (2, .int (iI (lim))), (3, .int (iI ((2 ^ z.toNat : Nat) : Int))), (4, .int (iI ((0 : Nat) : Int))), (5, .int (iI ((0 : Nat) : Int)))]) C dX3_group_32 (by decide) rfl ?_
        have hL8 : ∀ (m_9 : Nat) (k : Nat) (m : Nat) (q : Nat) (f6 : Nat → va_E) (ho7 : ∀ q, 88 ≤ q → f6 q = f q) (hXl : XI tc ad f6 s) (hk : k ≤ (cur s).2.2.2) (hG : GS (edg (cur s) lim) (cur s).2.2.2 z.toNat m q k), (cur s).2.2.2 - k < m_9 → VV X ad N f6 0 0 34 [(0, .ref (ad (0))), (1, .int (iI ((z.toNat : Nat) : Int))), (2, .int (iI (lim))), (3, .int (iI ((m : Nat) : Int))), (4, .int (iI ((q : Nat) : Int))), (5, .int (iI ((k : Nat) : Int)))] [] := by
          intro m_9
          induction m_9 with
          | zero => intros; omega
          | succ m_9 ih10 =>
            intro k m q f6 ho7 hXl hk hG hm11
            obtain ⟨x12, ⟨x13, x14, x15, x16⟩, -⟩ := id hXl
            refine r_iload C dX3_group_34 rfl ?_
            refine r_aload_n C dX3_group_36 rfl rfl ?_
            refine r_get (v := .ref (ad (1))) C (by omega) x12 (show vwCl[3]? = some (RX3, TX3, 11) from rfl) m1 0 (by decide) m0 rfl rfl dX3_group_37 ?_
            refine r_get (v := .int (iI (((cur s).2.2.2 : Nat) : Int))) C (by omega) x13 (show vwCl[1]? = some (RX1, TX1, 4) from rfl) m3 3 (by decide) m2 rfl rfl dX3_group_40 ?_
            refine r_icmp_ge (tgt := 88) C ⟨by omega, by omega⟩ ⟨by omega, by omega⟩ dX3_group_43 (by decide) (fun b17 => ?_) (fun b17 => ?_)
            · have hm10 := GS_lt (by omega) hG
              refine r_iload_n C dX3_group_88 rfl rfl ?_
              refine r_callS (As := [.int (iI ((m : Nat) : Int))]) (rest := []) (na := 1) C (c_X3_lowestIn G tc l ad N _ m (by omega)) gX3_group_X3_lowestIn rfl rfl rfl (by decide +kernel) ⟨Nat.le_of_ble_eq_true rfl, Nat.le_of_ble_eq_true rfl⟩ rfl rfl (Nat.le_of_ble_eq_true rfl) dX3_group_89 ⟨Nat.le_of_ble_eq_true rfl, Nat.le_of_ble_eq_true rfl⟩ (aft_I (fun f18 hF19 => ?_))
              rw [hF19]
              exact hret f6 ((lwi m : Nat) : Int) _ _ dX3_group_92 (by unfold aGrp; rw [if_pos (by omega), if_pos (by omega), grp_eq (GS_end (by omega) (by omega) hG (by omega))]) (⟨hXl, fun q hq => (ho7 _ (by omega))⟩)
            · have hm10 := GS_lt (by omega) hG
              refine r_iload_n C dX3_group_46 rfl rfl ?_
              refine r_iload C dX3_group_47 rfl ?_
              refine r_icmp_eq (tgt := 88) C ⟨by omega, by omega⟩ ⟨by omega, by omega⟩ dX3_group_49 (by decide) (fun b20 => ?_) (fun b20 => ?_)
              · have hm10 := GS_lt (by omega) hG
                refine r_iload_n C dX3_group_88 rfl rfl ?_
                refine r_callS (As := [.int (iI ((m : Nat) : Int))]) (rest := []) (na := 1) C (c_X3_lowestIn G tc l ad N _ m (by omega)) gX3_group_X3_lowestIn rfl rfl rfl (by decide +kernel) ⟨Nat.le_of_ble_eq_true rfl, Nat.le_of_ble_eq_true rfl⟩ rfl rfl (Nat.le_of_ble_eq_true rfl) dX3_group_89 ⟨Nat.le_of_ble_eq_true rfl, Nat.le_of_ble_eq_true rfl⟩ (aft_I (fun f21 hF22 => ?_))
                rw [hF22]
                exact hret f6 ((lwi m : Nat) : Int) _ _ dX3_group_92 (by unfold aGrp; rw [if_pos (by omega), if_pos (by omega), grp_eq (GS_end (by omega) (by omega) hG (by omega))]) (⟨hXl, fun q hq => (ho7 _ (by omega))⟩)
              · have hml : m &&& (q ^^^ 1023) ≤ m := Nat.and_le_left
                refine r_iload_n C dX3_group_52 rfl rfl ?_
                refine r_iload C dX3_group_53 rfl ?_
                refine r_iconst C ((-1)) (by decide) dX3_group_55 ?_
                refine r_ixor C dX3_group_56 ?_
                refine r_iand C dX3_group_57 ?_
                rw [show (.int ((iI ((m : Nat) : Int)) &&& ((iI ((q : Nat) : Int)) ^^^ (iI ((-1))))) : Value) = .int (iI ((m &&& (q ^^^ 1023) : Nat) : Int)) from by rw [iI_anx (by omega) (by omega)]]
                refine r_callS (As := [.int (iI ((m &&& (q ^^^ 1023) : Nat) : Int))]) (rest := []) (na := 1) C (c_X3_lowestIn G tc l ad N _ (m &&& (q ^^^ 1023)) (by omega)) gX3_group_X3_lowestIn rfl rfl rfl (by decide +kernel) ⟨Nat.le_of_ble_eq_true rfl, Nat.le_of_ble_eq_true rfl⟩ rfl rfl (Nat.le_of_ble_eq_true rfl) dX3_group_58 ⟨Nat.le_of_ble_eq_true rfl, Nat.le_of_ble_eq_true rfl⟩ (aft_I (fun f23 hF24 => ?_))
                rw [hF24]
                have hnx := GS_nx (by omega) hG (by omega)
                refine r_istore (lv' := [(0, .ref (ad (0))), (1, .int (iI ((z.toNat : Nat) : Int))), (2, .int (iI (lim))), (3, .int (iI ((m : Nat) : Int))), (4, .int (iI ((q : Nat) : Int))), (5, .int (iI ((k : Nat) : Int))), (6, .int (iI ((lwi (m &&& (q ^^^ 1023)) : Nat) : Int)))]) C dX3_group_61 (by decide) rfl ?_
                refine r_iload C dX3_group_63 rfl ?_
                refine r_iconst C ((1 : Nat) : Int) (by decide) dX3_group_65 ?_
                refine r_iload C dX3_group_66 rfl ?_
                refine r_ishl C dX3_group_68 ?_
                rw [show (.int ((iI ((1 : Nat) : Int)) <<< ((iI ((lwi (m &&& (q ^^^ 1023)) : Nat) : Int)) &&& 31)) : Value) = .int (iI ((2 ^ (lwi (m &&& (q ^^^ 1023))) : Nat) : Int)) from by rw [iI_shl1 (by omega)]]
                refine r_ior C dX3_group_69 ?_
                rw [show (.int ((iI ((q : Nat) : Int)) ||| (iI ((2 ^ (lwi (m &&& (q ^^^ 1023))) : Nat) : Int))) : Value) = .int (iI ((q ||| 2 ^ (lwi (m &&& (q ^^^ 1023))) : Nat) : Int)) from by rw [iI_or]]
                refine r_istore (lv' := [(0, .ref (ad (0))), (1, .int (iI ((z.toNat : Nat) : Int))), (2, .int (iI (lim))), (3, .int (iI ((m : Nat) : Int))), (4, .int (iI ((q ||| 2 ^ (lwi (m &&& (q ^^^ 1023))) : Nat) : Int))), (5, .int (iI ((k : Nat) : Int))), (6, .int (iI ((lwi (m &&& (q ^^^ 1023)) : Nat) : Int)))]) C dX3_group_70 (by decide) rfl ?_
                refine r_iload_n C dX3_group_72 rfl rfl ?_
                refine r_aload_n C dX3_group_73 rfl rfl ?_
                refine r_iload C dX3_group_74 rfl ?_
                refine r_iload_n C dX3_group_76 rfl rfl ?_
                refine r_callV (As := [.int (iI ((lwi (m &&& (q ^^^ 1023)) : Nat) : Int)), .int (iI (lim))]) (rest := [.int (iI ((m : Nat) : Int))]) (na := 2) C (c_X3_toldAtLeast G tc l ad N _ s hXl ho hN (lwi (m &&& (q ^^^ 1023))) (by omega) lim hlim) gX3_group_X3_toldAtLeast rfl rfl rfl (by decide +kernel) ⟨Nat.le_of_ble_eq_true rfl, Nat.le_of_ble_eq_true rfl⟩ (by omega) x12 (show vwCl[3]? = some (RX3, TX3, 11) from rfl) rfl rfl (Nat.le_of_ble_eq_true rfl) dX3_group_77 ⟨Nat.le_of_ble_eq_true rfl, Nat.le_of_ble_eq_true rfl⟩ (aft_I (fun f27 hF28 => ?_))
                obtain ⟨hx25, ow26⟩ := hF28
                refine r_ior C dX3_group_80 ?_
                rw [show (.int ((iI ((m : Nat) : Int)) ||| (iI ((tal (fun o => decide (lim ≤ ((tol (wds (cur s) (lwi (m &&& (q ^^^ 1023)))) (wds (cur s) o) ((cur s).1 1) : Nat) : Int))) ((cur s).2.2.2) : Nat) : Int))) : Value) = .int (iI ((m ||| tal (fun o => decide (lim ≤ ((tol (wds (cur s) (lwi (m &&& (q ^^^ 1023)))) (wds (cur s) o) ((cur s).1 1) : Nat) : Int))) ((cur s).2.2.2) : Nat) : Int)) from by rw [iI_or]]
                refine r_istore_n (lv' := [(0, .ref (ad (0))), (1, .int (iI ((z.toNat : Nat) : Int))), (2, .int (iI (lim))), (3, .int (iI ((m ||| tal (fun o => decide (lim ≤ ((tol (wds (cur s) (lwi (m &&& (q ^^^ 1023)))) (wds (cur s) o) ((cur s).1 1) : Nat) : Int))) ((cur s).2.2.2) : Nat) : Int))), (4, .int (iI ((q ||| 2 ^ (lwi (m &&& (q ^^^ 1023))) : Nat) : Int))), (5, .int (iI ((k : Nat) : Int))), (6, .int (iI ((lwi (m &&& (q ^^^ 1023)) : Nat) : Int)))]) C dX3_group_81 rfl (by decide) rfl ?_
                refine r_iinc (lv' := [(0, .ref (ad (0))), (1, .int (iI ((z.toNat : Nat) : Int))), (2, .int (iI (lim))), (3, .int (iI ((m ||| tal (fun o => decide (lim ≤ ((tol (wds (cur s) (lwi (m &&& (q ^^^ 1023)))) (wds (cur s) o) ((cur s).1 1) : Nat) : Int))) ((cur s).2.2.2) : Nat) : Int))), (4, .int (iI ((q ||| 2 ^ (lwi (m &&& (q ^^^ 1023))) : Nat) : Int))), (5, .int (iI ((k + 1 : Nat) : Int))), (6, .int (iI ((lwi (m &&& (q ^^^ 1023)) : Nat) : Int)))]) C ((k + 1 : Nat) : Int) (by omega) dX3_group_82 rfl (by decide) rfl ?_
                refine r_goto (tgt := 34) C dX3_group_85 (by decide) ?_
                refine r_sub (ks := [0, 1, 2, 3, 4, 5]) (lv' := [(0, .ref (ad (0))), (1, .int (iI ((z.toNat : Nat) : Int))), (2, .int (iI (lim))), (3, .int (iI ((m ||| tal (fun o => decide (lim ≤ ((tol (wds (cur s) (lwi (m &&& (q ^^^ 1023)))) (wds (cur s) o) ((cur s).1 1) : Nat) : Int))) ((cur s).2.2.2) : Nat) : Int))), (4, .int (iI ((q ||| 2 ^ (lwi (m &&& (q ^^^ 1023))) : Nat) : Int))), (5, .int (iI ((k + 1 : Nat) : Int)))]) rfl ?_
                exact ih10 (k + 1) (m ||| tal (fun o => decide (lim ≤ ((tol (wds (cur s) (lwi (m &&& (q ^^^ 1023)))) (wds (cur s) o) ((cur s).1 1) : Nat) : Int))) ((cur s).2.2.2)) (q ||| 2 ^ (lwi (m &&& (q ^^^ 1023)))) f27 (fun q hq => ((ow26 _ (by omega))).trans (ho7 _ (by omega))) hx25 (by omega) (GS_s (by omega) hG (by omega)) (by omega)
        exact hL8 _ 0 (2 ^ z.toNat) 0 f (fun _ _ => rfl) hX (by omega) (GS_0 (by omega)) (Nat.lt_succ_self _)
      · refine r_bipush C ((-2)) (by decide) dX3_group_21 ?_
        exact hret f ((-2)) _ _ dX3_group_23 (by unfold aGrp; rw [if_pos (by omega), if_neg (by omega)]) (⟨hX, fun _ _ => rfl⟩)
  · refine r_iconst C ((-1)) (by decide) dX3_group_8 ?_
    exact hret f ((-1)) _ _ dX3_group_9 (by unfold aGrp; rw [if_neg (by omega)]) (⟨hX, fun _ _ => rfl⟩)
end XG1
