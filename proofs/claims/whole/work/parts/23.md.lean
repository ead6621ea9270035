section MD1
/-- no pair ahead is farther; or some pair is -/
def BF (n : NS) (lim : Int) (j r d b : Nat) : Prop := (b = 1 ∧ ¬ FB n lim j r d) ∨ (b = 0 ∧ FB n lim j n.2.2.2 0)
theorem bf_le {n : NS} {lim : Int} {j r d b : Nat} (h : BF n lim j r d b) : b ≤ 1 := by
  rcases h with ⟨h, _⟩ | ⟨h, _⟩ <;> omega
theorem bf_0 {n : NS} {lim : Int} {j : Nat} : BF n lim j 0 0 1 := Or.inl ⟨rfl, fun ⟨r', o', a, _, c, _⟩ => by omega⟩
theorem bf_out {n : NS} {lim : Int} {j r d b : Nat} (h : BF n lim j r d b) (he : n.2.2.2 ≤ r + 1 + d ∨ ((b : Nat) : Int) = 0) : BF n lim j (r + 1) 0 b := by
  rcases h with ⟨h1, h2⟩ | ⟨h1, h2⟩
  · refine Or.inl ⟨h1, fun q => h2 ((fb_out ?_).mpr q)⟩
    omega
  · exact Or.inr ⟨h1, h2⟩
theorem bf_1 {n : NS} {lim : Int} {j r d b : Nat} (h : BF n lim j r d b) (hb : ¬ ((b : Nat) : Int) = 0) (he : ((err (wds n r) (wds n (r + 1 + d)) j : Nat) : Int) ≤ lim) : BF n lim j r (d + 1) 1 := by
  rcases h with ⟨h1, h2⟩ | ⟨h1, h2⟩
  · refine Or.inl ⟨rfl, ?_⟩
    rintro ⟨r', o', a, b, c, e⟩
    by_cases q : r' = r ∧ o' = r + 1 + d
    · rw [q.1, q.2] at e
      omega
    · exact h2 ⟨r', o', a, b, by omega, e⟩
  · omega
theorem bf_x {n : NS} {lim : Int} {j r d : Nat} (hd : r + 1 + d < n.2.2.2) (he : lim < ((err (wds n r) (wds n (r + 1 + d)) j : Nat) : Int)) : BF n lim j r (d + 1) 0 :=
  Or.inr ⟨rfl, r, r + 1 + d, by omega, hd, Or.inl (by omega), he⟩
theorem bf_end {n : NS} {lim : Int} {j r b : Nat} (h : BF n lim j r 0 b) (hr : r ≤ n.2.2.2) (he : n.2.2.2 ≤ r ∨ ((b : Nat) : Int) = 0) : (b = 1 ∧ ¬ FB n lim j n.2.2.2 0) ∨ (b = 0 ∧ FB n lim j n.2.2.2 0) := by
  rcases h with ⟨h1, h2⟩ | h
  · have e : r = n.2.2.2 := by omega
    rw [e] at h2
    exact Or.inl ⟨h1, h2⟩
  · exact Or.inr h
theorem be_no {n : NS} {lim : Int} {j b : Nat} (h : (b = 1 ∧ ¬ FB n lim j n.2.2.2 0) ∨ (b = 0 ∧ FB n lim j n.2.2.2 0)) (hb : ((b : Nat) : Int) = 0) : okK n lim j = false := by
  rcases h with ⟨h1, _⟩ | ⟨_, h2⟩
  · omega
  · exact okK_no (x := true) ⟨fun _ => h2, fun _ => rfl⟩ rfl
theorem be_yes {n : NS} {lim : Int} {j b : Nat} (h : (b = 1 ∧ ¬ FB n lim j n.2.2.2 0) ∨ (b = 0 ∧ FB n lim j n.2.2.2 0)) (hb : ¬ ((b : Nat) : Int) = 0) : okK n lim j = true := by
  rcases h with ⟨_, h2⟩ | ⟨h1, _⟩
  · exact okK_yes (x := false) ⟨fun q => absurd q (by decide), fun q => absurd q h2⟩ rfl
  · omega
def bi (m k : Nat) : Nat := if m.testBit k = true then 1 else 0
theorem bi_le (m k : Nat) : bi m k ≤ 1 := by
  unfold bi
  split <;> omega
theorem bi_1 {m k : Nat} (h : ((bi m k : Nat) : Int) = 1) : m.testBit k = true := by
  unfold bi at h
  split at h
  · assumption
  · omega
theorem bi_n {m k : Nat} (h : ¬ ((bi m k : Nat) : Int) = 0) : m.testBit k = true := by
  unfold bi at h
  split at h
  · assumption
  · omega
theorem bi_0 {m k : Nat} (h : ((bi m k : Nat) : Int) = 0) : m.testBit k = false := by
  unfold bi at h
  split at h
  · omega
  · rename_i q
    simpa using q
theorem bi_n1 {m k : Nat} (h : ¬ ((bi m k : Nat) : Int) = 1) : m.testBit k = false := bi_0 (by have := bi_le m k; omega)
theorem one_bit : ∀ i, i < 32 → (1#32).getLsbD i = decide (i = 0) := by decide +kernel
theorem sh31 : ∀ k, k < 31 → ((iI ((k : Nat) : Int) &&& 31).toBitVec.smod 32).toNat = k := by decide +kernel
theorem bt1 {m k : Nat} (hm : m < 1024) (hk : k < 31) : (iI ((m : Nat) : Int) >>> (iI ((k : Nat) : Int) &&& 31)) &&& iI ((1 : Nat) : Int) = iI ((bi m k : Nat) : Int) := by
  rw [iI_nat m, iI_nat (bi m k), iI_nat 1]
  apply Int32.toBitVec_inj.1
  show ((BitVec.ofNat 32 m).sshiftRight (((iI ((k : Nat) : Int) &&& 31).toBitVec.smod 32).toNat)) &&& 1#32 = BitVec.ofNat 32 (bi m k)
  rw [sh31 k hk]
  apply BitVec.eq_of_getLsbD_eq
  intro i hi
  rw [BitVec.getLsbD_and, one_bit i hi, BitVec.getLsbD_sshiftRight, BitVec.getLsbD_ofNat]
  have h32 : ¬ 32 ≤ i := by omega
  rw [decide_eq_false h32]
  by_cases h : i = 0
  · subst h
    have h1 : k + 0 < 32 := by omega
    rw [if_pos h1, BitVec.getLsbD_ofNat]
    unfold bi
    by_cases q : m.testBit k = true
    · rw [if_pos q]
      have h2 : k < 32 := by omega
      simp [q, h2]
    · rw [if_neg q]
      simp [q]
  · have h3 : (bi m k).testBit i = false := by
      apply Nat.testBit_lt_two_pow
      have h4 := bi_le m k
      have h5 : 2 ^ 1 ≤ 2 ^ i := Nat.pow_le_pow_right (by omega) (by omega)
      omega
    have h6 : (BitVec.ofNat 32 (bi m k)).getLsbD i = false := by
      rw [BitVec.getLsbD_ofNat, h3]
      simp
    rw [h6]
    simp [h]
def GV (ed : Nat → Nat → Bool) (R z m : Nat) : Prop := (∀ j, m.testBit j = true → j < R) ∧ m.testBit z = true ∧ ∀ D : Nat → Prop, D z → clo ed R D → ∀ i, m.testBit i = true → D i
/-- within a round that began at m0: the rows ahead of r, and of r the ones ahead of o, are followed -/
def GP (ed : Nat → Nat → Bool) (R z m0 m r o : Nat) : Prop := GV ed R z m ∧ (∀ j, m0.testBit j = true → m.testBit j = true) ∧ (∀ i, i < r → m0.testBit i = true → ∀ j, j < R → ed i j = true → m.testBit j = true) ∧ (m0.testBit r = true → ∀ j, j < o → ed r j = true → m.testBit j = true)
def GI (ed : Nat → Nat → Bool) (R z m k : Nat) : Prop := GV ed R z m ∧ (clo ed R (fun j => m.testBit j = true) ∨ k + 1 ≤ cnb (fun j => m.testBit j) R)
theorem cnb_pos {p : Nat → Bool} {i : Nat} (h : p i = true) : ∀ {n : Nat}, i < n → 1 ≤ cnb p n
  | 0, hi => absurd hi (Nat.not_lt_zero _)
  | n + 1, hi => by
    rw [cnb]
    rcases Nat.lt_or_ge i n with q | q
    · have := cnb_pos h q
      omega
    · have e : i = n := by omega
      rw [← e, if_pos h]
      omega
theorem cnb_mono {p p' : Nat → Bool} (h : ∀ j, p j = true → p' j = true) : ∀ n, cnb p n ≤ cnb p' n
  | 0 => Nat.le_refl _
  | n + 1 => by
    have := cnb_mono h n
    rw [cnb, cnb]
    by_cases q : p n = true
    · rw [if_pos q, if_pos (h n q)]
      omega
    · rw [if_neg q]
      omega
theorem cnb_more {p p' : Nat → Bool} {i : Nat} (h : ∀ j, p j = true → p' j = true) (h0 : p i = false) (h1 : p' i = true) : ∀ {n : Nat}, i < n → cnb p n + 1 ≤ cnb p' n
  | 0, hi => absurd hi (Nat.not_lt_zero _)
  | n + 1, hi => by
    rw [cnb, cnb]
    rcases Nat.lt_or_ge i n with q | q
    · have := cnb_more h h0 h1 q
      by_cases q2 : p n = true
      · rw [if_pos q2, if_pos (h n q2)]
        omega
      · rw [if_neg q2]
        omega
    · have e : i = n := by omega
      have := cnb_mono h n
      rw [← e, h0, h1, ← e] at *
      simp
      omega
theorem gi_0 {ed : Nat → Nat → Bool} {R z : Nat} (hz : z < R) : GI ed R z (2 ^ z) 0 := by
  have hb : ∀ j, (2 ^ z).testBit j = true ↔ z = j := fun j => by rw [Nat.testBit_two_pow]; simp
  exact ⟨⟨fun j hj => by rw [← (hb j).mp hj]; exact hz, (hb z).mpr rfl, fun D h1 _ i hi => by rw [← (hb i).mp hi]; exact h1⟩, Or.inr (cnb_pos ((hb z).mpr rfl) hz)⟩
theorem gp_0 {ed : Nat → Nat → Bool} {R z m k : Nat} (h : GI ed R z m k) : GP ed R z m m 0 0 := ⟨h.1, fun _ h => h, fun _ h => absurd h (Nat.not_lt_zero _), fun _ _ h => absurd h (Nat.not_lt_zero _)⟩
theorem gp_out {ed : Nat → Nat → Bool} {R z m0 m r o : Nat} (h : GP ed R z m0 m r o) (he : R ≤ o ∨ m.testBit r = false) : GP ed R z m0 m (r + 1) 0 := by
  obtain ⟨h1, h2, h3, h4⟩ := h
  refine ⟨h1, h2, fun i hi hm j hj hee => ?_, fun _ _ h => absurd h (Nat.not_lt_zero _)⟩
  rcases Nat.lt_or_ge i r with q | q
  · exact h3 i q hm j hj hee
  · have e : i = r := by omega
    subst e
    rcases he with he | he
    · exact h4 hm j (by omega) hee
    · rw [h2 i hm] at he
      cases he
theorem gp_set {ed : Nat → Nat → Bool} {R z m0 m r o : Nat} (h : GP ed R z m0 m r o) (hb : m.testBit o = true) : GP ed R z m0 m r (o + 1) := by
  obtain ⟨h1, h2, h3, h4⟩ := h
  refine ⟨h1, h2, h3, fun hm j hj hee => ?_⟩
  rcases Nat.lt_or_ge j o with q | q
  · exact h4 hm j q hee
  · have e : j = o := by omega
    rw [e]
    exact hb
theorem gp_no {ed : Nat → Nat → Bool} {R z m0 m r o : Nat} (h : GP ed R z m0 m r o) (he : ed r o = false) : GP ed R z m0 m r (o + 1) := by
  obtain ⟨h1, h2, h3, h4⟩ := h
  refine ⟨h1, h2, h3, fun hm j hj hee => ?_⟩
  rcases Nat.lt_or_ge j o with q | q
  · exact h4 hm j q hee
  · have e : j = o := by omega
    rw [e, he] at hee
    cases hee
theorem gp_new {ed : Nat → Nat → Bool} {R z m0 m r o : Nat} (h : GP ed R z m0 m r o) (hr : m.testBit r = true) (hrR : r < R) (hoR : o < R) (he : ed r o = true) : GP ed R z m0 (m ||| 2 ^ o) r (o + 1) := by
  obtain ⟨⟨v1, v2, v3⟩, h2, h3, h4⟩ := h
  have hb : ∀ j, (m ||| 2 ^ o).testBit j = true ↔ m.testBit j = true ∨ o = j := fun j => by rw [Nat.testBit_or, Nat.testBit_two_pow]; simp
  refine ⟨⟨fun j hj => ?_, (hb z).mpr (Or.inl v2), fun D d1 d2 i hi => ?_⟩, fun j hj => (hb j).mpr (Or.inl (h2 j hj)), fun i hi hm j hj hee => (hb j).mpr (Or.inl (h3 i hi hm j hj hee)), fun hm j hj hee => (hb j).mpr ?_⟩
  · rcases (hb j).mp hj with q | q
    · exact v1 j q
    · omega
  · rcases (hb i).mp hi with q | q
    · exact v3 D d1 d2 i q
    · rw [← q]
      exact d2 r hrR (v3 D d1 d2 r hr) o hoR he
  · rcases Nat.lt_or_ge j o with q | q
    · exact Or.inl (h4 hm j q hee)
    · exact Or.inr (by omega)
theorem gi_s {ed : Nat → Nat → Bool} {R z m m' k r : Nat} (hG : GI ed R z m k) (hP : GP ed R z m m' r 0) (hr : R ≤ r) : GI ed R z m' (k + 1) := by
  obtain ⟨g1, g2⟩ := hG
  obtain ⟨h1, h2, h3, h4⟩ := hP
  refine ⟨h1, ?_⟩
  by_cases q : ∃ i, m'.testBit i = true ∧ m.testBit i = false
  · obtain ⟨i, q1, q2⟩ := q
    rcases g2 with g2 | g2
    · have := h1.2.2 _ g1.2.1 g2 i q1
      rw [q2] at this
      cases this
    · have := cnb_more (p := fun j => m.testBit j) (p' := fun j => m'.testBit j) h2 q2 q1 (h1.1 i q1)
      exact Or.inr (by omega)
  · have e : ∀ i, m'.testBit i = true → m.testBit i = true := fun i hi => by
      cases h : m.testBit i
      · exact absurd ⟨i, hi, h⟩ q
      · rfl
    exact Or.inl (fun i hi hm j hj hee => h3 i (by omega) (e i hm) j hj hee)
theorem bit_nx {m z x : Nat} (hz : m.testBit z = true) (hx : x ≤ z) (hb : m.testBit x = false) : x + 1 ≤ z := by
  rcases Nat.lt_or_ge x z with q | q
  · exact q
  · have e : x = z := by omega
    rw [e, hz] at hb
    cases hb
theorem gi_end {ed : Nat → Nat → Bool} {R z m k x : Nat} (h : GI ed R z m k) (hk : R ≤ k) (hx : ∀ j, j < x → m.testBit j = false) (hb : m.testBit x = true) : isG ed R z x := by
  obtain ⟨⟨v1, v2, v3⟩, h2⟩ := h
  have h3 := cnb_le (fun j => m.testBit j) R
  refine ⟨fun j => m.testBit j = true, v2, ?_, v3, hb, fun j hj => ?_⟩
  · rcases h2 with h2 | h2
    · exact h2
    · omega
  · have hj : m.testBit j = true := hj
    rcases Nat.lt_or_ge j x with q | q
    · rw [hx j q] at hj
      cases hj
    · exact q
set_option maxHeartbeats 4000000 in
set_option maxRecDepth 100000 in
/-- bestKept -/
theorem c_X4_bestKept (G : va_G) (tc : Nat → ClassId) (l : Launch) (ad : Nat → Nat) (N : Nat) (f : Nat → va_E) (s : SG) (hM : MI tc ad f s) (ho : okS s) (hN : 98 ≤ N) (lim : Int) (hlim : inR lim)   : Ct G tc l yX4_bestKept wsX4_bestKept { frames := 5, cells := 0, slots := 0, locals := 121 } 0 0 [.ref (ad (88)), .int (iI (lim))] ad N f (poI ad N (aBst s lim) (fun f' => MI tc ad f' s ∧ ∀ q, (q < 88 ∨ 98 ≤ q) → f' q = f q)) := by
  obtain ⟨⟨x1, x2, x3, x4, m88⟩, m89', ⟨bb, m90, hbb⟩, ⟨sb, m91, hsb⟩, ⟨ig, m92, hig⟩, m93, ⟨wc, wv, wo, wn, m94, m95, m96, m97⟩⟩ := id hM
  have m89 : f 89 = eI tc 655 (fun j => iI ((nwF ((cur s).1, (cur s).2.1, (cur s).2.2.1, (cur s).2.2.2) j : Nat) : Int)) := m89'
  obtain ⟨⟨⟨a1, a2⟩, ⟨a3, a4⟩, ⟨a5, a6⟩, a7, a8, a9, a10⟩, o2, o3, o4, o5, o6⟩ := id ho
  refine stI (cc := cX4_bestKept) (maxL := 6) (lv := [(0, .ref (ad (88))), (1, .int (iI (lim)))]) (by decide) rfl (Nat.le_of_ble_eq_true rfl) rfl (fun X C hret => ?_)
  have m0 : Cond.fieldLink RX4 7 "WordSamplesModel" "now" "[I" ∈ wsX4_bestKept := by decide +kernel
  have m1 : ∀ w ∈ wsX40, w ∈ wsX4_bestKept := by decide +kernel
  refine r_iload_n C dX4_bestKept_0 rfl rfl ?_
  refine r_iconst C ((0 : Nat) : Int) (by decide) dX4_bestKept_1 ?_
  refine r_sipush C ((10000 : Nat) : Int) (by decide) dX4_bestKept_2 ?_
  refine r_callS (As := [.int (iI (lim)), .int (iI ((0 : Nat) : Int)), .int (iI ((10000 : Nat) : Int))]) (rest := []) (na := 3) C (c_X4_in G tc l ad N _ (lim) ((0 : Nat) : Int) ((10000 : Nat) : Int) ⟨by omega, by omega⟩ ⟨by omega, by omega⟩ ⟨by omega, by omega⟩) gX4_bestKept_X4_in rfl rfl rfl (by decide +kernel) ⟨Nat.le_of_ble_eq_true rfl, Nat.le_of_ble_eq_true rfl⟩ rfl rfl (Nat.le_of_ble_eq_true rfl) dX4_bestKept_5 ⟨Nat.le_of_ble_eq_true rfl, Nat.le_of_ble_eq_true rfl⟩ (aft_I (fun f1 hF2 => ?_))
  rw [hF2]
  refine r_if_ne (tgt := 14) C ⟨by omega, by omega⟩ dX4_bestKept_8 (by decide) (fun b3 => ?_) (fun b3 => ?_)
  · refine r_iconst C ((1 : Nat) : Int) (by decide) dX4_bestKept_14 ?_
    refine r_istore_n (lv' := [(0, .ref (ad (88))), (1, .int (iI (lim))), (2, .int (iI ((1 : Nat) : Int)))]) C dX4_bestKept_15 rfl (by decide) rfl ?_
    have hL6 : ∀ (m_7 : Nat) (j : Nat) (f4 : Nat → va_E) (ho5 : ∀ q, (q < 88 ∨ 98 ≤ q) → f4 q = f q) (hMj : MI tc ad f4 s) (hj1 : 1 ≤ j) (hj : j ≤ 33) (hno : ∀ i, 1 ≤ i → i < j → okK (cur s) lim i = false), 33 - j < m_7 → VV X ad N f4 0 0 16 [(0, .ref (ad (88))), (1, .int (iI (lim))), (2, .int (iI ((j : Nat) : Int)))] [] := by
      intro m_7
      induction m_7 with
      | zero => intros; omega
      | succ m_7 ih8 =>
        intro j f4 ho5 hMj hj1 hj hno hm9
        obtain ⟨⟨n10, n11, n12, n13, n14⟩, n15, -, -, -, -, ⟨n16, n17, n18, n19, n20, n21, n22, n23⟩⟩ := id hMj
        have n24 : f4 89 = eI tc 655 (fun j => iI ((nwF ((cur s).1, (cur s).2.1, (cur s).2.2.1, (cur s).2.2.2) j : Nat) : Int)) := n15
        refine r_iload_n C dX4_bestKept_16 rfl rfl ?_
        refine r_bipush C ((32 : Nat) : Int) (by decide) dX4_bestKept_17 ?_
        refine r_icmp_gt (tgt := 106) C ⟨by omega, by omega⟩ ⟨by omega, by omega⟩ dX4_bestKept_19 (by decide) (fun b30 => ?_) (fun b30 => ?_)
        · refine r_bipush C ((-6)) (by decide) dX4_bestKept_106 ?_
          exact hret f4 ((-6)) _ _ dX4_bestKept_108 (bst_no (by omega) (fun i g1 g2 => hno i g1 (by omega))).symm (⟨hMj, fun q hq => (ho5 _ (by omega))⟩)
        · refine r_iconst C ((1 : Nat) : Int) (by decide) dX4_bestKept_22 ?_
          refine r_istore_n (lv' := [(0, .ref (ad (88))), (1, .int (iI (lim))), (2, .int (iI ((j : Nat) : Int))), (3, .int (iI ((1 : Nat) : Int)))]) C dX4_bestKept_23 rfl (by decide) rfl ?_
          refine r_iconst C ((0 : Nat) : Int) (by decide) dX4_bestKept_24 ?_
          refine r_istore (lv' := [(0, .ref (ad (88))), (1, .int (iI (lim))), (2, .int (iI ((j : Nat) : Int))), (3, .int (iI ((1 : Nat) : Int))), (4, .int (iI ((0 : Nat) : Int)))]) C dX4_bestKept_25 (by decide) rfl ?_
          have hL33 : ∀ (m_34 : Nat) (r : Nat) (b : Nat) (f31 : Nat → va_E) (ho32 : ∀ q, (q < 88 ∨ 98 ≤ q) → f31 q = f4 q) (hMr : MI tc ad f31 s) (hr : r ≤ (cur s).2.2.2) (hB : BF (cur s) lim j r 0 b), (cur s).2.2.2 - r < m_34 → VV X ad N f31 0 0 27 [(0, .ref (ad (88))), (1, .int (iI (lim))), (2, .int (iI ((j : Nat) : Int))), (3, .int (iI ((b : Nat) : Int))), (4, .int (iI ((r : Nat) : Int)))] [] := by
            intro m_34
            induction m_34 with
            | zero => intros; omega
            | succ m_34 ih35 =>
              intro r b f31 ho32 hMr hr hB hm36
              obtain ⟨⟨n37, n38, n39, n40, n41⟩, n42, -, -, -, -, ⟨n43, n44, n45, n46, n47, n48, n49, n50⟩⟩ := id hMr
              have n51 : f31 89 = eI tc 655 (fun j => iI ((nwF ((cur s).1, (cur s).2.1, (cur s).2.2.1, (cur s).2.2.2) j : Nat) : Int)) := n42
              have hb1 := bf_le hB
              have hJ57 : ∀  (hE : (b = 1 ∧ ¬ FB (cur s) lim j (cur s).2.2.2 0) ∨ (b = 0 ∧ FB (cur s) lim j (cur s).2.2.2 0)), VV X ad N f31 0 0 94 [(0, .ref (ad (88))), (1, .int (iI (lim))), (2, .int (iI ((j : Nat) : Int))), (3, .int (iI ((b : Nat) : Int)))] [] := by
                intro hE
                refine r_iload_n C dX4_bestKept_94 rfl rfl ?_
                refine r_if_eq (tgt := 100) C ⟨by omega, by omega⟩ dX4_bestKept_95 (by decide) (fun b58 => ?_) (fun b58 => ?_)
                · refine r_iinc (lv' := [(0, .ref (ad (88))), (1, .int (iI (lim))), (2, .int (iI ((j + 1 : Nat) : Int))), (3, .int (iI ((b : Nat) : Int)))]) C ((j + 1 : Nat) : Int) (by omega) dX4_bestKept_100 rfl (by decide) rfl ?_
                  refine r_goto (tgt := 16) C dX4_bestKept_103 (by decide) ?_
                  refine r_sub (ks := [0, 1, 2]) (lv' := [(0, .ref (ad (88))), (1, .int (iI (lim))), (2, .int (iI ((j + 1 : Nat) : Int)))]) rfl ?_
                  exact ih8 (j + 1) f31 (fun q hq => ((ho32 _ (by omega))).trans (ho5 _ (by omega))) hMr (by omega) (by omega) (fun i g1 g2 => if h : i < j then hno i g1 h else (by have e : i = j := (by omega); rw [e]; exact be_no hE (by omega))) (by omega)
                · refine r_iload_n C dX4_bestKept_98 rfl rfl ?_
                  exact hret f31 ((j : Nat) : Int) _ _ dX4_bestKept_99 (bst_hit (by omega) hj1 (by omega) hno (be_yes hE (by omega))).symm (⟨hMr, fun q hq => ((ho32 _ (by omega))).trans (ho5 _ (by omega))⟩)
              refine r_iload C dX4_bestKept_27 rfl ?_
              refine r_aload_n C dX4_bestKept_29 rfl rfl ?_
              refine r_get (v := .ref (ad (89))) C (by omega) n41 (show vwCl[4]? = some (RX4, TX4, 15) from rfl) m1 0 (by decide) m0 rfl rfl dX4_bestKept_30 ?_
              refine r_iconst C ((4 : Nat) : Int) (by decide) dX4_bestKept_33 ?_
              refine r_iald (x := (iI (((cur s).2.2.2 : Nat) : Int))) C (by omega) n51 (4) rfl (by omega) (Nat.le_of_ble_eq_true rfl) (rfl) dX4_bestKept_34 ?_
              refine r_icmp_ge (tgt := 94) C ⟨by omega, by omega⟩ ⟨by omega, by omega⟩ dX4_bestKept_35 (by decide) (fun b59 => ?_) (fun b59 => ?_)
              · refine r_sub (ks := [0, 1, 2, 3]) (lv' := [(0, .ref (ad (88))), (1, .int (iI (lim))), (2, .int (iI ((j : Nat) : Int))), (3, .int (iI ((b : Nat) : Int)))]) rfl ?_
                exact hJ57 (bf_end hB hr (by omega))
              · refine r_iload_n C dX4_bestKept_38 rfl rfl ?_
                refine r_if_eq (tgt := 94) C ⟨by omega, by omega⟩ dX4_bestKept_39 (by decide) (fun b60 => ?_) (fun b60 => ?_)
                · refine r_sub (ks := [0, 1, 2, 3]) (lv' := [(0, .ref (ad (88))), (1, .int (iI (lim))), (2, .int (iI ((j : Nat) : Int))), (3, .int (iI ((b : Nat) : Int)))]) rfl ?_
                  exact hJ57 (bf_end hB hr (by omega))
                · refine r_iload C dX4_bestKept_42 rfl ?_
                  refine r_iconst C ((1 : Nat) : Int) (by decide) dX4_bestKept_44 ?_
                  refine r_iadd C ((r + 1 : Nat) : Int) (by omega) dX4_bestKept_45 ?_
                  refine r_istore (lv' := [(0, .ref (ad (88))), (1, .int (iI (lim))), (2, .int (iI ((j : Nat) : Int))), (3, .int (iI ((b : Nat) : Int))), (4, .int (iI ((r : Nat) : Int))), (5, .int (iI ((r + 1 : Nat) : Int)))]) C dX4_bestKept_46 (by decide) rfl ?_
                  have hL63 : ∀ (m_64 : Nat) (d : Nat) (b2 : Nat) (f61 : Nat → va_E) (ho62 : ∀ q, (q < 88 ∨ 98 ≤ q) → f61 q = f31 q) (hMd : MI tc ad f61 s) (hd : r + 1 + d ≤ (cur s).2.2.2) (hB2 : BF (cur s) lim j r d b2), (cur s).2.2.2 - (r + 1 + d) < m_64 → VV X ad N f61 0 0 48 [(0, .ref (ad (88))), (1, .int (iI (lim))), (2, .int (iI ((j : Nat) : Int))), (3, .int (iI ((b2 : Nat) : Int))), (4, .int (iI ((r : Nat) : Int))), (5, .int (iI ((r + 1 + d : Nat) : Int)))] [] := by
                    intro m_64
                    induction m_64 with
                    | zero => intros; omega
                    | succ m_64 ih65 =>
                      intro d b2 f61 ho62 hMd hd hB2 hm66
                      obtain ⟨⟨n67, n68, n69, n70, n71⟩, n72, -, -, -, -, ⟨n73, n74, n75, n76, n77, n78, n79, n80⟩⟩ := id hMd
                      have n81 : f61 89 = eI tc 655 (fun j => iI ((nwF ((cur s).1, (cur s).2.1, (cur s).2.2.1, (cur s).2.2.2) j : Nat) : Int)) := n72
                      have hb2 := bf_le hB2
                      refine r_iload C dX4_bestKept_48 rfl ?_
                      refine r_aload_n C dX4_bestKept_50 rfl rfl ?_
                      refine r_get (v := .ref (ad (89))) C (by omega) n71 (show vwCl[4]? = some (RX4, TX4, 15) from rfl) m1 0 (by decide) m0 rfl rfl dX4_bestKept_51 ?_
                      refine r_iconst C ((4 : Nat) : Int) (by decide) dX4_bestKept_54 ?_
                      refine r_iald (x := (iI (((cur s).2.2.2 : Nat) : Int))) C (by omega) n81 (4) rfl (by omega) (Nat.le_of_ble_eq_true rfl) (rfl) dX4_bestKept_55 ?_
                      refine r_icmp_ge (tgt := 88) C ⟨by omega, by omega⟩ ⟨by omega, by omega⟩ dX4_bestKept_56 (by decide) (fun b87 => ?_) (fun b87 => ?_)
                      · refine r_iinc (lv' := [(0, .ref (ad (88))), (1, .int (iI (lim))), (2, .int (iI ((j : Nat) : Int))), (3, .int (iI ((b2 : Nat) : Int))), (4, .int (iI ((r + 1 : Nat) : Int))), (5, .int (iI ((r + 1 + d : Nat) : Int)))]) C ((r + 1 : Nat) : Int) (by omega) dX4_bestKept_88 rfl (by decide) rfl ?_
                        refine r_goto (tgt := 27) C dX4_bestKept_91 (by decide) ?_
                        refine r_sub (ks := [0, 1, 2, 3, 4]) (lv' := [(0, .ref (ad (88))), (1, .int (iI (lim))), (2, .int (iI ((j : Nat) : Int))), (3, .int (iI ((b2 : Nat) : Int))), (4, .int (iI ((r + 1 : Nat) : Int)))]) rfl ?_
                        exact ih35 (r + 1) b2 f61 (fun q hq => ((ho62 _ (by omega))).trans (ho32 _ (by omega))) hMd (by omega) (bf_out hB2 (by omega)) (by omega)
                      · refine r_iload_n C dX4_bestKept_59 rfl rfl ?_
                        refine r_if_eq (tgt := 88) C ⟨by omega, by omega⟩ dX4_bestKept_60 (by decide) (fun b88 => ?_) (fun b88 => ?_)
                        · refine r_iinc (lv' := [(0, .ref (ad (88))), (1, .int (iI (lim))), (2, .int (iI ((j : Nat) : Int))), (3, .int (iI ((b2 : Nat) : Int))), (4, .int (iI ((r + 1 : Nat) : Int))), (5, .int (iI ((r + 1 + d : Nat) : Int)))]) C ((r + 1 : Nat) : Int) (by omega) dX4_bestKept_88 rfl (by decide) rfl ?_
                          refine r_goto (tgt := 27) C dX4_bestKept_91 (by decide) ?_
                          refine r_sub (ks := [0, 1, 2, 3, 4]) (lv' := [(0, .ref (ad (88))), (1, .int (iI (lim))), (2, .int (iI ((j : Nat) : Int))), (3, .int (iI ((b2 : Nat) : Int))), (4, .int (iI ((r + 1 : Nat) : Int)))]) rfl ?_
                          exact ih35 (r + 1) b2 f61 (fun q hq => ((ho62 _ (by omega))).trans (ho32 _ (by omega))) hMd (by omega) (bf_out hB2 (by omega)) (by omega)
                        · refine r_aload_n C dX4_bestKept_63 rfl rfl ?_
                          refine r_iload C dX4_bestKept_64 rfl ?_
                          refine r_iload C dX4_bestKept_66 rfl ?_
                          refine r_iload_n C dX4_bestKept_68 rfl rfl ?_
                          refine r_callV (As := [.int (iI ((r : Nat) : Int)), .int (iI ((r + 1 + d : Nat) : Int)), .int (iI ((j : Nat) : Int))]) (rest := []) (na := 3) C (c_X4_off G tc l ad N _ s hMd ho hN r (r + 1 + d) (j) (by omega) (by omega) (by omega)) gX4_bestKept_X4_off rfl rfl rfl (by decide +kernel) ⟨Nat.le_of_ble_eq_true rfl, Nat.le_of_ble_eq_true rfl⟩ (by omega) n71 (show vwCl[4]? = some (RX4, TX4, 15) from rfl) rfl rfl (Nat.le_of_ble_eq_true rfl) dX4_bestKept_69 ⟨Nat.le_of_ble_eq_true rfl, Nat.le_of_ble_eq_true rfl⟩ (aft_I (fun f91 hF92 => ?_))
                          obtain ⟨hMo89, ow90⟩ := hF92
                          have hehMo89 := err_le (wds_le ho.1 (r := r) (by omega)) (wds_le ho.1 (r := r + 1 + d) (by omega)) (wds_lt (cur s) r) (wds_lt (cur s) (r + 1 + d)) (j)
                          refine r_iload_n C dX4_bestKept_72 rfl rfl ?_
                          refine r_icmp_gt (tgt := 80) C ⟨by omega, by omega⟩ ⟨by omega, by omega⟩ dX4_bestKept_73 (by decide) (fun b93 => ?_) (fun b93 => ?_)
                          · refine r_iconst C ((0 : Nat) : Int) (by decide) dX4_bestKept_80 ?_
                            refine r_istore_n (lv' := [(0, .ref (ad (88))), (1, .int (iI (lim))), (2, .int (iI ((j : Nat) : Int))), (3, .int (iI ((0 : Nat) : Int))), (4, .int (iI ((r : Nat) : Int))), (5, .int (iI ((r + 1 + d : Nat) : Int)))]) C dX4_bestKept_81 rfl (by decide) rfl ?_
                            refine r_iinc (lv' := [(0, .ref (ad (88))), (1, .int (iI (lim))), (2, .int (iI ((j : Nat) : Int))), (3, .int (iI ((0 : Nat) : Int))), (4, .int (iI ((r : Nat) : Int))), (5, .int (iI ((r + 1 + (d + 1) : Nat) : Int)))]) C ((r + 1 + (d + 1) : Nat) : Int) (by omega) dX4_bestKept_82 rfl (by decide) rfl ?_
                            refine r_goto (tgt := 48) C dX4_bestKept_85 (by decide) ?_
                            exact ih65 (d + 1) 0 f91 (fun q hq => ((ow90 _ (by omega))).trans (ho62 _ (by omega))) hMo89 (by omega) (bf_x (by omega) (by omega)) (by omega)
                          · refine r_iconst C ((1 : Nat) : Int) (by decide) dX4_bestKept_76 ?_
                            refine r_goto (tgt := 81) C dX4_bestKept_77 (by decide) ?_
                            refine r_istore_n (lv' := [(0, .ref (ad (88))), (1, .int (iI (lim))), (2, .int (iI ((j : Nat) : Int))), (3, .int (iI ((1 : Nat) : Int))), (4, .int (iI ((r : Nat) : Int))), (5, .int (iI ((r + 1 + d : Nat) : Int)))]) C dX4_bestKept_81 rfl (by decide) rfl ?_
                            refine r_iinc (lv' := [(0, .ref (ad (88))), (1, .int (iI (lim))), (2, .int (iI ((j : Nat) : Int))), (3, .int (iI ((1 : Nat) : Int))), (4, .int (iI ((r : Nat) : Int))), (5, .int (iI ((r + 1 + (d + 1) : Nat) : Int)))]) C ((r + 1 + (d + 1) : Nat) : Int) (by omega) dX4_bestKept_82 rfl (by decide) rfl ?_
                            refine r_goto (tgt := 48) C dX4_bestKept_85 (by decide) ?_
                            exact ih65 (d + 1) 1 f91 (fun q hq => ((ow90 _ (by omega))).trans (ho62 _ (by omega))) hMo89 (by omega) (bf_1 hB2 (by omega) (by omega)) (by omega)
                  exact hL63 _ 0 b f31 (fun _ _ => rfl) hMr (by omega) hB (Nat.lt_succ_self _)
          exact hL33 _ 0 1 f4 (fun _ _ => rfl) hMj (by omega) bf_0 (Nat.lt_succ_self _)
    exact hL6 _ 1 f (fun _ _ => rfl) hM (by omega) (by omega) (fun i g1 g2 => absurd g2 (by omega)) (Nat.lt_succ_self _)
  · refine r_bipush C ((-2)) (by decide) dX4_bestKept_11 ?_
    exact hret f ((-2)) _ _ dX4_bestKept_13 (by unfold aBst; rw [if_neg (by omega)]) (⟨hM, fun _ _ => rfl⟩)
set_option maxHeartbeats 4000000 in
set_option maxRecDepth 100000 in
/-- group -/
theorem c_X4_group (G : va_G) (tc : Nat → ClassId) (l : Launch) (ad : Nat → Nat) (N : Nat) (f : Nat → va_E) (s : SG) (hM : MI tc ad f s) (ho : okS s) (hN : 98 ≤ N) (z lim : Int) (hz : inR z) (hlim : inR lim)   : Ct G tc l yX4_group wsX4_group { frames := 4, cells := 0, slots := 0, locals := 97 } 0 0 [.ref (ad (88)), .int (iI (z)), .int (iI (lim))] ad N f (poI ad N (aGrp s z lim) (fun f' => MI tc ad f' s ∧ ∀ q, (q < 88 ∨ 98 ≤ q) → f' q = f q)) := by
  obtain ⟨⟨x1, x2, x3, x4, m88⟩, m89', ⟨bb, m90, hbb⟩, ⟨sb, m91, hsb⟩, ⟨ig, m92, hig⟩, m93, ⟨wc, wv, wo, wn, m94, m95, m96, m97⟩⟩ := id hM
  have m89 : f 89 = eI tc 655 (fun j => iI ((nwF ((cur s).1, (cur s).2.1, (cur s).2.2.1, (cur s).2.2.2) j : Nat) : Int)) := m89'
  obtain ⟨⟨⟨a1, a2⟩, ⟨a3, a4⟩, ⟨a5, a6⟩, a7, a8, a9, a10⟩, o2, o3, o4, o5, o6⟩ := id ho
  refine stI (cc := cX4_group) (maxL := 7) (lv := [(0, .ref (ad (88))), (1, .int (iI (z))), (2, .int (iI (lim)))]) (by decide) rfl (Nat.le_of_ble_eq_true rfl) rfl (fun X C hret => ?_)
  have m0 : Cond.fieldLink RX4 7 "WordSamplesModel" "now" "[I" ∈ wsX4_group := by decide +kernel
  have m1 : ∀ w ∈ wsX40, w ∈ wsX4_group := by decide +kernel
  have m2 : Cond.fieldLink RX4 102 "WordSamplesModel" "shared" "I" ∈ wsX4_group := by decide +kernel
  have m3 : Cond.fieldLink RX4 99 "WordSamplesModel" "common" "I" ∈ wsX4_group := by decide +kernel
  refine r_aload_n C dX4_group_0 rfl rfl ?_
  refine r_iload_n C dX4_group_1 rfl rfl ?_
  refine r_callV (As := [.int (iI (z))]) (rest := []) (na := 1) C (c_X4_isRow G tc l ad N _ s hM ho hN z hz) gX4_group_X4_isRow rfl rfl rfl (by decide +kernel) ⟨Nat.le_of_ble_eq_true rfl, Nat.le_of_ble_eq_true rfl⟩ (by omega) m88 (show vwCl[4]? = some (RX4, TX4, 15) from rfl) rfl rfl (Nat.le_of_ble_eq_true rfl) dX4_group_2 ⟨Nat.le_of_ble_eq_true rfl, Nat.le_of_ble_eq_true rfl⟩ (aft_I (fun f1 hF2 => ?_))
  rw [hF2]
  refine r_if_ne (tgt := 10) C ⟨by omega, by omega⟩ dX4_group_5 (by decide) (fun b3 => ?_) (fun b3 => ?_)
  · rw [show (.int (iI (z)) : Value) = .int (iI ((z.toNat : Nat) : Int)) from by rw [Int.toNat_of_nonneg (by omega)]]
    refine r_iload_n C dX4_group_10 rfl rfl ?_
    refine r_iconst C ((0 : Nat) : Int) (by decide) dX4_group_11 ?_
    refine r_sipush C ((10000 : Nat) : Int) (by decide) dX4_group_12 ?_
    refine r_callS (As := [.int (iI (lim)), .int (iI ((0 : Nat) : Int)), .int (iI ((10000 : Nat) : Int))]) (rest := []) (na := 3) C (c_X4_in G tc l ad N _ (lim) ((0 : Nat) : Int) ((10000 : Nat) : Int) ⟨by omega, by omega⟩ ⟨by omega, by omega⟩ ⟨by omega, by omega⟩) gX4_group_X4_in rfl rfl rfl (by decide +kernel) ⟨Nat.le_of_ble_eq_true rfl, Nat.le_of_ble_eq_true rfl⟩ rfl rfl (Nat.le_of_ble_eq_true rfl) dX4_group_15 ⟨Nat.le_of_ble_eq_true rfl, Nat.le_of_ble_eq_true rfl⟩ (aft_I (fun f4 hF5 => ?_))
    rw [hF5]
    refine r_if_ne (tgt := 24) C ⟨by omega, by omega⟩ dX4_group_18 (by decide) (fun b6 => ?_) (fun b6 => ?_)
    · refine r_iconst C ((1 : Nat) : Int) (by decide) dX4_group_24 ?_
      refine r_iload_n C dX4_group_25 rfl rfl ?_
      refine r_ishl C dX4_group_26 ?_
      rw [show (.int ((iI ((1 : Nat) : Int)) <<< ((iI ((z.toNat : Nat) : Int)) &&& 31)) : Value) = .int (iI ((2 ^ z.toNat : Nat) : Int)) from by rw [iI_shl1 (by omega)]]
      refine r_istore_n (lv' := [(0, .ref (ad (88))), (1, .int (iI ((z.toNat : Nat) : Int))), (2, .int (iI (lim))), (3, .int (iI ((2 ^ z.toNat : Nat) : Int)))]) C dX4_group_27 rfl (by decide) rfl ?_
      refine r_iconst C ((0 : Nat) : Int) (by decide) dX4_group_28 ?_
      refine r_istore (lv' := [(0, .ref (ad (88))), (1, .int (iI ((z.toNat : Nat) : Int))), (2, .int (iI (lim))), (3, .int (iI ((2 ^ z.toNat : Nat) : Int))), (4, .int (iI ((0 : Nat) : Int)))]) C dX4_group_29 (by decide) rfl ?_
      have hL9 : ∀ (m_10 : Nat) (k : Nat) (m : Nat) (f7 : Nat → va_E) (ho8 : ∀ q, (q < 88 ∨ 98 ≤ q) → f7 q = f q) (hMk : MI tc ad f7 s) (hk : k ≤ (cur s).2.2.2) (hG : GI (edg (cur s) lim) (cur s).2.2.2 z.toNat m k), (cur s).2.2.2 - k < m_10 → VV X ad N f7 0 0 31 [(0, .ref (ad (88))), (1, .int (iI ((z.toNat : Nat) : Int))), (2, .int (iI (lim))), (3, .int (iI ((m : Nat) : Int))), (4, .int (iI ((k : Nat) : Int)))] [] := by
        intro m_10
        induction m_10 with
        | zero => intros; omega
        | succ m_10 ih11 =>
          intro k m f7 ho8 hMk hk hG hm12
          obtain ⟨⟨n13, n14, n15, n16, n17⟩, n18, -, -, -, -, ⟨n19, n20, n21, n22, n23, n24, n25, n26⟩⟩ := id hMk
          have n27 : f7 89 = eI tc 655 (fun j => iI ((nwF ((cur s).1, (cur s).2.1, (cur s).2.2.1, (cur s).2.2.2) j : Nat) : Int)) := n18
          have hm := bits_lt (by omega) hG.1.1
          refine r_iload C dX4_group_31 rfl ?_
          refine r_aload_n C dX4_group_33 rfl rfl ?_
          refine r_get (v := .ref (ad (89))) C (by omega) n17 (show vwCl[4]? = some (RX4, TX4, 15) from rfl) m1 0 (by decide) m0 rfl rfl dX4_group_34 ?_
          refine r_iconst C ((4 : Nat) : Int) (by decide) dX4_group_37 ?_
          refine r_iald (x := (iI (((cur s).2.2.2 : Nat) : Int))) C (by omega) n27 (4) rfl (by omega) (Nat.le_of_ble_eq_true rfl) (rfl) dX4_group_38 ?_
          refine r_icmp_ge (tgt := 147) C ⟨by omega, by omega⟩ ⟨by omega, by omega⟩ dX4_group_39 (by decide) (fun b33 => ?_) (fun b33 => ?_)
          · refine r_iconst C ((0 : Nat) : Int) (by decide) dX4_group_147 ?_
            refine r_istore (lv' := [(0, .ref (ad (88))), (1, .int (iI ((z.toNat : Nat) : Int))), (2, .int (iI (lim))), (3, .int (iI ((m : Nat) : Int))), (4, .int (iI ((0 : Nat) : Int)))]) C dX4_group_148 (by decide) rfl ?_
            have hL34 : ∀ (m_35 : Nat) (x : Nat) (hx : x ≤ z.toNat) (hxb : ∀ j, j < x → m.testBit j = false), z.toNat - x < m_35 → VV X ad N f7 0 0 150 [(0, .ref (ad (88))), (1, .int (iI ((z.toNat : Nat) : Int))), (2, .int (iI (lim))), (3, .int (iI ((m : Nat) : Int))), (4, .int (iI ((x : Nat) : Int)))] [] := by
              intro m_35
              induction m_35 with
              | zero => intros; omega
              | succ m_35 ih36 =>
                intro x hx hxb hm37
                refine r_iload_n C dX4_group_150 rfl rfl ?_
                refine r_iload C dX4_group_151 rfl ?_
                refine r_ishr C dX4_group_153 ?_
                refine r_iconst C ((1 : Nat) : Int) (by decide) dX4_group_154 ?_
                have hb4 := bi_le m x
                refine r_iand C dX4_group_155 ?_
                rw [show (.int (((iI ((m : Nat) : Int)) >>> ((iI ((x : Nat) : Int)) &&& 31)) &&& (iI ((1 : Nat) : Int))) : Value) = .int (iI ((bi m x : Nat) : Int)) from by rw [bt1 (by omega) (by omega)]]
                refine r_if_ne (tgt := 165) C ⟨by omega, by omega⟩ dX4_group_156 (by decide) (fun b_x => ?_) (fun b_x => ?_)
                · refine r_iload C dX4_group_165 rfl ?_
                  exact hret f7 ((x : Nat) : Int) _ _ dX4_group_167 (by unfold aGrp; rw [if_pos (by omega), if_pos (by omega), grp_eq (gi_end hG (by omega) hxb (bi_n b_x))]) (⟨hMk, fun q hq => (ho8 _ (by omega))⟩)
                · refine r_iinc (lv' := [(0, .ref (ad (88))), (1, .int (iI ((z.toNat : Nat) : Int))), (2, .int (iI (lim))), (3, .int (iI ((m : Nat) : Int))), (4, .int (iI ((x + 1 : Nat) : Int)))]) C ((x + 1 : Nat) : Int) (by omega) dX4_group_159 rfl (by decide) rfl ?_
                  refine r_goto (tgt := 150) C dX4_group_162 (by decide) ?_
                  exact ih36 (x + 1) (bit_nx hG.1.2.1 hx (bi_0 b_x)) (fun j hj => if h : j < x then hxb j h else (by have e : j = x := (by omega); rw [e]; exact bi_0 b_x)) (by have := bit_nx hG.1.2.1 hx (bi_0 b_x); omega)
            exact hL34 _ 0 (by omega) (fun j hj => absurd hj (Nat.not_lt_zero _)) (Nat.lt_succ_self _)
          · refine r_iconst C ((0 : Nat) : Int) (by decide) dX4_group_42 ?_
            refine r_istore (lv' := [(0, .ref (ad (88))), (1, .int (iI ((z.toNat : Nat) : Int))), (2, .int (iI (lim))), (3, .int (iI ((m : Nat) : Int))), (4, .int (iI ((k : Nat) : Int))), (5, .int (iI ((0 : Nat) : Int)))]) C dX4_group_43 (by decide) rfl ?_
            have hL40 : ∀ (m_41 : Nat) (r : Nat) (mr : Nat) (f38 : Nat → va_E) (ho39 : ∀ q, (q < 88 ∨ 98 ≤ q) → f38 q = f7 q) (hMr : MI tc ad f38 s) (hr : r ≤ (cur s).2.2.2) (hP : GP (edg (cur s) lim) (cur s).2.2.2 z.toNat m mr r 0), (cur s).2.2.2 - r < m_41 → VV X ad N f38 0 0 45 [(0, .ref (ad (88))), (1, .int (iI ((z.toNat : Nat) : Int))), (2, .int (iI (lim))), (3, .int (iI ((mr : Nat) : Int))), (4, .int (iI ((k : Nat) : Int))), (5, .int (iI ((r : Nat) : Int)))] [] := by
              intro m_41
              induction m_41 with
              | zero => intros; omega
              | succ m_41 ih42 =>
                intro r mr f38 ho39 hMr hr hP hm43
                obtain ⟨⟨n44, n45, n46, n47, n48⟩, n49, -, -, -, -, ⟨n50, n51, n52, n53, n54, n55, n56, n57⟩⟩ := id hMr
                have n58 : f38 89 = eI tc 655 (fun j => iI ((nwF ((cur s).1, (cur s).2.1, (cur s).2.2.1, (cur s).2.2.2) j : Nat) : Int)) := n49
                refine r_iload C dX4_group_45 rfl ?_
                refine r_aload_n C dX4_group_47 rfl rfl ?_
                refine r_get (v := .ref (ad (89))) C (by omega) n48 (show vwCl[4]? = some (RX4, TX4, 15) from rfl) m1 0 (by decide) m0 rfl rfl dX4_group_48 ?_
                refine r_iconst C ((4 : Nat) : Int) (by decide) dX4_group_51 ?_
                refine r_iald (x := (iI (((cur s).2.2.2 : Nat) : Int))) C (by omega) n58 (4) rfl (by omega) (Nat.le_of_ble_eq_true rfl) (rfl) dX4_group_52 ?_
                refine r_icmp_ge (tgt := 141) C ⟨by omega, by omega⟩ ⟨by omega, by omega⟩ dX4_group_53 (by decide) (fun b64 => ?_) (fun b64 => ?_)
                · refine r_iinc (lv' := [(0, .ref (ad (88))), (1, .int (iI ((z.toNat : Nat) : Int))), (2, .int (iI (lim))), (3, .int (iI ((mr : Nat) : Int))), (4, .int (iI ((k + 1 : Nat) : Int))), (5, .int (iI ((r : Nat) : Int)))]) C ((k + 1 : Nat) : Int) (by omega) dX4_group_141 rfl (by decide) rfl ?_
                  refine r_goto (tgt := 31) C dX4_group_144 (by decide) ?_
                  refine r_sub (ks := [0, 1, 2, 3, 4]) (lv' := [(0, .ref (ad (88))), (1, .int (iI ((z.toNat : Nat) : Int))), (2, .int (iI (lim))), (3, .int (iI ((mr : Nat) : Int))), (4, .int (iI ((k + 1 : Nat) : Int)))]) rfl ?_
                  exact ih11 (k + 1) mr f38 (fun q hq => ((ho39 _ (by omega))).trans (ho8 _ (by omega))) hMr (by omega) (gi_s hG hP (by omega)) (by omega)
                · refine r_iconst C ((0 : Nat) : Int) (by decide) dX4_group_56 ?_
                  refine r_istore (lv' := [(0, .ref (ad (88))), (1, .int (iI ((z.toNat : Nat) : Int))), (2, .int (iI (lim))), (3, .int (iI ((mr : Nat) : Int))), (4, .int (iI ((k : Nat) : Int))), (5, .int (iI ((r : Nat) : Int))), (6, .int (iI ((0 : Nat) : Int)))]) C dX4_group_57 (by decide) rfl ?_
                  have hL67 : ∀ (m_68 : Nat) (o : Nat) (mo : Nat) (f65 : Nat → va_E) (ho66 : ∀ q, (q < 88 ∨ 98 ≤ q) → f65 q = f38 q) (hMo : MI tc ad f65 s) (hoR : o ≤ (cur s).2.2.2) (hP2 : GP (edg (cur s) lim) (cur s).2.2.2 z.toNat m mo r o), (cur s).2.2.2 - o < m_68 → VV X ad N f65 0 0 59 [(0, .ref (ad (88))), (1, .int (iI ((z.toNat : Nat) : Int))), (2, .int (iI (lim))), (3, .int (iI ((mo : Nat) : Int))), (4, .int (iI ((k : Nat) : Int))), (5, .int (iI ((r : Nat) : Int))), (6, .int (iI ((o : Nat) : Int)))] [] := by
                    intro m_68
                    induction m_68 with
                    | zero => intros; omega
                    | succ m_68 ih69 =>
                      intro o mo f65 ho66 hMo hoR hP2 hm70
                      obtain ⟨⟨n71, n72, n73, n74, n75⟩, n76, -, -, -, -, ⟨n77, n78, n79, n80, n81, n82, n83, n84⟩⟩ := id hMo
                      have n85 : f65 89 = eI tc 655 (fun j => iI ((nwF ((cur s).1, (cur s).2.1, (cur s).2.2.1, (cur s).2.2.2) j : Nat) : Int)) := n76
                      have hm2 := bits_lt (by omega) hP2.1.1
                      refine r_iload C dX4_group_59 rfl ?_
                      refine r_aload_n C dX4_group_61 rfl rfl ?_
                      refine r_get (v := .ref (ad (89))) C (by omega) n75 (show vwCl[4]? = some (RX4, TX4, 15) from rfl) m1 0 (by decide) m0 rfl rfl dX4_group_62 ?_
                      refine r_iconst C ((4 : Nat) : Int) (by decide) dX4_group_65 ?_
                      refine r_iald (x := (iI (((cur s).2.2.2 : Nat) : Int))) C (by omega) n85 (4) rfl (by omega) (Nat.le_of_ble_eq_true rfl) (rfl) dX4_group_66 ?_
                      refine r_icmp_ge (tgt := 135) C ⟨by omega, by omega⟩ ⟨by omega, by omega⟩ dX4_group_67 (by decide) (fun b91 => ?_) (fun b91 => ?_)
                      · refine r_iinc (lv' := [(0, .ref (ad (88))), (1, .int (iI ((z.toNat : Nat) : Int))), (2, .int (iI (lim))), (3, .int (iI ((mo : Nat) : Int))), (4, .int (iI ((k : Nat) : Int))), (5, .int (iI ((r + 1 : Nat) : Int))), (6, .int (iI ((o : Nat) : Int)))]) C ((r + 1 : Nat) : Int) (by omega) dX4_group_135 rfl (by decide) rfl ?_
                        refine r_goto (tgt := 45) C dX4_group_138 (by decide) ?_
                        refine r_sub (ks := [0, 1, 2, 3, 4, 5]) (lv' := [(0, .ref (ad (88))), (1, .int (iI ((z.toNat : Nat) : Int))), (2, .int (iI (lim))), (3, .int (iI ((mo : Nat) : Int))), (4, .int (iI ((k : Nat) : Int))), (5, .int (iI ((r + 1 : Nat) : Int)))]) rfl ?_
                        exact ih42 (r + 1) mo f65 (fun q hq => ((ho66 _ (by omega))).trans (ho39 _ (by omega))) hMo (by omega) (gp_out hP2 (Or.inl (by omega))) (by omega)
                      · refine r_iload_n C dX4_group_70 rfl rfl ?_
                        refine r_iload C dX4_group_71 rfl ?_
                        refine r_ishr C dX4_group_73 ?_
                        refine r_iconst C ((1 : Nat) : Int) (by decide) dX4_group_74 ?_
                        have hb2 := bi_le mo r
                        refine r_iand C dX4_group_75 ?_
                        rw [show (.int (((iI ((mo : Nat) : Int)) >>> ((iI ((r : Nat) : Int)) &&& 31)) &&& (iI ((1 : Nat) : Int))) : Value) = .int (iI ((bi mo r : Nat) : Int)) from by rw [bt1 (by omega) (by omega)]]
                        refine r_iconst C ((1 : Nat) : Int) (by decide) dX4_group_76 ?_
                        refine r_icmp_ne (tgt := 135) C ⟨by omega, by omega⟩ ⟨by omega, by omega⟩ dX4_group_77 (by decide) (fun b_r => ?_) (fun b_r => ?_)
                        · refine r_iinc (lv' := [(0, .ref (ad (88))), (1, .int (iI ((z.toNat : Nat) : Int))), (2, .int (iI (lim))), (3, .int (iI ((mo : Nat) : Int))), (4, .int (iI ((k : Nat) : Int))), (5, .int (iI ((r + 1 : Nat) : Int))), (6, .int (iI ((o : Nat) : Int)))]) C ((r + 1 : Nat) : Int) (by omega) dX4_group_135 rfl (by decide) rfl ?_
                          refine r_goto (tgt := 45) C dX4_group_138 (by decide) ?_
                          refine r_sub (ks := [0, 1, 2, 3, 4, 5]) (lv' := [(0, .ref (ad (88))), (1, .int (iI ((z.toNat : Nat) : Int))), (2, .int (iI (lim))), (3, .int (iI ((mo : Nat) : Int))), (4, .int (iI ((k : Nat) : Int))), (5, .int (iI ((r + 1 : Nat) : Int)))]) rfl ?_
                          exact ih42 (r + 1) mo f65 (fun q hq => ((ho66 _ (by omega))).trans (ho39 _ (by omega))) hMo (by omega) (gp_out hP2 (Or.inr (bi_n1 b_r))) (by omega)
                        · refine r_iload_n C dX4_group_80 rfl rfl ?_
                          refine r_iload C dX4_group_81 rfl ?_
                          refine r_ishr C dX4_group_83 ?_
                          refine r_iconst C ((1 : Nat) : Int) (by decide) dX4_group_84 ?_
                          have hb3 := bi_le mo o
                          refine r_iand C dX4_group_85 ?_
                          rw [show (.int (((iI ((mo : Nat) : Int)) >>> ((iI ((o : Nat) : Int)) &&& 31)) &&& (iI ((1 : Nat) : Int))) : Value) = .int (iI ((bi mo o : Nat) : Int)) from by rw [bt1 (by omega) (by omega)]]
                          refine r_if_ne (tgt := 129) C ⟨by omega, by omega⟩ dX4_group_86 (by decide) (fun b_o => ?_) (fun b_o => ?_)
                          · refine r_iinc (lv' := [(0, .ref (ad (88))), (1, .int (iI ((z.toNat : Nat) : Int))), (2, .int (iI (lim))), (3, .int (iI ((mo : Nat) : Int))), (4, .int (iI ((k : Nat) : Int))), (5, .int (iI ((r : Nat) : Int))), (6, .int (iI ((o + 1 : Nat) : Int)))]) C ((o + 1 : Nat) : Int) (by omega) dX4_group_129 rfl (by decide) rfl ?_
                            refine r_goto (tgt := 59) C dX4_group_132 (by decide) ?_
                            exact ih69 (o + 1) mo f65 (fun q hq => (ho66 _ (by omega))) hMo (by omega) (gp_set hP2 (bi_n b_o)) (by omega)
                          · refine r_aload_n C dX4_group_89 rfl rfl ?_
                            refine r_iload C dX4_group_90 rfl ?_
                            refine r_iload C dX4_group_92 rfl ?_
                            refine r_aload_n C dX4_group_94 rfl rfl ?_
                            refine r_get (v := .ref (ad (89))) C (by omega) n75 (show vwCl[4]? = some (RX4, TX4, 15) from rfl) m1 0 (by decide) m0 rfl rfl dX4_group_95 ?_
                            refine r_iconst C ((1 : Nat) : Int) (by decide) dX4_group_98 ?_
                            refine r_iald (x := (iI (((cur s).1 1 : Nat) : Int))) C (by omega) n85 (1) rfl (by omega) (Nat.le_of_ble_eq_true rfl) (rfl) dX4_group_99 ?_
                            refine r_callV (As := [.int (iI ((r : Nat) : Int)), .int (iI ((o : Nat) : Int)), .int (iI (((cur s).1 1 : Nat) : Int))]) (rest := []) (na := 3) C (c_X4_compare G tc l ad N _ s hMo ho hN r o ((cur s).1 1) (by omega) (by omega) (by omega) _ _ rfl rfl) gX4_group_X4_compare rfl rfl rfl (by decide +kernel) ⟨Nat.le_of_ble_eq_true rfl, Nat.le_of_ble_eq_true rfl⟩ (by omega) n75 (show vwCl[4]? = some (RX4, TX4, 15) from rfl) rfl rfl (Nat.le_of_ble_eq_true rfl) dX4_group_100 ⟨Nat.le_of_ble_eq_true rfl, Nat.le_of_ble_eq_true rfl⟩ (aft_V (fun f105 hF106 => ?_))
                            obtain ⟨⟨c92, v93, o94, n95, k96, k97, k98, k99, hWa101, hWb102⟩, k100, ow103⟩ := hF106
                            have e1041 := wds_le ho.1 (r := r) (by omega)
                            have e1042 := wds_le ho.1 (r := o) (by omega)
                            have e1043 := eb_le (wds_lt (cur s) r) (wds_lt (cur s) o)
                            have e1044 := lcw_le (wds_lt (cur s) r) (wds_lt (cur s) o) ((cur s).1 1)
                            have e1045 := mcw_le (wds_lt (cur s) r) (wds_lt (cur s) o) ((cur s).1 1)
                            have e1046 := cmw_le (wds (cur s) r) (wds (cur s) o) ((cur s).1 1)
                            have e1047 := mcw_rst (wds (cur s) r) (wds (cur s) o) ((cur s).1 1)
                            refine r_iload_n C dX4_group_103 rfl rfl ?_
                            refine r_aload_n C dX4_group_104 rfl rfl ?_
                            refine r_get (v := .int (iI ((lcw (wds (cur s) r) (wds (cur s) o) ((cur s).1 1) : Nat) : Int))) C (by omega) k100 (show vwCl[4]? = some (RX4, TX4, 15) from rfl) m1 12 (by decide) m2 rfl rfl dX4_group_105 ?_
                            refine r_aload_n C dX4_group_108 rfl rfl ?_
                            refine r_get (v := .int (iI ((cmw (wds (cur s) r) (wds (cur s) o) ((cur s).1 1) : Nat) : Int))) C (by omega) k100 (show vwCl[4]? = some (RX4, TX4, 15) from rfl) m1 11 (by decide) m3 rfl rfl dX4_group_109 ?_
                            refine r_callS (As := [.int (iI ((lcw (wds (cur s) r) (wds (cur s) o) ((cur s).1 1) : Nat) : Int)), .int (iI ((cmw (wds (cur s) r) (wds (cur s) o) ((cur s).1 1) : Nat) : Int))]) (rest := [.int (iI ((mo : Nat) : Int))]) (na := 2) C (c_X4_share G tc l ad N _ (lcw (wds (cur s) r) (wds (cur s) o) ((cur s).1 1)) (cmw (wds (cur s) r) (wds (cur s) o) ((cur s).1 1)) (by omega) (by omega)) gX4_group_X4_share rfl rfl rfl (by decide +kernel) ⟨Nat.le_of_ble_eq_true rfl, Nat.le_of_ble_eq_true rfl⟩ rfl rfl (Nat.le_of_ble_eq_true rfl) dX4_group_112 ⟨Nat.le_of_ble_eq_true rfl, Nat.le_of_ble_eq_true rfl⟩ (aft_I (fun f107 hF108 => ?_))
                            rw [hF108]
                            have htl := tol_le (wds_le ho.1 (r := r) (by omega)) (wds_lt (cur s) r) (wds_lt (cur s) o) ((cur s).1 1)
                            have htd : tol (wds (cur s) r) (wds (cur s) o) ((cur s).1 1) = shd (lcw (wds (cur s) r) (wds (cur s) o) ((cur s).1 1)) (cmw (wds (cur s) r) (wds (cur s) o) ((cur s).1 1)) := rfl
                            refine r_iload_n C dX4_group_115 rfl rfl ?_
                            refine r_icmp_lt (tgt := 126) C ⟨by omega, by omega⟩ ⟨by omega, by omega⟩ dX4_group_116 (by decide) (fun b109 => ?_) (fun b109 => ?_)
                            · refine r_iconst C ((0 : Nat) : Int) (by decide) dX4_group_126 ?_
                              refine r_ior C dX4_group_127 ?_
                              rw [show (.int ((iI ((mo : Nat) : Int)) ||| (iI ((0 : Nat) : Int))) : Value) = .int (iI ((mo : Nat) : Int)) from by rw [iI_or, Nat.or_zero]]
                              refine r_istore_n (lv' := [(0, .ref (ad (88))), (1, .int (iI ((z.toNat : Nat) : Int))), (2, .int (iI (lim))), (3, .int (iI ((mo : Nat) : Int))), (4, .int (iI ((k : Nat) : Int))), (5, .int (iI ((r : Nat) : Int))), (6, .int (iI ((o : Nat) : Int)))]) C dX4_group_128 rfl (by decide) rfl ?_
                              refine r_iinc (lv' := [(0, .ref (ad (88))), (1, .int (iI ((z.toNat : Nat) : Int))), (2, .int (iI (lim))), (3, .int (iI ((mo : Nat) : Int))), (4, .int (iI ((k : Nat) : Int))), (5, .int (iI ((r : Nat) : Int))), (6, .int (iI ((o + 1 : Nat) : Int)))]) C ((o + 1 : Nat) : Int) (by omega) dX4_group_129 rfl (by decide) rfl ?_
                              refine r_goto (tgt := 59) C dX4_group_132 (by decide) ?_
                              have hMi110 : MI tc ad f105 s := M_re hMo k100 k96 k97 k98 k99 (fun q g1 g2 => (ow103 _ (by omega)))
                              exact ih69 (o + 1) mo f105 (fun q hq => ((ow103 _ (by omega))).trans (ho66 _ (by omega))) hMi110 (by omega) (gp_no hP2 (decide_eq_false (by omega))) (by omega)
                            · refine r_iconst C ((1 : Nat) : Int) (by decide) dX4_group_119 ?_
                              refine r_iload C dX4_group_120 rfl ?_
                              refine r_ishl C dX4_group_122 ?_
                              rw [show (.int ((iI ((1 : Nat) : Int)) <<< ((iI ((o : Nat) : Int)) &&& 31)) : Value) = .int (iI ((2 ^ o : Nat) : Int)) from by rw [iI_shl1 (by omega)]]
                              refine r_goto (tgt := 127) C dX4_group_123 (by decide) ?_
                              refine r_ior C dX4_group_127 ?_
                              rw [show (.int ((iI ((mo : Nat) : Int)) ||| (iI ((2 ^ o : Nat) : Int))) : Value) = .int (iI ((mo ||| 2 ^ o : Nat) : Int)) from by rw [iI_or]]
                              refine r_istore_n (lv' := [(0, .ref (ad (88))), (1, .int (iI ((z.toNat : Nat) : Int))), (2, .int (iI (lim))), (3, .int (iI ((mo ||| 2 ^ o : Nat) : Int))), (4, .int (iI ((k : Nat) : Int))), (5, .int (iI ((r : Nat) : Int))), (6, .int (iI ((o : Nat) : Int)))]) C dX4_group_128 rfl (by decide) rfl ?_
                              refine r_iinc (lv' := [(0, .ref (ad (88))), (1, .int (iI ((z.toNat : Nat) : Int))), (2, .int (iI (lim))), (3, .int (iI ((mo ||| 2 ^ o : Nat) : Int))), (4, .int (iI ((k : Nat) : Int))), (5, .int (iI ((r : Nat) : Int))), (6, .int (iI ((o + 1 : Nat) : Int)))]) C ((o + 1 : Nat) : Int) (by omega) dX4_group_129 rfl (by decide) rfl ?_
                              refine r_goto (tgt := 59) C dX4_group_132 (by decide) ?_
                              have hMi111 : MI tc ad f105 s := M_re hMo k100 k96 k97 k98 k99 (fun q g1 g2 => (ow103 _ (by omega)))
                              exact ih69 (o + 1) (mo ||| 2 ^ o) f105 (fun q hq => ((ow103 _ (by omega))).trans (ho66 _ (by omega))) hMi111 (by omega) (gp_new hP2 (bi_1 b_r) (by omega) (by omega) (decide_eq_true (by omega))) (by omega)
                  exact hL67 _ 0 mr f38 (fun _ _ => rfl) hMr (by omega) hP (Nat.lt_succ_self _)
            exact hL40 _ 0 m f7 (fun _ _ => rfl) hMk (by omega) (gp_0 hG) (Nat.lt_succ_self _)
      exact hL9 _ 0 (2 ^ z.toNat) f (fun _ _ => rfl) hM (by omega) (gi_0 (by omega)) (Nat.lt_succ_self _)
    · refine r_bipush C ((-2)) (by decide) dX4_group_21 ?_
      exact hret f ((-2)) _ _ dX4_group_23 (by unfold aGrp; rw [if_pos (by omega), if_neg (by omega)]) (⟨hM, fun _ _ => rfl⟩)
  · refine r_iconst C ((-1)) (by decide) dX4_group_8 ?_
    exact hret f ((-1)) _ _ dX4_group_9 (by unfold aGrp; rw [if_neg (by omega)]) (⟨hM, fun _ _ => rfl⟩)
end MD1
