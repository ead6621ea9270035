section XC1
theorem ins_srt {w : WW} {x c : Nat} (hs : ∀ i j, i < j → j < w.1 → w.2.1 i < w.2.1 j) : ∀ i j, i < j → j < (ins w x c).1 → (ins w x c).2.1 i < (ins w x c).2.1 j := by
  intro i j hij hj
  have h1 := posn_le w.2.1 x w.1
  have h2 := posn_lt w.2.1 x w.1
  have h3 := posn_ge w.2.1 x w.1
  unfold ins at hj ⊢
  split
  · rename_i h
    rw [if_pos h] at hj
    exact hs i j hij hj
  · rename_i h
    rw [if_neg h] at hj
    dsimp only at hj ⊢
    generalize hp : posn w.2.1 x w.1 = p at *
    have hpx : ∀ m, p ≤ m → m < w.1 → x < w.2.1 m := by
      intro m hm hmw
      have a1 := h3 (by omega)
      have a2 : ¬ w.2.1 p = x := fun e => h ⟨by omega, e⟩
      rcases Nat.lt_or_ge p m with q | q
      · have := hs p m q hmw
        omega
      · have e : m = p := by omega
        subst e
        omega
    unfold insF
    by_cases c1 : j < p
    · rw [if_pos (by omega), if_pos c1]
      exact hs i j hij (by omega)
    · rw [if_neg c1]
      by_cases c2 : j = p
      · rw [if_pos c2, if_pos (show i < p by omega)]
        exact h2 i (by omega)
      · rw [if_neg c2, if_pos (show j ≤ w.1 by omega)]
        by_cases c3 : i < p
        · rw [if_pos c3]
          have := h2 i c3
          have := hpx (j - 1) (by omega) (by omega)
          omega
        · rw [if_neg c3]
          by_cases c4 : i = p
          · rw [if_pos c4]
            exact hpx (j - 1) (by omega) (by omega)
          · rw [if_neg c4, if_pos (by omega)]
            exact hs (i - 1) (j - 1) (by omega) (by omega)
theorem gth_srt (n : NS) (r : Nat) : ∀ p i j, i < j → j < (gth n r p).1 → (gth n r p).2.1 i < (gth n r p).2.1 j
  | 0, _, j, _, h => absurd h (Nat.not_lt_zero _)
  | p + 1, i, j, hij, hj => ins_srt (gth_srt n r p) i j hij hj
theorem wds_srt (n : NS) (r : Nat) : ∀ i j, i < j → j < (wds n r).1 → (wds n r).2.1 i < (wds n r).2.1 j := gth_srt n r _
def lea (n : NS) (h : Nat → Nat) : Nat → Nat
  | 0 => 1000003
  | k + 1 => min (lea n h k) (vatN (wds n k) (h k))
theorem lea_le (n : NS) (h : Nat → Nat) : ∀ k, lea n h k ≤ 1000003
  | 0 => Nat.le_refl _
  | k + 1 => by
    have := lea_le n h k
    rw [lea]
    omega
theorem lea_mn (n : NS) (h : Nat → Nat) : ∀ k r, r < k → lea n h k ≤ vatN (wds n r) (h r)
  | 0, r, hr => absurd hr (Nat.not_lt_zero _)
  | k + 1, r, hr => by
    rw [lea]
    rcases Nat.lt_or_ge r k with q | q
    · have := lea_mn n h k r q
      omega
    · have e : r = k := by omega
      subst e
      omega
theorem lea_ex (n : NS) (h : Nat → Nat) : ∀ k, lea n h k ≠ 1000003 → ∃ r, r < k ∧ vatN (wds n r) (h r) = lea n h k
  | 0, hn => absurd rfl hn
  | k + 1, hn => by
    rw [lea] at hn ⊢
    have h1 := lea_le n h k
    rcases Nat.lt_or_ge (vatN (wds n k) (h k)) (lea n h k) with q | q
    · exact ⟨k, by omega, by omega⟩
    · obtain ⟨r, a, b⟩ := lea_ex n h k (by omega)
      exact ⟨r, by omega, by omega⟩
def pas (n : NS) (h : Nat → Nat) (x r : Nat) : Nat := if vatN (wds n r) (h r) = x then h r + 1 else h r
theorem pas_upd {n : NS} {h : Nat → Nat} {x k r : Nat} {g : Nat → Int32} (hg : ∀ r, r < n.2.2.2 → g r = iI (((if r < k then pas n h x r else h r) : Nat) : Int)) (hr : r < n.2.2.2) (hx : vatN (wds n k) (h k) = x) : upd g k (iI ((h k + 1 : Nat) : Int)) r = iI (((if r < k + 1 then pas n h x r else h r) : Nat) : Int) := by
  unfold upd
  by_cases e : r = k
  · rw [if_pos e, if_pos (by omega), e, pas, if_pos hx]
  · rw [if_neg e, hg r hr]
    by_cases q : r < k
    · rw [if_pos q, if_pos (by omega)]
    · rw [if_neg q, if_neg (by omega)]
theorem pas_old {n : NS} {h : Nat → Nat} {x k r : Nat} {g : Nat → Int32} (hg : ∀ r, r < n.2.2.2 → g r = iI (((if r < k then pas n h x r else h r) : Nat) : Int)) (hr : r < n.2.2.2) (hx : ¬ vatN (wds n k) (h k) = x) : g r = iI (((if r < k + 1 then pas n h x r else h r) : Nat) : Int) := by
  rw [hg r hr]
  by_cases e : r = k
  · rw [if_neg (by omega), if_pos (by omega), e, pas, if_neg hx]
  · by_cases q : r < k
    · rw [if_pos q, if_pos (by omega)]
    · rw [if_neg q, if_neg (by omega)]
theorem XI_hd {tc : Nat → ClassId} {ad : Nat → Nat} {f f' : Nat → va_E} {s : SG} {g : Nat → Int32} (hX : XI tc ad f s) (h : f' 87 = eI tc 10 g) (hfr : ∀ q, q ≠ 87 → f' q = f q) : XI tc ad f' s := by
  obtain ⟨h0, hs, jH, jS, j40, jW, jP, jD⟩ := hX
  exact ⟨(hfr _ (by omega)).trans h0, hs.fr (fun q _ _ => hfr q (by omega)), jH.fr (fun q _ _ => hfr q (by omega)), jS.fr (fun q _ _ => hfr q (by omega)), j40.fr (hfr _ (by omega)), jW.fr (fun q _ _ => hfr q (by omega)), jP.fr (fun q _ _ => hfr q (by omega)), ⟨g, h⟩⟩
/-- a value stands among the words of a row ahead -/
noncomputable def inE (n : NS) (r x : Nat) : Bool := @decide (∃ r', r' < r ∧ ∃ i, i < (wds n r').1 ∧ (wds n r').2.1 i = x) (Classical.propDecidable _)
theorem inE_iff {n : NS} {r x : Nat} : inE n r x = true ↔ ∃ r', r' < r ∧ ∃ i, i < (wds n r').1 ∧ (wds n r').2.1 i = x := by
  unfold inE
  exact @decide_eq_true_iff _ (Classical.propDecidable _)
noncomputable def usum (n : NS) (h : Nat → Nat) : Nat → Nat
  | 0 => 0
  | r + 1 => usum n h r + cnb (fun i => !inE n r ((wds n r).2.1 i)) (h r)
noncomputable def dst (n : NS) : Nat := usum n (fun r => (wds n r).1) n.2.2.2
def hsum (h : Nat → Nat) : Nat → Nat
  | 0 => 0
  | r + 1 => hsum h r + h r
def DI (n : NS) (h : Nat → Nat) (d k : Nat) : Prop := (∀ r, r < n.2.2.2 → h r ≤ (wds n r).1) ∧ (∀ r, r < n.2.2.2 → ∀ i, i < h r → ∀ r', r' < n.2.2.2 → ∀ j, h r' ≤ j → j < (wds n r').1 → (wds n r).2.1 i < (wds n r').2.1 j) ∧ d = usum n h n.2.2.2 ∧ k ≤ hsum h n.2.2.2
theorem usum_0 (n : NS) : ∀ R, usum n (fun _ => 0) R = 0
  | 0 => rfl
  | R + 1 => by rw [usum, usum_0 n R]; rfl
theorem usum_cong {n : NS} {h h' : Nat → Nat} : ∀ {R : Nat}, (∀ r, r < R → h r = h' r) → usum n h R = usum n h' R
  | 0, _ => rfl
  | R + 1, e => by rw [usum, usum, usum_cong (fun r hr => e r (by omega)), e R (by omega)]
theorem DI_0 {n : NS} : DI n (fun _ => 0) 0 0 := ⟨fun _ _ => Nat.zero_le _, fun _ _ i hi => absurd hi (Nat.not_lt_zero _), (usum_0 n _).symm, Nat.zero_le _⟩
theorem DI_s {n : NS} {h : Nat → Nat} {d k : Nat} (hI : DI n h d k) (hx : ¬ lea n h n.2.2.2 = 1000003) : DI n (pas n h (lea n h n.2.2.2)) (d + 1) (k + 1) := by
  obtain ⟨a1, a2, a3, a4⟩ := hI
  have hmn := lea_mn n h n.2.2.2
  have hex := lea_ex n h n.2.2.2 hx
  have hle := lea_le n h n.2.2.2
  generalize lea n h n.2.2.2 = x at *
  have hd : ∀ r, r < n.2.2.2 → vatN (wds n r) (h r) = x → h r < (wds n r).1 ∧ (wds n r).2.1 (h r) = x := by
    intro r _ e
    unfold vatN at e
    split at e
    · exact ⟨by assumption, e⟩
    · omega
  have hge : ∀ r, r < n.2.2.2 → ∀ j, h r ≤ j → j < (wds n r).1 → x ≤ (wds n r).2.1 j ∧ (¬ vatN (wds n r) (h r) = x → x < (wds n r).2.1 j) := by
    intro r hr j h1 h2
    have b := hmn r hr
    have e : vatN (wds n r) (h r) = (wds n r).2.1 (h r) := by unfold vatN; rw [if_pos (by omega)]
    rcases Nat.lt_or_ge (h r) j with q | q
    · have := wds_srt n r (h r) j q h2
      exact ⟨by omega, fun _ => by omega⟩
    · have e2 : j = h r := by omega
      rw [e2]
      exact ⟨by omega, fun _ => by omega⟩
  obtain ⟨r0, hr0, he0⟩ := hex
  have hd0 := hd r0 hr0 he0
  have hlow : ∀ r, r < n.2.2.2 → ∀ i, i < h r → (wds n r).2.1 i < x := by
    intro r hr i hi
    have := a2 r hr i hi r0 hr0 (h r0) (Nat.le_refl _) hd0.1
    omega
  have hat : ∀ r, r < n.2.2.2 → ∀ i, i < (wds n r).1 → (wds n r).2.1 i = x → vatN (wds n r) (h r) = x := by
    intro r hr i hi e
    rcases Nat.lt_or_ge i (h r) with q | q
    · have := hlow r hr i q
      omega
    · apply Classical.byContradiction
      intro hn
      have := (hge r hr i q hi).2 hn
      omega
  have hEq : ∀ r, r < n.2.2.2 → vatN (wds n r) (h r) = x → (inE n r ((wds n r).2.1 (h r)) = true ↔ ∃ r', r' < r ∧ vatN (wds n r') (h r') = x) := by
    intro r hr e
    rw [(hd r hr e).2, inE_iff]
    constructor
    · rintro ⟨r', h1, i, h2, h3⟩
      exact ⟨r', h1, hat r' (by omega) i h2 h3⟩
    · rintro ⟨r', h1, h2⟩
      have := hd r' (by omega) h2
      exact ⟨r', h1, h r', this.1, this.2⟩
  refine ⟨fun r hr => ?_, fun r hr i hi r' hr' j hj hj2 => ?_, ?_, ?_⟩
  · unfold pas
    split
    · rename_i e
      exact (hd r hr e).1
    · exact a1 r hr
  · have hj3 : h r' ≤ j := by
      unfold pas at hj
      split at hj <;> omega
    have hxj : x < (wds n r').2.1 j ∨ (h r' < j ∧ vatN (wds n r') (h r') = x) := by
      by_cases e : vatN (wds n r') (h r') = x
      · unfold pas at hj
        rw [if_pos e] at hj
        exact Or.inr ⟨by omega, e⟩
      · exact Or.inl ((hge r' hr' j hj3 hj2).2 e)
    have hxj2 : x < (wds n r').2.1 j := by
      rcases hxj with q | ⟨q, e⟩
      · exact q
      · have b := wds_srt n r' (h r') j q hj2
        have c := (hd r' hr' e).2
        omega
    rcases Nat.lt_or_ge i (h r) with q | q
    · exact a2 r hr i q r' hr' j hj3 hj2
    · by_cases e : vatN (wds n r) (h r) = x
      · unfold pas at hi
        rw [if_pos e] at hi
        have e2 : i = h r := by omega
        rw [e2, (hd r hr e).2]
        exact hxj2
      · unfold pas at hi
        rw [if_neg e] at hi
        omega
  · have key : ∀ R, R ≤ n.2.2.2 → (((∃ r, r < R ∧ vatN (wds n r) (h r) = x) ∧ usum n (pas n h x) R = usum n h R + 1) ∨ ((¬ ∃ r, r < R ∧ vatN (wds n r) (h r) = x) ∧ usum n (pas n h x) R = usum n h R)) := by
      intro R
      induction R with
      | zero => exact fun _ => Or.inr ⟨fun ⟨r, h1, _⟩ => absurd h1 (Nat.not_lt_zero _), rfl⟩
      | succ R ih =>
        intro hR
        have ih := ih (by omega)
        by_cases e : vatN (wds n R) (h R) = x
        · have e2 : pas n h x R = h R + 1 := by unfold pas; rw [if_pos e]
          refine Or.inl ⟨⟨R, by omega, e⟩, ?_⟩
          rw [usum, usum, e2, cnb]
          rcases ih with ⟨ih1, ih2⟩ | ⟨ih1, ih2⟩
          · rw [(hEq R (by omega) e).mpr ih1, ih2]
            simp
            omega
          · have : inE n R ((wds n R).2.1 (h R)) = false := by
              cases q : inE n R ((wds n R).2.1 (h R))
              · rfl
              · exact absurd ((hEq R (by omega) e).mp q) ih1
            rw [this, ih2]
            simp
            omega
        · have e2 : pas n h x R = h R := by unfold pas; rw [if_neg e]
          rw [usum, usum, e2]
          rcases ih with ⟨⟨r, ih0, ih1⟩, ih2⟩ | ⟨ih1, ih2⟩
          · exact Or.inl ⟨⟨r, by omega, ih1⟩, by omega⟩
          · refine Or.inr ⟨?_, by omega⟩
            rintro ⟨r, h1, h2⟩
            rcases Nat.lt_or_ge r R with q | q
            · exact ih1 ⟨r, q, h2⟩
            · have e3 : r = R := by omega
              rw [e3] at h2
              exact e h2
    rcases key n.2.2.2 (Nat.le_refl _) with ⟨_, h2⟩ | ⟨h1, _⟩
    · rw [h2, a3]
    · exact absurd ⟨r0, hr0, he0⟩ h1
  · have key : ∀ R, ((∃ r, r < R ∧ vatN (wds n r) (h r) = x) → hsum h R + 1 ≤ hsum (pas n h x) R) ∧ hsum h R ≤ hsum (pas n h x) R := by
      intro R
      induction R with
      | zero => exact ⟨fun ⟨r, h1, _⟩ => absurd h1 (Nat.not_lt_zero _), Nat.le_refl _⟩
      | succ R ih =>
        have e1 : h R ≤ pas n h x R := by unfold pas; split <;> omega
        refine ⟨fun ⟨r, h1, h2⟩ => ?_, by rw [hsum, hsum]; omega⟩
        rw [hsum, hsum]
        rcases Nat.lt_or_ge r R with q | q
        · have := ih.1 ⟨r, q, h2⟩
          omega
        · have e3 : r = R := by omega
          rw [e3] at h2
          have e2 : pas n h x R = h R + 1 := by unfold pas; rw [if_pos h2]
          omega
    have := (key n.2.2.2).1 ⟨r0, hr0, he0⟩
    omega
theorem hsum_full {h z : Nat → Nat} {M : Nat} : ∀ {R : Nat}, (∀ r, r < R → h r ≤ z r) → (∀ r, r < R → z r ≤ M) → R * M ≤ hsum h R → ∀ r, r < R → h r = z r
  | 0, _, _, _, r, hr => absurd hr (Nat.not_lt_zero _)
  | R + 1, h1, h2, h3, r, hr => by
    have hle : ∀ Q, Q ≤ R → hsum h Q ≤ Q * M := by
      intro Q
      induction Q with
      | zero => exact fun _ => Nat.zero_le _
      | succ Q ih =>
        intro hQ
        have := ih (by omega)
        have := h1 Q (by omega)
        have := h2 Q (by omega)
        rw [hsum, Nat.succ_mul]
        omega
    have a := hle R (Nat.le_refl _)
    have b := h1 R (by omega)
    have c := h2 R (by omega)
    rw [hsum, Nat.succ_mul] at h3
    rcases Nat.lt_or_ge r R with q | q
    · exact hsum_full (fun r hr => h1 r (by omega)) (fun r hr => h2 r (by omega)) (by omega) r q
    · have e : r = R := by omega
      rw [e]
      omega
theorem DI_end {n : NS} {h : Nat → Nat} {d k : Nat} (ho : okN n) (hI : DI n h d k) (he : 640 ≤ k ∨ lea n h n.2.2.2 = 1000003) : d = dst n := by
  obtain ⟨a1, a2, a3, a4⟩ := hI
  have hR : n.2.2.2 ≤ 10 := ho.2.2.2.2.1
  rw [a3]
  apply usum_cong
  rcases he with he | he
  · exact hsum_full (M := 64) a1 (fun r hr => wds_le ho (by omega)) (by omega)
  · intro r hr
    have h1 := lea_mn n h _ r hr
    have h2 := vatN_le (wds_lt n r) (h r)
    have h3 := (vatN_end (wds_lt n r) (h r)).mp (by omega)
    have h4 := a1 r hr
    omega
noncomputable def aCnt (s : SG) (w : Int) : Int := if w = 0 then (((cur s).2.2.2 : Nat) : Int) else if 1 ≤ w ∧ w ≤ 4 then (((cur s).1 (w - 1).toNat : Nat) : Int) else if w = 5 then ((dst (cur s) : Nat) : Int) else if w = 6 then ((pln s : Nat) : Int) else if w = 7 then ((kno s : Nat) : Int) else -2
set_option maxHeartbeats 4000000 in
set_option maxRecDepth 100000 in
/-- leastAtHeads() -/
theorem c_X3_leastAtHeads (G : va_G) (tc : Nat → ClassId) (l : Launch) (ad : Nat → Nat) (N : Nat) (f : Nat → va_E) (s : SG) (hX : XI tc ad f s) (ho : okS s) (hN : 98 ≤ N) (h : Nat → Nat) (hv : Nat → Int32) (h87 : f 87 = eI tc 10 hv) (hh : ∀ r, r < (cur s).2.2.2 → hv r = iI ((h r : Nat) : Int)) (hb : ∀ r, r < (cur s).2.2.2 → h r ≤ (wds (cur s) r).1)   : Ct G tc l yX3_leastAtHeads wsX3_leastAtHeads { frames := 4, cells := 0, slots := 0, locals := 94 } 0 0 [.ref (ad (0))] ad N f (poI ad N (((lea (cur s) h (cur s).2.2.2 : Nat) : Int)) (fun f' => XI tc ad f' s ∧ ∀ q, 83 ≤ q → f' q = f q)) := by
  obtain ⟨h0, ⟨h1, h2, h3, h4⟩, hHis, hSlo, h40, hWds, hPr, hHd⟩ := id hX
  obtain ⟨⟨⟨a1, a2⟩, ⟨a3, a4⟩, ⟨a5, a6⟩, a7, a8, a9, a10⟩, o2, o3, o4, o5, o6⟩ := id ho
  refine stI (cc := cX3_leastAtHeads) (maxL := 3) (lv := [(0, .ref (ad (0)))]) (by decide) rfl (Nat.le_of_ble_eq_true rfl) rfl (fun X C hret => ?_)
  have m0 : Cond.constant RX3 221 (1000003) ∈ wsX3_leastAtHeads := by decide +kernel
  have m1 : Cond.fieldLink RX3 10 "WordSamples" "now" "LWordSamples$State;" ∈ wsX3_leastAtHeads := by decide +kernel
  have m2 : ∀ w ∈ wsX30, w ∈ wsX3_leastAtHeads := by decide +kernel
  have m3 : Cond.fieldLink RX3 74 "WordSamples$State" "rows" "I" ∈ wsX3_leastAtHeads := by decide +kernel
  have m4 : ∀ w ∈ wsX10, w ∈ wsX3_leastAtHeads := by decide +kernel
  have m5 : Cond.fieldLink RX3 54 "WordSamples" "heads" "[I" ∈ wsX3_leastAtHeads := by decide +kernel
  have m6 : Cond.methodLink RX3 208 Lib.Math.min.name ∈ wsX3_leastAtHeads := by decide +kernel
  have m7 : Cond.static Lib.Math.min.name ∈ wsX3_leastAtHeads := by decide +kernel
  have m8 : Cond.initialized "java/lang/Math" ∈ wsX3_leastAtHeads := by decide +kernel
  have m9 : Cond.code Lib.Math.min.name Lib.Math.min.code 2 (some .int) ∈ wsX3_leastAtHeads := by decide +kernel
  refine r_ldc C ((1000003 : Nat) : Int) (by decide) m0 dX3_leastAtHeads_0 ?_
  refine r_istore_n (lv' := [(0, .ref (ad (0))), (1, .int (iI ((1000003 : Nat) : Int)))]) C dX3_leastAtHeads_2 rfl (by decide) rfl ?_
  refine r_iconst C ((0 : Nat) : Int) (by decide) dX3_leastAtHeads_3 ?_
  refine r_istore_n (lv' := [(0, .ref (ad (0))), (1, .int (iI ((1000003 : Nat) : Int))), (2, .int (iI ((0 : Nat) : Int)))]) C dX3_leastAtHeads_4 rfl (by decide) rfl ?_
  have hL3 : ∀ (m_4 : Nat) (k : Nat) (f1 : Nat → va_E) (ho2 : ∀ q, 83 ≤ q → f1 q = f q) (hXl : XI tc ad f1 s) (hk : k ≤ (cur s).2.2.2), (cur s).2.2.2 - k < m_4 → VV X ad N f1 0 0 5 [(0, .ref (ad (0))), (1, .int (iI ((lea (cur s) h k : Nat) : Int))), (2, .int (iI ((k : Nat) : Int)))] [] := by
    intro m_4
    induction m_4 with
    | zero => intros; omega
    | succ m_4 ih5 =>
      intro k f1 ho2 hXl hk hm6
      obtain ⟨x7, ⟨x8, x9, x10, x11⟩, -⟩ := id hXl
      refine r_iload_n C dX3_leastAtHeads_5 rfl rfl ?_
      refine r_aload_n C dX3_leastAtHeads_6 rfl rfl ?_
      refine r_get (v := .ref (ad (1))) C (by omega) x7 (show vwCl[3]? = some (RX3, TX3, 11) from rfl) m2 0 (by decide) m1 rfl rfl dX3_leastAtHeads_7 ?_
      refine r_get (v := .int (iI (((cur s).2.2.2 : Nat) : Int))) C (by omega) x8 (show vwCl[1]? = some (RX1, TX1, 4) from rfl) m4 3 (by decide) m3 rfl rfl dX3_leastAtHeads_10 ?_
      refine r_icmp_ge (tgt := 41) C ⟨by omega, by omega⟩ ⟨by omega, by omega⟩ dX3_leastAtHeads_13 (by decide) (fun b12 => ?_) (fun b12 => ?_)
      · refine r_iload_n C dX3_leastAtHeads_41 rfl rfl ?_
        exact hret f1 ((lea (cur s) h k : Nat) : Int) _ _ dX3_leastAtHeads_42 (by rw [show (cur s).2.2.2 = k from by omega]) (⟨hXl, fun q hq => (ho2 _ (by omega))⟩)
      · have hbk := hb k (by omega)
        have hw64 := wds_le ho.1 (r := k) (by omega)
        have hvk := vatN_le (wds_lt (cur s) k) (h k)
        have hlk := lea_le (cur s) h k
        refine r_iload_n C dX3_leastAtHeads_16 rfl rfl ?_
        refine r_aload_n C dX3_leastAtHeads_17 rfl rfl ?_
        refine r_iload_n C dX3_leastAtHeads_18 rfl rfl ?_
        refine r_callV (As := [.int (iI ((k : Nat) : Int))]) (rest := [.int (iI ((lea (cur s) h k : Nat) : Int))]) (na := 1) C (c_X3_wordsOf G tc l ad N _ s hXl ho hN k (by omega)) gX3_leastAtHeads_X3_wordsOf rfl rfl rfl (by decide +kernel) ⟨Nat.le_of_ble_eq_true rfl, Nat.le_of_ble_eq_true rfl⟩ (by omega) x7 (show vwCl[3]? = some (RX3, TX3, 11) from rfl) rfl rfl (Nat.le_of_ble_eq_true rfl) dX3_leastAtHeads_19 ⟨Nat.le_of_ble_eq_true rfl, Nat.le_of_ble_eq_true rfl⟩ (aft_A (fun f24 hF25 => ?_))
        obtain ⟨hx13, hw14, ow15⟩ := hF25
        obtain ⟨wv16, wc17, wt18, y19, y20, y21, y22, yw23⟩ := id hw14
        refine r_aload_n C dX3_leastAtHeads_22 rfl rfl ?_
        have c26 : f24 (0) = eO 3 [.ref (ad (1)), .ref (ad (5)), .int (iI ((kno s : Nat) : Int)), .ref (ad (30)), .ref (ad (39)), .ref (ad (40)), .int (iI ((pln s : Nat) : Int)), .ref (ad (41)), .ref (ad (82)), .ref (ad (83)), .ref (ad (87))] := (ow15 _ (by omega)).trans x7
        refine r_get (v := .ref (ad (87))) C (by omega) c26 (show vwCl[3]? = some (RX3, TX3, 11) from rfl) m2 10 (by decide) m5 rfl rfl dX3_leastAtHeads_23 ?_
        refine r_iload_n C dX3_leastAtHeads_26 rfl rfl ?_
        have c27 : f1 (87) = eI tc 10 (hv) := (ho2 _ (by omega)).trans h87
        have c28 : f24 (87) = eI tc 10 (hv) := (ow15 _ (by omega)).trans c27
        refine r_iald (x := (iI ((h k : Nat) : Int))) C (by omega) c28 (k) rfl (by omega) (Nat.le_of_ble_eq_true rfl) (hh k (by omega)) dX3_leastAtHeads_27 ?_
        refine r_callV (As := [.int (iI ((h k : Nat) : Int))]) (rest := [.int (iI ((lea (cur s) h k : Nat) : Int))]) (na := 1) C (c_X2_valueAt G tc l ad N _ (42 + 4 * k) (wds (cur s) k) hw14 (by omega) (wds_le ho.1 (by omega)) (wds_lt _ _) ((h k : Nat) : Int) ⟨by omega, by omega⟩) gX3_leastAtHeads_X2_valueAt rfl rfl rfl (by decide +kernel) ⟨Nat.le_of_ble_eq_true rfl, Nat.le_of_ble_eq_true rfl⟩ (by omega) y19 (show vwCl[2]? = some (RX2, TX2, 4) from rfl) rfl rfl (Nat.le_of_ble_eq_true rfl) dX3_leastAtHeads_28 ⟨Nat.le_of_ble_eq_true rfl, Nat.le_of_ble_eq_true rfl⟩ (aft_I (fun f29 hF30 => ?_))
        rw [hF30]
        rw [show (.int (iI (vat (wds (cur s) k) ((h k : Nat) : Int))) : Value) = .int (iI ((vatN (wds (cur s) k) (h k) : Nat) : Int)) from by rw [vat_N]]
        refine r_min C ⟨m6, m7, m8, m9⟩ (Nat.le_of_ble_eq_true rfl) (Nat.le_of_ble_eq_true rfl) ⟨Nat.le_of_ble_eq_true rfl, Nat.le_of_ble_eq_true rfl⟩ ⟨by omega, by omega⟩ ⟨by omega, by omega⟩ dX3_leastAtHeads_31 ?_
        rw [show (.int (iI (min ((lea (cur s) h k : Nat) : Int) ((vatN (wds (cur s) k) (h k) : Nat) : Int))) : Value) = .int (iI ((lea (cur s) h (k + 1) : Nat) : Int)) from by rw [show min _ _ = ((lea (cur s) h (k + 1) : Nat) : Int) from by rw [lea]; omega]]
        refine r_istore_n (lv' := [(0, .ref (ad (0))), (1, .int (iI ((lea (cur s) h (k + 1) : Nat) : Int))), (2, .int (iI ((k : Nat) : Int)))]) C dX3_leastAtHeads_34 rfl (by decide) rfl ?_
        refine r_iinc (lv' := [(0, .ref (ad (0))), (1, .int (iI ((lea (cur s) h (k + 1) : Nat) : Int))), (2, .int (iI ((k + 1 : Nat) : Int)))]) C ((k + 1 : Nat) : Int) (by omega) dX3_leastAtHeads_35 rfl (by decide) rfl ?_
        refine r_goto (tgt := 5) C dX3_leastAtHeads_38 (by decide) ?_
        exact ih5 (k + 1) f24 (fun q hq => ((ow15 _ (by omega))).trans (ho2 _ (by omega))) hx13 (by omega) (by omega)
  exact hL3 _ 0 f (fun _ _ => rfl) hX (by omega) (Nat.lt_succ_self _)
set_option maxHeartbeats 4000000 in
set_option maxRecDepth 100000 in
/-- passAtHeads(x) -/
theorem c_X3_passAtHeads (G : va_G) (tc : Nat → ClassId) (l : Launch) (ad : Nat → Nat) (N : Nat) (f : Nat → va_E) (s : SG) (hX : XI tc ad f s) (ho : okS s) (hN : 98 ≤ N) (h : Nat → Nat) (hv : Nat → Int32) (h87 : f 87 = eI tc 10 hv) (hh : ∀ r, r < (cur s).2.2.2 → hv r = iI ((h r : Nat) : Int)) (hb : ∀ r, r < (cur s).2.2.2 → h r ≤ (wds (cur s) r).1) (x : Nat) (hx : x ≤ 1000003)   : Ct G tc l yX3_passAtHeads wsX3_passAtHeads { frames := 4, cells := 0, slots := 0, locals := 94 } 0 0 [.ref (ad (0)), .int (iI ((x : Nat) : Int))] ad N f (poV ad N (fun f' => XI tc ad f' s ∧ (∃ g : Nat → Int32, f' 87 = eI tc 10 g ∧ ∀ r, r < (cur s).2.2.2 → g r = iI ((pas (cur s) h x r : Nat) : Int)) ∧ ∀ q, (83 ≤ q ∧ q ≠ 87) → f' q = f q)) := by
  obtain ⟨h0, ⟨h1, h2, h3, h4⟩, hHis, hSlo, h40, hWds, hPr, hHd⟩ := id hX
  obtain ⟨⟨⟨a1, a2⟩, ⟨a3, a4⟩, ⟨a5, a6⟩, a7, a8, a9, a10⟩, o2, o3, o4, o5, o6⟩ := id ho
  refine stV (cc := cX3_passAtHeads) (maxL := 3) (lv := [(0, .ref (ad (0))), (1, .int (iI ((x : Nat) : Int)))]) (by decide) rfl (Nat.le_of_ble_eq_true rfl) rfl (fun X C hret => ?_)
  have m0 : Cond.fieldLink RX3 10 "WordSamples" "now" "LWordSamples$State;" ∈ wsX3_passAtHeads := by decide +kernel
  have m1 : ∀ w ∈ wsX30, w ∈ wsX3_passAtHeads := by decide +kernel
  have m2 : Cond.fieldLink RX3 74 "WordSamples$State" "rows" "I" ∈ wsX3_passAtHeads := by decide +kernel
  have m3 : ∀ w ∈ wsX10, w ∈ wsX3_passAtHeads := by decide +kernel
  have m4 : Cond.fieldLink RX3 54 "WordSamples" "heads" "[I" ∈ wsX3_passAtHeads := by decide +kernel
  refine r_iconst C ((0 : Nat) : Int) (by decide) dX3_passAtHeads_0 ?_
  refine r_istore_n (lv' := [(0, .ref (ad (0))), (1, .int (iI ((x : Nat) : Int))), (2, .int (iI ((0 : Nat) : Int)))]) C dX3_passAtHeads_1 rfl (by decide) rfl ?_
  have hL4 : ∀ (m_5 : Nat) (k : Nat) (g : Nat → Int32) (f1 : Nat → va_E) (hm2 : f1 (87) = eI tc 10 (g)) (ho3 : ∀ q, (83 ≤ q ∧ q ≠ 87) → f1 q = f q) (hXl : XI tc ad f1 s) (hk : k ≤ (cur s).2.2.2) (hg : ∀ r, r < (cur s).2.2.2 → g r = iI (((if r < k then pas (cur s) h x r else h r) : Nat) : Int)), (cur s).2.2.2 - k < m_5 → VV X ad N f1 0 0 2 [(0, .ref (ad (0))), (1, .int (iI ((x : Nat) : Int))), (2, .int (iI ((k : Nat) : Int)))] [] := by
    intro m_5
    induction m_5 with
    | zero => intros; omega
    | succ m_5 ih6 =>
      intro k g f1 hm2 ho3 hXl hk hg hm7
      obtain ⟨x8, ⟨x9, x10, x11, x12⟩, -⟩ := id hXl
      refine r_iload_n C dX3_passAtHeads_2 rfl rfl ?_
      refine r_aload_n C dX3_passAtHeads_3 rfl rfl ?_
      refine r_get (v := .ref (ad (1))) C (by omega) x8 (show vwCl[3]? = some (RX3, TX3, 11) from rfl) m1 0 (by decide) m0 rfl rfl dX3_passAtHeads_4 ?_
      refine r_get (v := .int (iI (((cur s).2.2.2 : Nat) : Int))) C (by omega) x9 (show vwCl[1]? = some (RX1, TX1, 4) from rfl) m3 3 (by decide) m2 rfl rfl dX3_passAtHeads_7 ?_
      refine r_icmp_ge (tgt := 47) C ⟨by omega, by omega⟩ ⟨by omega, by omega⟩ dX3_passAtHeads_10 (by decide) (fun b13 => ?_) (fun b13 => ?_)
      · exact hret f1 _ _ dX3_passAtHeads_47 (⟨hXl, ⟨_, hm2, fun r hr => by rw [hg r hr, if_pos (by omega)]⟩, fun q hq => (ho3 _ (by omega))⟩)
      · have hbk := hb k (by omega)
        have hw64 := wds_le ho.1 (r := k) (by omega)
        have hvk := vatN_le (wds_lt (cur s) k) (h k)
        refine r_aload_n C dX3_passAtHeads_13 rfl rfl ?_
        refine r_iload_n C dX3_passAtHeads_14 rfl rfl ?_
        refine r_callV (As := [.int (iI ((k : Nat) : Int))]) (rest := []) (na := 1) C (c_X3_wordsOf G tc l ad N _ s hXl ho hN k (by omega)) gX3_passAtHeads_X3_wordsOf rfl rfl rfl (by decide +kernel) ⟨Nat.le_of_ble_eq_true rfl, Nat.le_of_ble_eq_true rfl⟩ (by omega) x8 (show vwCl[3]? = some (RX3, TX3, 11) from rfl) rfl rfl (Nat.le_of_ble_eq_true rfl) dX3_passAtHeads_15 ⟨Nat.le_of_ble_eq_true rfl, Nat.le_of_ble_eq_true rfl⟩ (aft_A (fun f25 hF26 => ?_))
        obtain ⟨hx14, hw15, ow16⟩ := hF26
        obtain ⟨wv17, wc18, wt19, y20, y21, y22, y23, yw24⟩ := id hw15
        refine r_aload_n C dX3_passAtHeads_18 rfl rfl ?_
        have c27 : f25 (0) = eO 3 [.ref (ad (1)), .ref (ad (5)), .int (iI ((kno s : Nat) : Int)), .ref (ad (30)), .ref (ad (39)), .ref (ad (40)), .int (iI ((pln s : Nat) : Int)), .ref (ad (41)), .ref (ad (82)), .ref (ad (83)), .ref (ad (87))] := (ow16 _ (by omega)).trans x8
        refine r_get (v := .ref (ad (87))) C (by omega) c27 (show vwCl[3]? = some (RX3, TX3, 11) from rfl) m1 10 (by decide) m4 rfl rfl dX3_passAtHeads_19 ?_
        refine r_iload_n C dX3_passAtHeads_22 rfl rfl ?_
        have c28 : f25 (87) = eI tc 10 (g) := (ow16 _ (by omega)).trans hm2
        refine r_iald (x := (iI ((h k : Nat) : Int))) C (by omega) c28 (k) rfl (by omega) (Nat.le_of_ble_eq_true rfl) ((hg k (by omega)).trans (by rw [if_neg (Nat.lt_irrefl _)])) dX3_passAtHeads_23 ?_
        refine r_callV (As := [.int (iI ((h k : Nat) : Int))]) (rest := []) (na := 1) C (c_X2_valueAt G tc l ad N _ (42 + 4 * k) (wds (cur s) k) hw15 (by omega) (wds_le ho.1 (by omega)) (wds_lt _ _) ((h k : Nat) : Int) ⟨by omega, by omega⟩) gX3_passAtHeads_X2_valueAt rfl rfl rfl (by decide +kernel) ⟨Nat.le_of_ble_eq_true rfl, Nat.le_of_ble_eq_true rfl⟩ (by omega) y20 (show vwCl[2]? = some (RX2, TX2, 4) from rfl) rfl rfl (Nat.le_of_ble_eq_true rfl) dX3_passAtHeads_24 ⟨Nat.le_of_ble_eq_true rfl, Nat.le_of_ble_eq_true rfl⟩ (aft_I (fun f29 hF30 => ?_))
        rw [hF30]
        rw [show (.int (iI (vat (wds (cur s) k) ((h k : Nat) : Int))) : Value) = .int (iI ((vatN (wds (cur s) k) (h k) : Nat) : Int)) from by rw [vat_N]]
        refine r_iload_n C dX3_passAtHeads_27 rfl rfl ?_
        refine r_icmp_ne (tgt := 41) C ⟨by omega, by omega⟩ ⟨by omega, by omega⟩ dX3_passAtHeads_28 (by decide) (fun b31 => ?_) (fun b31 => ?_)
        · refine r_iinc (lv' := [(0, .ref (ad (0))), (1, .int (iI ((x : Nat) : Int))), (2, .int (iI ((k + 1 : Nat) : Int)))]) C ((k + 1 : Nat) : Int) (by omega) dX3_passAtHeads_41 rfl (by decide) rfl ?_
          refine r_goto (tgt := 2) C dX3_passAtHeads_44 (by decide) ?_
          exact ih6 (k + 1) g f25 c28 (fun q hq => ((ow16 _ (by omega))).trans (ho3 _ (by omega))) hx14 (by omega) (fun r hr => pas_old hg hr (by omega)) (by omega)
        · refine r_aload_n C dX3_passAtHeads_31 rfl rfl ?_
          refine r_get (v := .ref (ad (87))) C (by omega) c27 (show vwCl[3]? = some (RX3, TX3, 11) from rfl) m1 10 (by decide) m4 rfl rfl dX3_passAtHeads_32 ?_
          refine r_iload_n C dX3_passAtHeads_35 rfl rfl ?_
          refine r_dup2 C dX3_passAtHeads_36 rfl rfl ?_
          refine r_iald (x := (iI ((h k : Nat) : Int))) C (by omega) c28 (k) rfl (by omega) (Nat.le_of_ble_eq_true rfl) ((hg k (by omega)).trans (by rw [if_neg (Nat.lt_irrefl _)])) dX3_passAtHeads_37 ?_
          refine r_iconst C ((1 : Nat) : Int) (by decide) dX3_passAtHeads_38 ?_
          refine r_iadd C ((h k + 1 : Nat) : Int) (by omega) dX3_passAtHeads_39 ?_
          refine r_iast C (by omega) c28 (k) rfl (by omega) (Nat.le_of_ble_eq_true rfl) dX3_passAtHeads_40 (fun f32 hs33 ho34 => ?_)
          have hx35 : XI tc ad f32 s := XI_hd hx14 hs33 (fun q hq => (ho34 _ (by omega)))
          refine r_iinc (lv' := [(0, .ref (ad (0))), (1, .int (iI ((x : Nat) : Int))), (2, .int (iI ((k + 1 : Nat) : Int)))]) C ((k + 1 : Nat) : Int) (by omega) dX3_passAtHeads_41 rfl (by decide) rfl ?_
          refine r_goto (tgt := 2) C dX3_passAtHeads_44 (by decide) ?_
          exact ih6 (k + 1) (upd (g) (k) ((iI ((h k + 1 : Nat) : Int)))) f32 hs33 (fun q hq => (((ho34 _ (by omega))).trans (ow16 _ (by omega))).trans (ho3 _ (by omega))) hx35 (by omega) (fun r hr => pas_upd hg hr (by omega)) (by omega)
  exact hL4 _ 0 hv f h87 (fun _ _ => rfl) hX (by omega) (fun r hr => by rw [if_neg (Nat.not_lt_zero _)]; exact hh r hr) (Nat.lt_succ_self _)
set_option maxHeartbeats 4000000 in
set_option maxRecDepth 100000 in
/-- wordsOfAll(): how many different words -/
theorem c_X3_wordsOfAll (G : va_G) (tc : Nat → ClassId) (l : Launch) (ad : Nat → Nat) (N : Nat) (f : Nat → va_E) (s : SG) (hX : XI tc ad f s) (ho : okS s) (hN : 98 ≤ N)    : Ct G tc l yX3_wordsOfAll wsX3_wordsOfAll { frames := 5, cells := 0, slots := 0, locals := 116 } 0 0 [.ref (ad (0))] ad N f (poI ad N (((dst (cur s) : Nat) : Int)) (fun f' => XI tc ad f' s ∧ ∀ q, 88 ≤ q → f' q = f q)) := by
  obtain ⟨h0, ⟨h1, h2, h3, h4⟩, hHis, hSlo, h40, hWds, hPr, hHd⟩ := id hX
  obtain ⟨⟨⟨a1, a2⟩, ⟨a3, a4⟩, ⟨a5, a6⟩, a7, a8, a9, a10⟩, o2, o3, o4, o5, o6⟩ := id ho
  obtain ⟨hd0, h87⟩ := id hHd
  refine stI (cc := cX3_wordsOfAll) (maxL := 4) (lv := [(0, .ref (ad (0)))]) (by decide) rfl (Nat.le_of_ble_eq_true rfl) rfl (fun X C hret => ?_)
  have m0 : Cond.fieldLink RX3 10 "WordSamples" "now" "LWordSamples$State;" ∈ wsX3_wordsOfAll := by decide +kernel
  have m1 : ∀ w ∈ wsX30, w ∈ wsX3_wordsOfAll := by decide +kernel
  have m2 : Cond.fieldLink RX3 74 "WordSamples$State" "rows" "I" ∈ wsX3_wordsOfAll := by decide +kernel
  have m3 : ∀ w ∈ wsX10, w ∈ wsX3_wordsOfAll := by decide +kernel
  have m4 : Cond.constant RX3 221 (1000003) ∈ wsX3_wordsOfAll := by decide +kernel
  have m5 : Cond.fieldLink RX3 54 "WordSamples" "heads" "[I" ∈ wsX3_wordsOfAll := by decide +kernel
  refine r_iconst C ((0 : Nat) : Int) (by decide) dX3_wordsOfAll_0 ?_
  refine r_istore_n (lv' := [(0, .ref (ad (0))), (1, .int (iI ((0 : Nat) : Int)))]) C dX3_wordsOfAll_1 rfl (by decide) rfl ?_
  have hL4 : ∀ (m_5 : Nat) (k : Nat) (g : Nat → Int32) (f1 : Nat → va_E) (hm2 : f1 (87) = eI tc 10 (g)) (ho3 : ∀ q, q ≠ 87 → f1 q = f q) (hk : k ≤ (cur s).2.2.2) (hg : ∀ r, r < k → g r = iI ((0 : Nat) : Int)), (cur s).2.2.2 - k < m_5 → VV X ad N f1 0 0 2 [(0, .ref (ad (0))), (1, .int (iI ((k : Nat) : Int)))] [] := by
    intro m_5
    induction m_5 with
    | zero => intros; omega
    | succ m_5 ih6 =>
      intro k g f1 hm2 ho3 hk hg hm7
      refine r_iload_n C dX3_wordsOfAll_2 rfl rfl ?_
      refine r_aload_n C dX3_wordsOfAll_3 rfl rfl ?_
      have c8 : f1 (0) = eO 3 [.ref (ad (1)), .ref (ad (5)), .int (iI ((kno s : Nat) : Int)), .ref (ad (30)), .ref (ad (39)), .ref (ad (40)), .int (iI ((pln s : Nat) : Int)), .ref (ad (41)), .ref (ad (82)), .ref (ad (83)), .ref (ad (87))] := (ho3 _ (by omega)).trans h0
      refine r_get (v := .ref (ad (1))) C (by omega) c8 (show vwCl[3]? = some (RX3, TX3, 11) from rfl) m1 0 (by decide) m0 rfl rfl dX3_wordsOfAll_4 ?_
      have c9 : f1 (1) = eO 1 [.ref (ad (2)), .ref (ad (3)), .ref (ad (4)), .int (iI (((cur s).2.2.2 : Nat) : Int))] := (ho3 _ (by omega)).trans h1
      refine r_get (v := .int (iI (((cur s).2.2.2 : Nat) : Int))) C (by omega) c9 (show vwCl[1]? = some (RX1, TX1, 4) from rfl) m3 3 (by decide) m2 rfl rfl dX3_wordsOfAll_7 ?_
      refine r_icmp_ge (tgt := 26) C ⟨by omega, by omega⟩ ⟨by omega, by omega⟩ dX3_wordsOfAll_10 (by decide) (fun b10 => ?_) (fun b10 => ?_)
      · have hx0 : XI tc ad f1 s := XI_hd hX hm2 (fun q hq => (ho3 _ (by omega)))
        refine r_iconst C ((0 : Nat) : Int) (by decide) dX3_wordsOfAll_26 ?_
        refine r_istore_n (lv' := [(0, .ref (ad (0))), (1, .int (iI ((0 : Nat) : Int)))]) C dX3_wordsOfAll_27 rfl (by decide) rfl ?_
        refine r_iconst C ((0 : Nat) : Int) (by decide) dX3_wordsOfAll_28 ?_
        refine r_istore_n (lv' := [(0, .ref (ad (0))), (1, .int (iI ((0 : Nat) : Int))), (2, .int (iI ((0 : Nat) : Int)))]) C dX3_wordsOfAll_29 rfl (by decide) rfl ?_
        have hL14 : ∀ (m_15 : Nat) (k : Nat) (d : Nat) (h : Nat → Nat) (g : Nat → Int32) (f11 : Nat → va_E) (hm12 : f11 (87) = eI tc 10 (g)) (ho13 : ∀ q, 88 ≤ q → f11 q = f1 q) (hXl : XI tc ad f11 s) (hk : k ≤ 640) (hg : ∀ r, r < (cur s).2.2.2 → g r = iI ((h r : Nat) : Int)) (hI : DI (cur s) h d k), 640 - k < m_15 → VV X ad N f11 0 0 30 [(0, .ref (ad (0))), (1, .int (iI ((d : Nat) : Int))), (2, .int (iI ((k : Nat) : Int)))] [] := by
          intro m_15
          induction m_15 with
          | zero => intros; omega
          | succ m_15 ih16 =>
            intro k d h g f11 hm12 ho13 hXl hk hg hI hm17
            obtain ⟨x18, ⟨x19, x20, x21, x22⟩, -⟩ := id hXl
            refine r_iload_n C dX3_wordsOfAll_30 rfl rfl ?_
            refine r_sipush C ((640 : Nat) : Int) (by decide) dX3_wordsOfAll_31 ?_
            refine r_icmp_ge (tgt := 65) C ⟨by omega, by omega⟩ ⟨by omega, by omega⟩ dX3_wordsOfAll_34 (by decide) (fun b23 => ?_) (fun b23 => ?_)
            · refine r_iload_n C dX3_wordsOfAll_65 rfl rfl ?_
              exact hret f11 ((d : Nat) : Int) _ _ dX3_wordsOfAll_66 (by rw [DI_end ho.1 hI (by omega)]) (⟨hXl, fun q hq => ((ho13 _ (by omega))).trans (ho3 _ (by omega))⟩)
            · have hlk := lea_le (cur s) h (cur s).2.2.2
              refine r_aload_n C dX3_wordsOfAll_37 rfl rfl ?_
              refine r_callV (As := []) (rest := []) (na := 0) C (c_X3_leastAtHeads G tc l ad N _ s hXl ho hN h _ hm12 hg hI.1) gX3_wordsOfAll_X3_leastAtHeads rfl rfl rfl (by decide +kernel) ⟨Nat.le_of_ble_eq_true rfl, Nat.le_of_ble_eq_true rfl⟩ (by omega) x18 (show vwCl[3]? = some (RX3, TX3, 11) from rfl) rfl rfl (Nat.le_of_ble_eq_true rfl) dX3_wordsOfAll_38 ⟨Nat.le_of_ble_eq_true rfl, Nat.le_of_ble_eq_true rfl⟩ (aft_I (fun f26 hF27 => ?_))
              obtain ⟨hx24, ow25⟩ := hF27
              refine r_istore_n (lv' := [(0, .ref (ad (0))), (1, .int (iI ((d : Nat) : Int))), (2, .int (iI ((k : Nat) : Int))), (3, .int (iI ((lea (cur s) h (cur s).2.2.2 : Nat) : Int)))]) C dX3_wordsOfAll_41 rfl (by decide) rfl ?_
              refine r_iload_n C dX3_wordsOfAll_42 rfl rfl ?_
              refine r_ldc C ((1000003 : Nat) : Int) (by decide) m4 dX3_wordsOfAll_43 ?_
              refine r_icmp_ne (tgt := 51) C ⟨by omega, by omega⟩ ⟨by omega, by omega⟩ dX3_wordsOfAll_45 (by decide) (fun b28 => ?_) (fun b28 => ?_)
              · refine r_iinc (lv' := [(0, .ref (ad (0))), (1, .int (iI ((d + 1 : Nat) : Int))), (2, .int (iI ((k : Nat) : Int))), (3, .int (iI ((lea (cur s) h (cur s).2.2.2 : Nat) : Int)))]) C ((d + 1 : Nat) : Int) (by omega) dX3_wordsOfAll_51 rfl (by decide) rfl ?_
                obtain ⟨x29, ⟨x30, x31, x32, x33⟩, -⟩ := id hx24
                refine r_aload_n C dX3_wordsOfAll_54 rfl rfl ?_
                refine r_iload_n C dX3_wordsOfAll_55 rfl rfl ?_
                obtain ⟨x34, ⟨x35, x36, x37, x38⟩, -⟩ := id hx24
                have c39 : f26 (87) = eI tc 10 (g) := (ow25 _ (by omega)).trans hm12
                refine r_callV (As := [.int (iI ((lea (cur s) h (cur s).2.2.2 : Nat) : Int))]) (rest := []) (na := 1) C (c_X3_passAtHeads G tc l ad N _ s hx24 ho hN h _ c39 hg hI.1 (lea (cur s) h (cur s).2.2.2) (by omega)) gX3_wordsOfAll_X3_passAtHeads rfl rfl rfl (by decide +kernel) ⟨Nat.le_of_ble_eq_true rfl, Nat.le_of_ble_eq_true rfl⟩ (by omega) x34 (show vwCl[3]? = some (RX3, TX3, 11) from rfl) rfl rfl (Nat.le_of_ble_eq_true rfl) dX3_wordsOfAll_56 ⟨Nat.le_of_ble_eq_true rfl, Nat.le_of_ble_eq_true rfl⟩ (aft_V (fun f42 hF43 => ?_))
                obtain ⟨hx40, ⟨g2, e87, hg2⟩, ow41⟩ := hF43
                refine r_iinc (lv' := [(0, .ref (ad (0))), (1, .int (iI ((d + 1 : Nat) : Int))), (2, .int (iI ((k + 1 : Nat) : Int))), (3, .int (iI ((lea (cur s) h (cur s).2.2.2 : Nat) : Int)))]) C ((k + 1 : Nat) : Int) (by omega) dX3_wordsOfAll_59 rfl (by decide) rfl ?_
                refine r_goto (tgt := 30) C dX3_wordsOfAll_62 (by decide) ?_
                refine r_sub (ks := [0, 1, 2]) (lv' := [(0, .ref (ad (0))), (1, .int (iI ((d + 1 : Nat) : Int))), (2, .int (iI ((k + 1 : Nat) : Int)))]) rfl ?_
                exact ih16 (k + 1) (d + 1) (pas (cur s) h (lea (cur s) h (cur s).2.2.2)) g2 f42 e87 (fun q hq => (((ow41 _ (by omega))).trans (ow25 _ (by omega))).trans (ho13 _ (by omega))) hx40 (by omega) hg2 (DI_s hI (by omega)) (by omega)
              · refine r_goto (tgt := 65) C dX3_wordsOfAll_48 (by decide) ?_
                refine r_iload_n C dX3_wordsOfAll_65 rfl rfl ?_
                exact hret f26 ((d : Nat) : Int) _ _ dX3_wordsOfAll_66 (by rw [DI_end ho.1 hI (by omega)]) (⟨hx24, fun q hq => (((ow25 _ (by omega))).trans (ho13 _ (by omega))).trans (ho3 _ (by omega))⟩)
        exact hL14 _ 0 0 (fun _ => 0) g f1 hm2 (fun _ _ => rfl) hx0 (by omega) (fun r hr => hg r (by omega)) DI_0 (Nat.lt_succ_self _)
      · refine r_aload_n C dX3_wordsOfAll_13 rfl rfl ?_
        refine r_get (v := .ref (ad (87))) C (by omega) c8 (show vwCl[3]? = some (RX3, TX3, 11) from rfl) m1 10 (by decide) m5 rfl rfl dX3_wordsOfAll_14 ?_
        refine r_iload_n C dX3_wordsOfAll_17 rfl rfl ?_
        refine r_iconst C ((0 : Nat) : Int) (by decide) dX3_wordsOfAll_18 ?_
        refine r_iast C (by omega) hm2 (k) rfl (by omega) (Nat.le_of_ble_eq_true rfl) dX3_wordsOfAll_19 (fun f44 hs45 ho46 => ?_)
        refine r_iinc (lv' := [(0, .ref (ad (0))), (1, .int (iI ((k + 1 : Nat) : Int)))]) C ((k + 1 : Nat) : Int) (by omega) dX3_wordsOfAll_20 rfl (by decide) rfl ?_
        refine r_goto (tgt := 2) C dX3_wordsOfAll_23 (by decide) ?_
        exact ih6 (k + 1) (upd (g) (k) ((iI ((0 : Nat) : Int)))) f44 hs45 (fun q hq => ((ho46 _ (by omega))).trans (ho3 _ (by omega))) (by omega) (fun r hr => if h : r = k then (by unfold upd; rw [if_pos h]) else (by unfold upd; rw [if_neg h]; exact hg r (by omega))) (by omega)
  exact hL4 _ 0 hd0 f h87 (fun _ _ => rfl) (by omega) (fun r hr => absurd hr (Nat.not_lt_zero _)) (Nat.lt_succ_self _)
set_option maxHeartbeats 4000000 in
set_option maxRecDepth 100000 in
/-- count -/
theorem c_X3_count (G : va_G) (tc : Nat → ClassId) (l : Launch) (ad : Nat → Nat) (N : Nat) (f : Nat → va_E) (s : SG) (hX : XI tc ad f s) (ho : okS s) (hN : 98 ≤ N) (w : Int) (hw : inR w)   : Ct G tc l yX3_count wsX3_count { frames := 6, cells := 0, slots := 0, locals := 139 } 0 0 [.ref (ad (0)), .int (iI (w))] ad N f (poI ad N (aCnt s w) (fun f' => XI tc ad f' s ∧ ∀ q, 88 ≤ q → f' q = f q)) := by
  obtain ⟨h0, ⟨h1, h2, h3, h4⟩, hHis, hSlo, h40, hWds, hPr, hHd⟩ := id hX
  obtain ⟨⟨⟨a1, a2⟩, ⟨a3, a4⟩, ⟨a5, a6⟩, a7, a8, a9, a10⟩, o2, o3, o4, o5, o6⟩ := id ho
  refine stI (cc := cX3_count) (maxL := 2) (lv := [(0, .ref (ad (0))), (1, .int (iI (w)))]) (by decide) rfl (Nat.le_of_ble_eq_true rfl) rfl (fun X C hret => ?_)
  have m0 : Cond.fieldLink RX3 10 "WordSamples" "now" "LWordSamples$State;" ∈ wsX3_count := by decide +kernel
  have m1 : ∀ w ∈ wsX30, w ∈ wsX3_count := by decide +kernel
  have m2 : Cond.fieldLink RX3 74 "WordSamples$State" "rows" "I" ∈ wsX3_count := by decide +kernel
  have m3 : ∀ w ∈ wsX10, w ∈ wsX3_count := by decide +kernel
  have m4 : Cond.fieldLink RX3 67 "WordSamples$State" "settings" "[I" ∈ wsX3_count := by decide +kernel
  have m5 : Cond.fieldLink RX3 35 "WordSamples" "padLength" "I" ∈ wsX3_count := by decide +kernel
  have m6 : Cond.fieldLink RX3 20 "WordSamples" "undoable" "I" ∈ wsX3_count := by decide +kernel
  refine r_iload_n C dX3_count_0 rfl rfl ?_
  by_cases s1 : (w) = 0
  · refine r_tin (tgt := 48) C ⟨by omega, by omega⟩ dX3_count_1 (by omega) (by omega) (by rw [s1]; rfl) (by decide) ?_
    refine r_aload_n C dX3_count_48 rfl rfl ?_
    refine r_get (v := .ref (ad (1))) C (by omega) h0 (show vwCl[3]? = some (RX3, TX3, 11) from rfl) m1 0 (by decide) m0 rfl rfl dX3_count_49 ?_
    refine r_get (v := .int (iI (((cur s).2.2.2 : Nat) : Int))) C (by omega) h1 (show vwCl[1]? = some (RX1, TX1, 4) from rfl) m3 3 (by decide) m2 rfl rfl dX3_count_52 ?_
    exact hret f (((cur s).2.2.2 : Nat) : Int) _ _ dX3_count_55 (by unfold aCnt; rw [if_pos (by omega)]) (⟨hX, fun _ _ => rfl⟩)
  by_cases s2 : (w) = 1
  · refine r_tin (tgt := 56) C ⟨by omega, by omega⟩ dX3_count_1 (by omega) (by omega) (by rw [s2]; rfl) (by decide) ?_
    refine r_aload_n C dX3_count_56 rfl rfl ?_
    refine r_get (v := .ref (ad (1))) C (by omega) h0 (show vwCl[3]? = some (RX3, TX3, 11) from rfl) m1 0 (by decide) m0 rfl rfl dX3_count_57 ?_
    refine r_get (v := .ref (ad (2))) C (by omega) h1 (show vwCl[1]? = some (RX1, TX1, 4) from rfl) m3 0 (by decide) m4 rfl rfl dX3_count_60 ?_
    refine r_iload_n C dX3_count_63 rfl rfl ?_
    refine r_iconst C ((1 : Nat) : Int) (by decide) dX3_count_64 ?_
    refine r_isub C (w - 1) (by omega) dX3_count_65 ?_
    refine r_iald (x := (iI (((cur s).1 ((w - 1).toNat) : Nat) : Int))) C (by omega) h2 ((w - 1).toNat) (by omega) (by omega) (Nat.le_of_ble_eq_true rfl) (rfl) dX3_count_66 ?_
    exact hret f (((cur s).1 ((w - 1).toNat) : Nat) : Int) _ _ dX3_count_67 (by unfold aCnt; rw [if_neg (by omega), if_pos (by omega)]) (⟨hX, fun _ _ => rfl⟩)
  by_cases s3 : (w) = 2
  · refine r_tin (tgt := 56) C ⟨by omega, by omega⟩ dX3_count_1 (by omega) (by omega) (by rw [s3]; rfl) (by decide) ?_
    refine r_aload_n C dX3_count_56 rfl rfl ?_
    refine r_get (v := .ref (ad (1))) C (by omega) h0 (show vwCl[3]? = some (RX3, TX3, 11) from rfl) m1 0 (by decide) m0 rfl rfl dX3_count_57 ?_
    refine r_get (v := .ref (ad (2))) C (by omega) h1 (show vwCl[1]? = some (RX1, TX1, 4) from rfl) m3 0 (by decide) m4 rfl rfl dX3_count_60 ?_
    refine r_iload_n C dX3_count_63 rfl rfl ?_
    refine r_iconst C ((1 : Nat) : Int) (by decide) dX3_count_64 ?_
    refine r_isub C (w - 1) (by omega) dX3_count_65 ?_
    refine r_iald (x := (iI (((cur s).1 ((w - 1).toNat) : Nat) : Int))) C (by omega) h2 ((w - 1).toNat) (by omega) (by omega) (Nat.le_of_ble_eq_true rfl) (rfl) dX3_count_66 ?_
    exact hret f (((cur s).1 ((w - 1).toNat) : Nat) : Int) _ _ dX3_count_67 (by unfold aCnt; rw [if_neg (by omega), if_pos (by omega)]) (⟨hX, fun _ _ => rfl⟩)
  by_cases s4 : (w) = 3
  · refine r_tin (tgt := 56) C ⟨by omega, by omega⟩ dX3_count_1 (by omega) (by omega) (by rw [s4]; rfl) (by decide) ?_
    refine r_aload_n C dX3_count_56 rfl rfl ?_
    refine r_get (v := .ref (ad (1))) C (by omega) h0 (show vwCl[3]? = some (RX3, TX3, 11) from rfl) m1 0 (by decide) m0 rfl rfl dX3_count_57 ?_
    refine r_get (v := .ref (ad (2))) C (by omega) h1 (show vwCl[1]? = some (RX1, TX1, 4) from rfl) m3 0 (by decide) m4 rfl rfl dX3_count_60 ?_
    refine r_iload_n C dX3_count_63 rfl rfl ?_
    refine r_iconst C ((1 : Nat) : Int) (by decide) dX3_count_64 ?_
    refine r_isub C (w - 1) (by omega) dX3_count_65 ?_
    refine r_iald (x := (iI (((cur s).1 ((w - 1).toNat) : Nat) : Int))) C (by omega) h2 ((w - 1).toNat) (by omega) (by omega) (Nat.le_of_ble_eq_true rfl) (rfl) dX3_count_66 ?_
    exact hret f (((cur s).1 ((w - 1).toNat) : Nat) : Int) _ _ dX3_count_67 (by unfold aCnt; rw [if_neg (by omega), if_pos (by omega)]) (⟨hX, fun _ _ => rfl⟩)
  by_cases s5 : (w) = 4
  · refine r_tin (tgt := 56) C ⟨by omega, by omega⟩ dX3_count_1 (by omega) (by omega) (by rw [s5]; rfl) (by decide) ?_
    refine r_aload_n C dX3_count_56 rfl rfl ?_
    refine r_get (v := .ref (ad (1))) C (by omega) h0 (show vwCl[3]? = some (RX3, TX3, 11) from rfl) m1 0 (by decide) m0 rfl rfl dX3_count_57 ?_
    refine r_get (v := .ref (ad (2))) C (by omega) h1 (show vwCl[1]? = some (RX1, TX1, 4) from rfl) m3 0 (by decide) m4 rfl rfl dX3_count_60 ?_
    refine r_iload_n C dX3_count_63 rfl rfl ?_
    refine r_iconst C ((1 : Nat) : Int) (by decide) dX3_count_64 ?_
    refine r_isub C (w - 1) (by omega) dX3_count_65 ?_
    refine r_iald (x := (iI (((cur s).1 ((w - 1).toNat) : Nat) : Int))) C (by omega) h2 ((w - 1).toNat) (by omega) (by omega) (Nat.le_of_ble_eq_true rfl) (rfl) dX3_count_66 ?_
    exact hret f (((cur s).1 ((w - 1).toNat) : Nat) : Int) _ _ dX3_count_67 (by unfold aCnt; rw [if_neg (by omega), if_pos (by omega)]) (⟨hX, fun _ _ => rfl⟩)
  by_cases s6 : (w) = 5
  · refine r_tin (tgt := 68) C ⟨by omega, by omega⟩ dX3_count_1 (by omega) (by omega) (by rw [s6]; rfl) (by decide) ?_
    refine r_aload_n C dX3_count_68 rfl rfl ?_
    refine r_callV (As := []) (rest := []) (na := 0) C (c_X3_wordsOfAll G tc l ad N _ s hX ho hN) gX3_count_X3_wordsOfAll rfl rfl rfl (by decide +kernel) ⟨Nat.le_of_ble_eq_true rfl, Nat.le_of_ble_eq_true rfl⟩ (by omega) h0 (show vwCl[3]? = some (RX3, TX3, 11) from rfl) rfl rfl (Nat.le_of_ble_eq_true rfl) dX3_count_69 ⟨Nat.le_of_ble_eq_true rfl, Nat.le_of_ble_eq_true rfl⟩ (aft_I (fun f9 hF10 => ?_))
    obtain ⟨hx7, ow8⟩ := hF10
    exact hret f9 ((dst (cur s) : Nat) : Int) _ _ dX3_count_72 (by unfold aCnt; rw [if_neg (by omega), if_neg (by omega), if_pos (by omega)]) (⟨hx7, fun q hq => (ow8 _ (by omega))⟩)
  by_cases s11 : (w) = 6
  · refine r_tin (tgt := 73) C ⟨by omega, by omega⟩ dX3_count_1 (by omega) (by omega) (by rw [s11]; rfl) (by decide) ?_
    refine r_aload_n C dX3_count_73 rfl rfl ?_
    refine r_get (v := .int (iI ((pln s : Nat) : Int))) C (by omega) h0 (show vwCl[3]? = some (RX3, TX3, 11) from rfl) m1 6 (by decide) m5 rfl rfl dX3_count_74 ?_
    exact hret f ((pln s : Nat) : Int) _ _ dX3_count_77 (by unfold aCnt; rw [if_neg (by omega), if_neg (by omega), if_neg (by omega), if_pos (by omega)]) (⟨hX, fun _ _ => rfl⟩)
  by_cases s12 : (w) = 7
  · refine r_tin (tgt := 78) C ⟨by omega, by omega⟩ dX3_count_1 (by omega) (by omega) (by rw [s12]; rfl) (by decide) ?_
    refine r_aload_n C dX3_count_78 rfl rfl ?_
    refine r_get (v := .int (iI ((kno s : Nat) : Int))) C (by omega) h0 (show vwCl[3]? = some (RX3, TX3, 11) from rfl) m1 2 (by decide) m6 rfl rfl dX3_count_79 ?_
    exact hret f ((kno s : Nat) : Int) _ _ dX3_count_82 (by unfold aCnt; rw [if_neg (by omega), if_neg (by omega), if_neg (by omega), if_neg (by omega), if_pos (by omega)]) (⟨hX, fun _ _ => rfl⟩)
  refine r_tout (tgt := 83) C ⟨by omega, by omega⟩ dX3_count_1 (by omega) (by decide) ?_
  refine r_bipush C ((-2)) (by decide) dX3_count_83 ?_
  exact hret f ((-2)) _ _ dX3_count_85 (by unfold aCnt; rw [if_neg (by omega), if_neg (by omega), if_neg (by omega), if_neg (by omega), if_neg (by omega)]) (⟨hX, fun _ _ => rfl⟩)
end XC1
