section ME1
theorem small_div : ∀ d, d < 1001 → 2 ≤ d → ¬ 1000003 % d = 0 := by decide +kernel
theorem prime_cop {F : Nat} (h1 : 1 ≤ F) (h2 : F ≤ 1000002) : Nat.Coprime 1000003 F := by
  obtain ⟨h, hh⟩ := Nat.gcd_dvd_left 1000003 F
  have hF := Nat.gcd_le_right 1000003 (n := F) h1
  show Nat.gcd 1000003 F = 1
  generalize Nat.gcd 1000003 F = g at hh hF
  rcases Nat.lt_or_ge g 2 with q | q
  · rcases Nat.lt_or_ge g 1 with q2 | q2
    · have e : g = 0 := by omega
      rw [e, Nat.zero_mul] at hh
      omega
    · omega
  · exfalso
    rcases Nat.lt_or_ge h 2 with q2 | q2
    · rcases Nat.lt_or_ge h 1 with q3 | q3
      · have e : h = 0 := by omega
        rw [e, Nat.mul_zero] at hh
        omega
      · have e : h = 1 := by omega
        rw [e, Nat.mul_one] at hh
        omega
    · rcases Nat.lt_or_ge g 1001 with q3 | q3
      · exact small_div g q3 q (by rw [hh]; exact Nat.mul_mod_right g h)
      · rcases Nat.lt_or_ge h 1001 with q4 | q4
        · exact small_div h q4 q2 (by rw [hh]; exact Nat.mul_mod_left g h)
        · have := Nat.mul_le_mul q3 q4
          omega
theorem vlu_inj0 {F O c c' : Nat} (h1 : 1 ≤ F) (h2 : F ≤ 1000002) (hc' : c' ≤ 531440) (hle : c ≤ c') (h : vlu F O c = vlu F O c') : c = c' := by
  unfold vlu at h
  have e1 := Nat.div_add_mod (c * F + O) 1000003
  have e2 := Nat.div_add_mod (c' * F + O) 1000003
  obtain ⟨d, rfl⟩ : ∃ d, c' = c + d := ⟨c' - c, by omega⟩
  have e3 : (c + d) * F = c * F + d * F := Nat.add_mul _ _ _
  have hd : (1000003 : Nat) ∣ d * F := by
    refine ⟨(((c + d) * F + O) / 1000003) - ((c * F + O) / 1000003), ?_⟩
    have e4 : (c * F + O) / 1000003 ≤ ((c + d) * F + O) / 1000003 := Nat.div_le_div_right (by omega)
    rw [Nat.mul_sub]
    omega
  have := Nat.eq_zero_of_dvd_of_lt ((prime_cop h1 h2).dvd_of_dvd_mul_right hd) (by omega)
  omega
theorem vlu_inj {F O c c' : Nat} (h1 : 1 ≤ F) (h2 : F ≤ 1000002) (hc : c ≤ 531440) (hc' : c' ≤ 531440) (h : vlu F O c = vlu F O c') : c = c' := by
  rcases Nat.le_total c c' with q | q
  · exact vlu_inj0 h1 h2 hc' q h
  · exact (vlu_inj0 h1 h2 hc q h.symm).symm
theorem ins_from {w : WW} {x c : Nat} : ∀ i, i < (ins w x c).1 → (∃ j, j < w.1 ∧ (ins w x c).2.1 i = w.2.1 j ∧ (ins w x c).2.2.1 i = w.2.2.1 j) ∨ ((ins w x c).2.1 i = x ∧ (ins w x c).2.2.1 i = c) := by
  intro i hi
  have hp := posn_le w.2.1 x w.1
  unfold ins at hi ⊢
  split
  · rename_i h
    rw [if_pos h] at hi
    exact Or.inl ⟨i, hi, rfl, rfl⟩
  · rename_i h
    rw [if_neg h] at hi
    dsimp only at hi ⊢
    unfold insF
    by_cases h1 : i < posn w.2.1 x w.1
    · exact Or.inl ⟨i, by omega, by rw [if_pos h1], by rw [if_pos h1]⟩
    · by_cases h2 : i = posn w.2.1 x w.1
      · exact Or.inr ⟨by rw [if_neg h1, if_pos h2], by rw [if_neg h1, if_pos h2]⟩
      · have h3 : i ≤ w.1 := by omega
        exact Or.inl ⟨i - 1, by omega, by rw [if_neg h1, if_neg h2, if_pos h3], by rw [if_neg h1, if_neg h2, if_pos h3]⟩
theorem ins_old {w : WW} {x c : Nat} : ∀ i, i < w.1 → ∃ i', i' < (ins w x c).1 ∧ (ins w x c).2.1 i' = w.2.1 i := by
  intro i hi
  unfold ins
  split
  · exact ⟨i, hi, rfl⟩
  · dsimp only
    unfold insF
    by_cases h1 : i < posn w.2.1 x w.1
    · exact ⟨i, by omega, by rw [if_pos h1]⟩
    · exact ⟨i + 1, by omega, by rw [if_neg (by omega), if_neg (by omega), if_pos (show i + 1 ≤ w.1 by omega), Nat.add_sub_cancel]⟩
theorem ins_new {w : WW} {x c : Nat} : ∃ i', i' < (ins w x c).1 ∧ (ins w x c).2.1 i' = x := by
  have hp := posn_le w.2.1 x w.1
  unfold ins
  split
  · rename_i h
    exact ⟨_, h.1, h.2⟩
  · dsimp only
    unfold insF
    exact ⟨posn w.2.1 x w.1, by omega, by rw [if_neg (by omega), if_pos rfl]⟩
theorem gth_val (n : NS) (r : Nat) : ∀ P i, i < (gth n r P).1 → ∃ p, p < P ∧ (gth n r P).2.1 i = vlu (n.1 2) (n.1 3) (cod n.2.2.1 (r * 64 + p) (n.1 0)) ∧ (gth n r P).2.2.1 i = cod n.2.2.1 (r * 64 + p) (n.1 0)
  | 0, i, h => absurd h (Nat.not_lt_zero _)
  | P + 1, i, h => by
    rcases ins_from (w := gth n r P) i h with ⟨j, h1, h2, h3⟩ | ⟨h2, h3⟩
    · obtain ⟨p, q1, q2, q3⟩ := gth_val n r P j h1
      exact ⟨p, by omega, h2.trans q2, h3.trans q3⟩
    · exact ⟨P, by omega, h2, h3⟩
theorem gth_has (n : NS) (r : Nat) : ∀ P p, p < P → ∃ i, i < (gth n r P).1 ∧ (gth n r P).2.1 i = vlu (n.1 2) (n.1 3) (cod n.2.2.1 (r * 64 + p) (n.1 0))
  | 0, p, h => absurd h (Nat.not_lt_zero _)
  | P + 1, p, h => by
    rcases Nat.lt_or_ge p P with q | q
    · obtain ⟨i, h1, h2⟩ := gth_has n r P p q
      obtain ⟨i', h3, h4⟩ := ins_old (w := gth n r P) (x := vlu (n.1 2) (n.1 3) (cod n.2.2.1 (r * 64 + P) (n.1 0))) (c := cod n.2.2.1 (r * 64 + P) (n.1 0)) i h1
      exact ⟨i', h3, h4.trans h2⟩
    · have e : p = P := by omega
      rw [e]
      exact ins_new
theorem cod_ok {n : NS} (ho : okN n) {r p : Nat} (hr : r < 10) (hp : p + n.1 0 ≤ n.2.1 r) : cod n.2.2.1 (r * 64 + p) (n.1 0) ≤ 531440 := by
  obtain ⟨⟨a1, a2⟩, _, _, _, _, a9, a10⟩ := ho
  have := a9 r hr
  exact cod_le a2 (fun j hj => a10 _ (by omega))
theorem wds_cod {n : NS} (ho : okN n) {r k : Nat} (hr : r < 10) (hk : k < (wds n r).1) : (wds n r).2.2.1 k ≤ 531440 := by
  obtain ⟨p, h1, _, h3⟩ := gth_val n r _ k hk
  have h3 : (wds n r).2.2.1 k = _ := h3
  rw [h3]
  have := ho.1.1
  exact cod_ok ho hr (by omega)
/-- a word with code c stands ahead of place pp of row rr -/
def AF (n : NS) (c rr pp : Nat) : Prop := ∃ i p, (i < rr ∨ (i = rr ∧ p < pp)) ∧ p + n.1 0 ≤ n.2.1 i ∧ cod n.2.2.1 (i * 64 + p) (n.1 0) = c
noncomputable def ahb (n : NS) (r c : Nat) : Nat := @ite _ (AF n c r 0) (Classical.propDecidable _) 1 0
theorem ahb_le (n : NS) (r c : Nat) : ahb n r c ≤ 1 := by
  unfold ahb
  split <;> omega
theorem ahb_01 (n : NS) (r c : Nat) : ((ahb n r c : Nat) : Int) = 0 ∨ ((ahb n r c : Nat) : Int) = 1 := by
  have := ahb_le n r c
  omega
theorem ahb_iff {n : NS} {r c : Nat} : ahb n r c = 1 ↔ AF n c r 0 := by
  unfold ahb
  split
  · rename_i h
    exact ⟨fun _ => h, fun _ => rfl⟩
  · rename_i h
    exact ⟨fun q => absurd q (by decide), fun q => absurd q h⟩
def BA (n : NS) (c r i p b : Nat) : Prop := (b = 0 ∧ ¬ AF n c i p) ∨ (b = 1 ∧ AF n c r 0)
theorem ba_le {n : NS} {c r i p b : Nat} (h : BA n c r i p b) : b ≤ 1 := by
  rcases h with ⟨h, _⟩ | ⟨h, _⟩ <;> omega
theorem ba_0 {n : NS} {c r : Nat} : BA n c r 0 0 0 := Or.inl ⟨rfl, fun ⟨i, p, h, _⟩ => by omega⟩
theorem ba_out {n : NS} {c r i p b : Nat} (h : BA n c r i p b) (he : n.2.1 i < p + n.1 0 ∨ ¬ ((b : Nat) : Int) = 0) : BA n c r (i + 1) 0 b := by
  rcases h with ⟨h1, h2⟩ | h
  · refine Or.inl ⟨h1, fun ⟨i', p', g1, g2, g3⟩ => h2 ⟨i', p', ?_, g2, g3⟩⟩
    rcases Nat.lt_or_ge i' i with q | q
    · exact Or.inl q
    · have e : i' = i := by omega
      subst e
      exact Or.inr ⟨rfl, by omega⟩
  · exact Or.inr h
theorem ba_1 {n : NS} {c r i p : Nat} {j : Nat} (hi : i < r) (hp : p + n.1 0 ≤ n.2.1 i) (hc : cod n.2.2.1 (i * 64 + p) (n.1 0) = c) : BA n c r i j 1 := Or.inr ⟨rfl, i, p, Or.inl hi, hp, hc⟩
theorem ba_s {n : NS} {c r i p b : Nat} (h : BA n c r i p b) (hb : ((b : Nat) : Int) = 0) (hc : ¬ cod n.2.2.1 (i * 64 + p) (n.1 0) = c) : BA n c r i (p + 1) 0 := by
  rcases h with ⟨h1, h2⟩ | ⟨h1, _⟩
  · refine Or.inl ⟨rfl, fun ⟨i', p', g1, g2, g3⟩ => ?_⟩
    by_cases q : i' = i ∧ p' = p
    · rw [q.1, q.2] at g3
      exact hc g3
    · exact h2 ⟨i', p', by omega, g2, g3⟩
  · omega
theorem ba_end {n : NS} {c r i b : Nat} (h : BA n c r i 0 b) (hi : i ≤ r) (he : r ≤ i ∨ ¬ ((b : Nat) : Int) = 0) : b = ahb n r c := by
  have hl := ahb_le n r c
  rcases h with ⟨h1, h2⟩ | ⟨h1, h2⟩
  · have e : i = r := by omega
    rw [e] at h2
    have : ¬ ahb n r c = 1 := fun q => h2 (ahb_iff.mp q)
    omega
  · have := ahb_iff.mpr h2
    omega
theorem ah_in {n : NS} (ho : okN n) {r k : Nat} (hr : r < 10) (hk : k < (wds n r).1) : ahb n r ((wds n r).2.2.1 k) = 1 ↔ inE n r ((wds n r).2.1 k) = true := by
  obtain ⟨p, h1, h2, h3⟩ := gth_val n r _ k hk
  have h2 : (wds n r).2.1 k = _ := h2
  have h3 : (wds n r).2.2.1 k = _ := h3
  have hW := ho.1.1
  have hc := wds_cod ho hr hk
  rw [ahb_iff, inE_iff, h2, ← h3]
  constructor
  · rintro ⟨i, p', g1, g2, g3⟩
    obtain ⟨j, g4, g5⟩ := gth_has n i (n.2.1 i + 1 - n.1 0) p' (by omega)
    exact ⟨i, by omega, j, g4, by rw [← g3]; exact g5⟩
  · rintro ⟨i, g1, j, g2, g3⟩
    obtain ⟨p', g4, g5, _⟩ := gth_val n i _ j g2
    have g5 : (wds n i).2.1 j = _ := g5
    rw [g5] at g3
    have hp' : p' + n.1 0 ≤ n.2.1 i := by omega
    exact ⟨i, p', Or.inl g1, hp', vlu_inj ho.2.2.1.1 ho.2.2.1.2 (cod_ok ho (by omega) hp') hc g3⟩
theorem cnt_in {p : Nat → Bool} {k : Nat} (h : p k = true) : cnb (fun i => !p i) (k + 1) = cnb (fun i => !p i) k := by
  rw [cnb, h]
  simp
theorem cnt_out {p : Nat → Bool} {k : Nat} (h : ¬ p k = true) : cnb (fun i => !p i) (k + 1) = cnb (fun i => !p i) k + 1 := by
  have : p k = false := by simpa using h
  rw [cnb, this]
  simp
set_option maxHeartbeats 4000000 in
set_option maxRecDepth 100000 in
/-- isAhead(r, c) -/
theorem c_X4_isAhead (G : va_G) (tc : Nat → ClassId) (l : Launch) (ad : Nat → Nat) (N : Nat) (f : Nat → va_E) (s : SG) (hM : MI tc ad f s) (ho : okS s) (hN : 98 ≤ N) (r c : Nat) (hr : r < 10) (hc : c ≤ 531440)   : Ct G tc l yX4_isAhead wsX4_isAhead { frames := 2, cells := 0, slots := 0, locals := 46 } 0 0 [.ref (ad (88)), .int (iI ((r : Nat) : Int)), .int (iI ((c : Nat) : Int))] ad N f (poI ad N (((ahb (cur s) r c : Nat) : Int)) (fun f' => f' = f)) := by
  obtain ⟨⟨x1, x2, x3, x4, m88⟩, m89', ⟨bb, m90, hbb⟩, ⟨sb, m91, hsb⟩, ⟨ig, m92, hig⟩, m93, ⟨wc, wv, wo, wn, m94, m95, m96, m97⟩⟩ := id hM
  have m89 : f 89 = eI tc 655 (fun j => iI ((nwF ((cur s).1, (cur s).2.1, (cur s).2.2.1, (cur s).2.2.2) j : Nat) : Int)) := m89'
  obtain ⟨⟨⟨a1, a2⟩, ⟨a3, a4⟩, ⟨a5, a6⟩, a7, a8, a9, a10⟩, o2, o3, o4, o5, o6⟩ := id ho
  refine stZ (ahb_01 _ _ _) (cc := cX4_isAhead) (maxL := 6) (lv := [(0, .ref (ad (88))), (1, .int (iI ((r : Nat) : Int))), (2, .int (iI ((c : Nat) : Int)))]) (by decide) rfl (Nat.le_of_ble_eq_true rfl) rfl (fun X C hret => ?_)
  have m0 : Cond.fieldLink RX4 7 "WordSamplesModel" "now" "[I" ∈ wsX4_isAhead := by decide +kernel
  have m1 : ∀ w ∈ wsX40, w ∈ wsX4_isAhead := by decide +kernel
  refine r_iconst C ((0 : Nat) : Int) (by decide) dX4_isAhead_0 ?_
  refine r_istore_n (lv' := [(0, .ref (ad (88))), (1, .int (iI ((r : Nat) : Int))), (2, .int (iI ((c : Nat) : Int))), (3, .int (iI ((0 : Nat) : Int)))]) C dX4_isAhead_1 rfl (by decide) rfl ?_
  refine r_iconst C ((0 : Nat) : Int) (by decide) dX4_isAhead_2 ?_
  refine r_istore (lv' := [(0, .ref (ad (88))), (1, .int (iI ((r : Nat) : Int))), (2, .int (iI ((c : Nat) : Int))), (3, .int (iI ((0 : Nat) : Int))), (4, .int (iI ((0 : Nat) : Int)))]) C dX4_isAhead_3 (by decide) rfl ?_
  have hL1 : ∀ (m_2 : Nat) (i : Nat) (b : Nat) (hi : i ≤ r) (hB : BA (cur s) c r i 0 b), r - i < m_2 → VV X ad N f 0 0 5 [(0, .ref (ad (88))), (1, .int (iI ((r : Nat) : Int))), (2, .int (iI ((c : Nat) : Int))), (3, .int (iI ((b : Nat) : Int))), (4, .int (iI ((i : Nat) : Int)))] [] := by
    intro m_2
    induction m_2 with
    | zero => intros; omega
    | succ m_2 ih3 =>
      intro i b hi hB hm4
      have hb1 := ba_le hB
      refine r_iload C dX4_isAhead_5 rfl ?_
      refine r_iload_n C dX4_isAhead_7 rfl rfl ?_
      refine r_icmp_ge (tgt := 73) C ⟨by omega, by omega⟩ ⟨by omega, by omega⟩ dX4_isAhead_8 (by decide) (fun b5 => ?_) (fun b5 => ?_)
      · refine r_iload_n C dX4_isAhead_73 rfl rfl ?_
        exact hret f ((b : Nat) : Int) _ _ dX4_isAhead_74 (by rw [ba_end hB hi (by omega)]) rfl
      · refine r_iload_n C dX4_isAhead_11 rfl rfl ?_
        refine r_if_ne (tgt := 73) C ⟨by omega, by omega⟩ dX4_isAhead_12 (by decide) (fun b6 => ?_) (fun b6 => ?_)
        · refine r_iload_n C dX4_isAhead_73 rfl rfl ?_
          exact hret f ((b : Nat) : Int) _ _ dX4_isAhead_74 (by rw [ba_end hB hi (by omega)]) rfl
        · have q9 := a9 i (by omega)
          refine r_iconst C ((0 : Nat) : Int) (by decide) dX4_isAhead_15 ?_
          refine r_istore (lv' := [(0, .ref (ad (88))), (1, .int (iI ((r : Nat) : Int))), (2, .int (iI ((c : Nat) : Int))), (3, .int (iI ((b : Nat) : Int))), (4, .int (iI ((i : Nat) : Int))), (5, .int (iI ((0 : Nat) : Int)))]) C dX4_isAhead_16 (by decide) rfl ?_
          have hL7 : ∀ (m_8 : Nat) (p : Nat) (b2 : Nat) (hp : p ≤ 64) (hB2 : BA (cur s) c r i p b2), 65 - p < m_8 → VV X ad N f 0 0 18 [(0, .ref (ad (88))), (1, .int (iI ((r : Nat) : Int))), (2, .int (iI ((c : Nat) : Int))), (3, .int (iI ((b2 : Nat) : Int))), (4, .int (iI ((i : Nat) : Int))), (5, .int (iI ((p : Nat) : Int)))] [] := by
            intro m_8
            induction m_8 with
            | zero => intros; omega
            | succ m_8 ih9 =>
              intro p b2 hp hB2 hm10
              have hb2 := ba_le hB2
              refine r_iload C dX4_isAhead_18 rfl ?_
              refine r_aload_n C dX4_isAhead_20 rfl rfl ?_
              refine r_get (v := .ref (ad (89))) C (by omega) m88 (show vwCl[4]? = some (RX4, TX4, 15) from rfl) m1 0 (by decide) m0 rfl rfl dX4_isAhead_21 ?_
              refine r_iconst C ((0 : Nat) : Int) (by decide) dX4_isAhead_24 ?_
              refine r_iald (x := (iI (((cur s).1 0 : Nat) : Int))) C (by omega) m89 (0) rfl (by omega) (Nat.le_of_ble_eq_true rfl) (rfl) dX4_isAhead_25 ?_
              refine r_iadd C ((p + ((cur s).1 0) : Nat) : Int) (by omega) dX4_isAhead_26 ?_
              refine r_aload_n C dX4_isAhead_27 rfl rfl ?_
              refine r_get (v := .ref (ad (89))) C (by omega) m88 (show vwCl[4]? = some (RX4, TX4, 15) from rfl) m1 0 (by decide) m0 rfl rfl dX4_isAhead_28 ?_
              refine r_iconst C ((5 : Nat) : Int) (by decide) dX4_isAhead_31 ?_
              refine r_iload C dX4_isAhead_32 rfl ?_
              refine r_iadd C ((5 + i : Nat) : Int) (by omega) dX4_isAhead_34 ?_
              refine r_iald (x := (iI (((cur s).2.1 i : Nat) : Int))) C (by omega) m89 (5 + i) rfl (by omega) (Nat.le_of_ble_eq_true rfl) (congrArg (fun q : Nat => iI ((q : Nat) : Int)) (nwL (by omega))) dX4_isAhead_35 ?_
              refine r_icmp_gt (tgt := 67) C ⟨by omega, by omega⟩ ⟨by omega, by omega⟩ dX4_isAhead_36 (by decide) (fun b11 => ?_) (fun b11 => ?_)
              · refine r_iinc (lv' := [(0, .ref (ad (88))), (1, .int (iI ((r : Nat) : Int))), (2, .int (iI ((c : Nat) : Int))), (3, .int (iI ((b2 : Nat) : Int))), (4, .int (iI ((i + 1 : Nat) : Int))), (5, .int (iI ((p : Nat) : Int)))]) C ((i + 1 : Nat) : Int) (by omega) dX4_isAhead_67 rfl (by decide) rfl ?_
                refine r_goto (tgt := 5) C dX4_isAhead_70 (by decide) ?_
                refine r_sub (ks := [0, 1, 2, 3, 4]) (lv' := [(0, .ref (ad (88))), (1, .int (iI ((r : Nat) : Int))), (2, .int (iI ((c : Nat) : Int))), (3, .int (iI ((b2 : Nat) : Int))), (4, .int (iI ((i + 1 : Nat) : Int)))]) rfl ?_
                exact ih3 (i + 1) b2 (by omega) (ba_out hB2 (by omega)) (by omega)
              · refine r_iload_n C dX4_isAhead_39 rfl rfl ?_
                refine r_if_ne (tgt := 67) C ⟨by omega, by omega⟩ dX4_isAhead_40 (by decide) (fun b12 => ?_) (fun b12 => ?_)
                · refine r_iinc (lv' := [(0, .ref (ad (88))), (1, .int (iI ((r : Nat) : Int))), (2, .int (iI ((c : Nat) : Int))), (3, .int (iI ((b2 : Nat) : Int))), (4, .int (iI ((i + 1 : Nat) : Int))), (5, .int (iI ((p : Nat) : Int)))]) C ((i + 1 : Nat) : Int) (by omega) dX4_isAhead_67 rfl (by decide) rfl ?_
                  refine r_goto (tgt := 5) C dX4_isAhead_70 (by decide) ?_
                  refine r_sub (ks := [0, 1, 2, 3, 4]) (lv' := [(0, .ref (ad (88))), (1, .int (iI ((r : Nat) : Int))), (2, .int (iI ((c : Nat) : Int))), (3, .int (iI ((b2 : Nat) : Int))), (4, .int (iI ((i + 1 : Nat) : Int)))]) rfl ?_
                  exact ih3 (i + 1) b2 (by omega) (ba_out hB2 (by omega)) (by omega)
                · refine r_aload_n C dX4_isAhead_43 rfl rfl ?_
                  refine r_iload C dX4_isAhead_44 rfl ?_
                  refine r_iload C dX4_isAhead_46 rfl ?_
                  refine r_callV (As := [.int (iI ((i : Nat) : Int)), .int (iI ((p : Nat) : Int))]) (rest := []) (na := 2) C (c_X4_codeAt G tc l ad N _ s hM ho hN i p (by omega) (by omega)) gX4_isAhead_X4_codeAt rfl rfl rfl (by decide +kernel) ⟨Nat.le_of_ble_eq_true rfl, Nat.le_of_ble_eq_true rfl⟩ (by omega) m88 (show vwCl[4]? = some (RX4, TX4, 15) from rfl) rfl rfl (Nat.le_of_ble_eq_true rfl) dX4_isAhead_48 ⟨Nat.le_of_ble_eq_true rfl, Nat.le_of_ble_eq_true rfl⟩ (aft_I (fun f13 hF14 => ?_))
                  rw [hF14]
                  have hcl : cod (cur s).2.2.1 (i * 64 + p) ((cur s).1 0) ≤ 531440 := cod_le a2 (fun j hj => a10 _ (by omega))
                  refine r_iload_n C dX4_isAhead_51 rfl rfl ?_
                  refine r_icmp_ne (tgt := 59) C ⟨by omega, by omega⟩ ⟨by omega, by omega⟩ dX4_isAhead_52 (by decide) (fun b15 => ?_) (fun b15 => ?_)
                  · refine r_iconst C ((0 : Nat) : Int) (by decide) dX4_isAhead_59 ?_
                    refine r_istore_n (lv' := [(0, .ref (ad (88))), (1, .int (iI ((r : Nat) : Int))), (2, .int (iI ((c : Nat) : Int))), (3, .int (iI ((0 : Nat) : Int))), (4, .int (iI ((i : Nat) : Int))), (5, .int (iI ((p : Nat) : Int)))]) C dX4_isAhead_60 rfl (by decide) rfl ?_
                    refine r_iinc (lv' := [(0, .ref (ad (88))), (1, .int (iI ((r : Nat) : Int))), (2, .int (iI ((c : Nat) : Int))), (3, .int (iI ((0 : Nat) : Int))), (4, .int (iI ((i : Nat) : Int))), (5, .int (iI ((p + 1 : Nat) : Int)))]) C ((p + 1 : Nat) : Int) (by omega) dX4_isAhead_61 rfl (by decide) rfl ?_
                    refine r_goto (tgt := 18) C dX4_isAhead_64 (by decide) ?_
                    exact ih9 (p + 1) 0 (by omega) (ba_s hB2 (by omega) (by omega)) (by omega)
                  · refine r_iconst C ((1 : Nat) : Int) (by decide) dX4_isAhead_55 ?_
                    refine r_goto (tgt := 60) C dX4_isAhead_56 (by decide) ?_
                    refine r_istore_n (lv' := [(0, .ref (ad (88))), (1, .int (iI ((r : Nat) : Int))), (2, .int (iI ((c : Nat) : Int))), (3, .int (iI ((1 : Nat) : Int))), (4, .int (iI ((i : Nat) : Int))), (5, .int (iI ((p : Nat) : Int)))]) C dX4_isAhead_60 rfl (by decide) rfl ?_
                    refine r_iinc (lv' := [(0, .ref (ad (88))), (1, .int (iI ((r : Nat) : Int))), (2, .int (iI ((c : Nat) : Int))), (3, .int (iI ((1 : Nat) : Int))), (4, .int (iI ((i : Nat) : Int))), (5, .int (iI ((p + 1 : Nat) : Int)))]) C ((p + 1 : Nat) : Int) (by omega) dX4_isAhead_61 rfl (by decide) rfl ?_
                    refine r_goto (tgt := 18) C dX4_isAhead_64 (by decide) ?_
                    exact ih9 (p + 1) 1 (by omega) (ba_1 (p := p) (by omega) (by omega) (by omega)) (by omega)
          exact hL7 _ 0 b (by omega) hB (Nat.lt_succ_self _)
  exact hL1 _ 0 0 (by omega) ba_0 (Nat.lt_succ_self _)
set_option maxHeartbeats 4000000 in
set_option maxRecDepth 100000 in
/-- different() -/
theorem c_X4_different (G : va_G) (tc : Nat → ClassId) (l : Launch) (ad : Nat → Nat) (N : Nat) (f : Nat → va_E) (s : SG) (hM : MI tc ad f s) (ho : okS s) (hN : 98 ≤ N)    : Ct G tc l yX4_different wsX4_different { frames := 3, cells := 0, slots := 0, locals := 71 } 0 0 [.ref (ad (88))] ad N f (poI ad N (((dst (cur s) : Nat) : Int)) (fun f' => MI tc ad f' s ∧ ∀ q, (q < 88 ∨ 98 ≤ q) → f' q = f q)) := by
  obtain ⟨⟨x1, x2, x3, x4, m88⟩, m89', ⟨bb, m90, hbb⟩, ⟨sb, m91, hsb⟩, ⟨ig, m92, hig⟩, m93, ⟨wc, wv, wo, wn, m94, m95, m96, m97⟩⟩ := id hM
  have m89 : f 89 = eI tc 655 (fun j => iI ((nwF ((cur s).1, (cur s).2.1, (cur s).2.2.1, (cur s).2.2.2) j : Nat) : Int)) := m89'
  obtain ⟨⟨⟨a1, a2⟩, ⟨a3, a4⟩, ⟨a5, a6⟩, a7, a8, a9, a10⟩, o2, o3, o4, o5, o6⟩ := id ho
  refine stI (cc := cX4_different) (maxL := 4) (lv := [(0, .ref (ad (88)))]) (by decide) rfl (Nat.le_of_ble_eq_true rfl) rfl (fun X C hret => ?_)
  have m0 : Cond.fieldLink RX4 7 "WordSamplesModel" "now" "[I" ∈ wsX4_different := by decide +kernel
  have m1 : ∀ w ∈ wsX40, w ∈ wsX4_different := by decide +kernel
  have m2 : Cond.fieldLink RX4 35 "WordSamplesModel" "words" "[I" ∈ wsX4_different := by decide +kernel
  have m3 : Cond.fieldLink RX4 26 "WordSamplesModel" "codes" "[I" ∈ wsX4_different := by decide +kernel
  refine r_iconst C ((0 : Nat) : Int) (by decide) dX4_different_0 ?_
  refine r_istore_n (lv' := [(0, .ref (ad (88))), (1, .int (iI ((0 : Nat) : Int)))]) C dX4_different_1 rfl (by decide) rfl ?_
  refine r_iconst C ((0 : Nat) : Int) (by decide) dX4_different_2 ?_
  refine r_istore_n (lv' := [(0, .ref (ad (88))), (1, .int (iI ((0 : Nat) : Int))), (2, .int (iI ((0 : Nat) : Int)))]) C dX4_different_3 rfl (by decide) rfl ?_
  have hL3 : ∀ (m_4 : Nat) (r : Nat) (f1 : Nat → va_E) (ho2 : ∀ q, (q < 88 ∨ 98 ≤ q) → f1 q = f q) (hMl : MI tc ad f1 s) (hr : r ≤ (cur s).2.2.2), (cur s).2.2.2 - r < m_4 → VV X ad N f1 0 0 4 [(0, .ref (ad (88))), (1, .int (iI ((usum (cur s) (fun r => (wds (cur s) r).1) r : Nat) : Int))), (2, .int (iI ((r : Nat) : Int)))] [] := by
    intro m_4
    induction m_4 with
    | zero => intros; omega
    | succ m_4 ih5 =>
      intro r f1 ho2 hMl hr hm6
      obtain ⟨⟨n7, n8, n9, n10, n11⟩, n12, -, -, -, -, ⟨n13, n14, n15, n16, n17, n18, n19, n20⟩⟩ := id hMl
      have n21 : f1 89 = eI tc 655 (fun j => iI ((nwF ((cur s).1, (cur s).2.1, (cur s).2.2.1, (cur s).2.2.2) j : Nat) : Int)) := n12
      refine r_iload_n C dX4_different_4 rfl rfl ?_
      refine r_aload_n C dX4_different_5 rfl rfl ?_
      refine r_get (v := .ref (ad (89))) C (by omega) n11 (show vwCl[4]? = some (RX4, TX4, 15) from rfl) m1 0 (by decide) m0 rfl rfl dX4_different_6 ?_
      refine r_iconst C ((4 : Nat) : Int) (by decide) dX4_different_9 ?_
      refine r_iald (x := (iI (((cur s).2.2.2 : Nat) : Int))) C (by omega) n21 (4) rfl (by omega) (Nat.le_of_ble_eq_true rfl) (rfl) dX4_different_10 ?_
      refine r_icmp_ge (tgt := 66) C ⟨by omega, by omega⟩ ⟨by omega, by omega⟩ dX4_different_11 (by decide) (fun b27 => ?_) (fun b27 => ?_)
      · refine r_iload_n C dX4_different_66 rfl rfl ?_
        exact hret f1 ((usum (cur s) (fun r => (wds (cur s) r).1) r : Nat) : Int) _ _ dX4_different_67 (by rw [dst, show (cur s).2.2.2 = r from by omega]) (⟨hMl, fun q hq => (ho2 _ (by omega))⟩)
      · refine r_aload_n C dX4_different_14 rfl rfl ?_
        refine r_iconst C ((0 : Nat) : Int) (by decide) dX4_different_15 ?_
        refine r_iload_n C dX4_different_16 rfl rfl ?_
        refine r_callV (As := [.int (iI ((0 : Nat) : Int)), .int (iI ((r : Nat) : Int))]) (rest := []) (na := 2) C (c_X4_find G tc l ad N _ s hMl ho hN _ _ _ _ n17 n18 n19 n20 0 (by omega) r (by omega)) gX4_different_X4_find rfl rfl rfl (by decide +kernel) ⟨Nat.le_of_ble_eq_true rfl, Nat.le_of_ble_eq_true rfl⟩ (by omega) n11 (show vwCl[4]? = some (RX4, TX4, 15) from rfl) rfl rfl (Nat.le_of_ble_eq_true rfl) dX4_different_17 ⟨Nat.le_of_ble_eq_true rfl, Nat.le_of_ble_eq_true rfl⟩ (aft_V (fun f38 hF39 => ?_))
        obtain ⟨⟨c28, v29, o30, n31, k32, k33, k34, k35, hW36, -⟩, ow37⟩ := hF39
        have hVhW36 := mw_v0 hW36
        have hChW36 := mw_c0 hW36
        have hThW36 := mw_o0 hW36
        have hqhW36 := wds_le ho.1 (r := r) (by omega)
        refine r_iconst C ((0 : Nat) : Int) (by decide) dX4_different_20 ?_
        refine r_istore_n (lv' := [(0, .ref (ad (88))), (1, .int (iI ((usum (cur s) (fun r => (wds (cur s) r).1) r : Nat) : Int))), (2, .int (iI ((r : Nat) : Int))), (3, .int (iI ((0 : Nat) : Int)))]) C dX4_different_21 rfl (by decide) rfl ?_
        have hL40 : ∀ (m_41 : Nat) (k : Nat) (hk : k ≤ (wds (cur s) r).1), (wds (cur s) r).1 - k < m_41 → VV X ad N f38 0 0 22 [(0, .ref (ad (88))), (1, .int (iI ((usum (cur s) (fun r => (wds (cur s) r).1) r + cnb (fun i => !inE (cur s) r ((wds (cur s) r).2.1 i)) k : Nat) : Int))), (2, .int (iI ((r : Nat) : Int))), (3, .int (iI ((k : Nat) : Int)))] [] := by
          intro m_41
          induction m_41 with
          | zero => intros; omega
          | succ m_41 ih42 =>
            intro k hk hm43
            refine r_iload_n C dX4_different_22 rfl rfl ?_
            refine r_aload_n C dX4_different_23 rfl rfl ?_
            have c44 : f38 (88) = eO 4 [.ref (ad (89)), .ref (ad (90)), .int (iI ((kno s : Nat) : Int)), .ref (ad (91)), .ref (ad (92)), .ref (ad (93)), .int (iI ((pln s : Nat) : Int)), .ref (ad (94)), .ref (ad (95)), .ref (ad (96)), .ref (ad (97)), .int (n7), .int (n8), .int (n9), .int (n10)] := (ow37 _ (by omega)).trans n11
            refine r_get (v := .ref (ad (97))) C (by omega) c44 (show vwCl[4]? = some (RX4, TX4, 15) from rfl) m1 10 (by decide) m2 rfl rfl dX4_different_24 ?_
            refine r_iconst C ((0 : Nat) : Int) (by decide) dX4_different_27 ?_
            refine r_iald (x := (iI (((wds (cur s) r).1 : Nat) : Int))) C (by omega) k35 (0) rfl (by omega) (Nat.le_of_ble_eq_true rfl) (hW36.1) dX4_different_28 ?_
            refine r_icmp_ge (tgt := 60) C ⟨by omega, by omega⟩ ⟨by omega, by omega⟩ dX4_different_29 (by decide) (fun b45 => ?_) (fun b45 => ?_)
            · have hke : k = (wds (cur s) r).1 := by omega
              refine r_lveq (lv' := [(0, .ref (ad (88))), (1, .int (iI ((usum (cur s) (fun r => (wds (cur s) r).1) (r + 1) : Nat) : Int))), (2, .int (iI ((r : Nat) : Int))), (3, .int (iI ((k : Nat) : Int)))]) (by rw [usum, ← hke]) ?_
              refine r_iinc (lv' := [(0, .ref (ad (88))), (1, .int (iI ((usum (cur s) (fun r => (wds (cur s) r).1) (r + 1) : Nat) : Int))), (2, .int (iI ((r + 1 : Nat) : Int))), (3, .int (iI ((k : Nat) : Int)))]) C ((r + 1 : Nat) : Int) (by omega) dX4_different_60 rfl (by decide) rfl ?_
              refine r_goto (tgt := 4) C dX4_different_63 (by decide) ?_
              refine r_sub (ks := [0, 1, 2]) (lv' := [(0, .ref (ad (88))), (1, .int (iI ((usum (cur s) (fun r => (wds (cur s) r).1) (r + 1) : Nat) : Int))), (2, .int (iI ((r + 1 : Nat) : Int)))]) rfl ?_
              have hMi46 : MI tc ad f38 s := M_re hMl c44 k32 k33 k34 k35 (fun q g1 g2 => (ow37 _ (by omega)))
              exact ih5 (r + 1) f38 (fun q hq => ((ow37 _ (by omega))).trans (ho2 _ (by omega))) hMi46 (by omega) (by omega)
            · refine r_iload_n C dX4_different_32 rfl rfl ?_
              refine r_aload_n C dX4_different_33 rfl rfl ?_
              refine r_iload_n C dX4_different_34 rfl rfl ?_
              refine r_aload_n C dX4_different_35 rfl rfl ?_
              refine r_get (v := .ref (ad (94))) C (by omega) c44 (show vwCl[4]? = some (RX4, TX4, 15) from rfl) m1 7 (by decide) m3 rfl rfl dX4_different_36 ?_
              refine r_iload_n C dX4_different_39 rfl rfl ?_
              refine r_iald (x := (iI (((wds (cur s) r).2.2.1 k : Nat) : Int))) C (by omega) k32 (k) rfl (by omega) (Nat.le_of_ble_eq_true rfl) (hChW36 _ (by omega)) dX4_different_40 ?_
              have hMi47 : MI tc ad f38 s := M_re hMl c44 k32 k33 k34 k35 (fun q g1 g2 => (ow37 _ (by omega)))
              refine r_callV (As := [.int (iI ((r : Nat) : Int)), .int (iI (((wds (cur s) r).2.2.1 k : Nat) : Int))]) (rest := [.int (iI ((usum (cur s) (fun r => (wds (cur s) r).1) r + cnb (fun i => !inE (cur s) r ((wds (cur s) r).2.1 i)) k : Nat) : Int))]) (na := 2) C (c_X4_isAhead G tc l ad N _ s hMi47 ho hN r ((wds (cur s) r).2.2.1 k) (by omega) (wds_cod ho.1 (by omega) (by omega))) gX4_different_X4_isAhead rfl rfl rfl (by decide +kernel) ⟨Nat.le_of_ble_eq_true rfl, Nat.le_of_ble_eq_true rfl⟩ (by omega) c44 (show vwCl[4]? = some (RX4, TX4, 15) from rfl) rfl rfl (Nat.le_of_ble_eq_true rfl) dX4_different_41 ⟨Nat.le_of_ble_eq_true rfl, Nat.le_of_ble_eq_true rfl⟩ (aft_I (fun f48 hF49 => ?_))
              rw [hF49]
              have hah := ah_in (n := cur s) ho.1 (r := r) (k := k) (by omega) (by omega)
              have hal := ahb_le (cur s) r ((wds (cur s) r).2.2.1 k)
              refine r_if_eq (tgt := 51) C ⟨by omega, by omega⟩ dX4_different_44 (by decide) (fun b50 => ?_) (fun b50 => ?_)
              · have hcn : cnb (fun i => !inE (cur s) r ((wds (cur s) r).2.1 i)) (k + 1) = cnb (fun i => !inE (cur s) r ((wds (cur s) r).2.1 i)) k + 1 := cnt_out (fun q => by have := hah.mpr q; omega)
                refine r_iconst C ((1 : Nat) : Int) (by decide) dX4_different_51 ?_
                refine r_iadd C ((usum (cur s) (fun r => (wds (cur s) r).1) r + cnb (fun i => !inE (cur s) r ((wds (cur s) r).2.1 i)) (k + 1) : Nat) : Int) (by omega) dX4_different_52 ?_
                refine r_istore_n (lv' := [(0, .ref (ad (88))), (1, .int (iI ((usum (cur s) (fun r => (wds (cur s) r).1) r + cnb (fun i => !inE (cur s) r ((wds (cur s) r).2.1 i)) (k + 1) : Nat) : Int))), (2, .int (iI ((r : Nat) : Int))), (3, .int (iI ((k : Nat) : Int)))]) C dX4_different_53 rfl (by decide) rfl ?_
                refine r_iinc (lv' := [(0, .ref (ad (88))), (1, .int (iI ((usum (cur s) (fun r => (wds (cur s) r).1) r + cnb (fun i => !inE (cur s) r ((wds (cur s) r).2.1 i)) (k + 1) : Nat) : Int))), (2, .int (iI ((r : Nat) : Int))), (3, .int (iI ((k + 1 : Nat) : Int)))]) C ((k + 1 : Nat) : Int) (by omega) dX4_different_54 rfl (by decide) rfl ?_
                refine r_goto (tgt := 22) C dX4_different_57 (by decide) ?_
                exact ih42 (k + 1) (by omega) (by omega)
              · have hcn : cnb (fun i => !inE (cur s) r ((wds (cur s) r).2.1 i)) (k + 1) = cnb (fun i => !inE (cur s) r ((wds (cur s) r).2.1 i)) k := cnt_in (hah.mp (by have := ahb_le (cur s) r ((wds (cur s) r).2.2.1 k); omega))
                refine r_iconst C ((0 : Nat) : Int) (by decide) dX4_different_47 ?_
                refine r_goto (tgt := 52) C dX4_different_48 (by decide) ?_
                refine r_iadd C ((usum (cur s) (fun r => (wds (cur s) r).1) r + cnb (fun i => !inE (cur s) r ((wds (cur s) r).2.1 i)) (k + 1) : Nat) : Int) (by omega) dX4_different_52 ?_
                refine r_istore_n (lv' := [(0, .ref (ad (88))), (1, .int (iI ((usum (cur s) (fun r => (wds (cur s) r).1) r + cnb (fun i => !inE (cur s) r ((wds (cur s) r).2.1 i)) (k + 1) : Nat) : Int))), (2, .int (iI ((r : Nat) : Int))), (3, .int (iI ((k : Nat) : Int)))]) C dX4_different_53 rfl (by decide) rfl ?_
                refine r_iinc (lv' := [(0, .ref (ad (88))), (1, .int (iI ((usum (cur s) (fun r => (wds (cur s) r).1) r + cnb (fun i => !inE (cur s) r ((wds (cur s) r).2.1 i)) (k + 1) : Nat) : Int))), (2, .int (iI ((r : Nat) : Int))), (3, .int (iI ((k + 1 : Nat) : Int)))]) C ((k + 1 : Nat) : Int) (by omega) dX4_different_54 rfl (by decide) rfl ?_
                refine r_goto (tgt := 22) C dX4_different_57 (by decide) ?_
                exact ih42 (k + 1) (by omega) (by omega)
        exact hL40 _ 0 (by omega) (Nat.lt_succ_self _)
  exact hL3 _ 0 f (fun _ _ => rfl) hM (by omega) (Nat.lt_succ_self _)
set_option maxHeartbeats 4000000 in
set_option maxRecDepth 100000 in
/-- count -/
theorem c_X4_count (G : va_G) (tc : Nat → ClassId) (l : Launch) (ad : Nat → Nat) (N : Nat) (f : Nat → va_E) (s : SG) (hM : MI tc ad f s) (ho : okS s) (hN : 98 ≤ N) (w : Int) (hw : inR w)   : Ct G tc l yX4_count wsX4_count { frames := 4, cells := 0, slots := 0, locals := 94 } 0 0 [.ref (ad (88)), .int (iI (w))] ad N f (poI ad N (aCnt s w) (fun f' => MI tc ad f' s ∧ ∀ q, (q < 88 ∨ 98 ≤ q) → f' q = f q)) := by
  obtain ⟨⟨x1, x2, x3, x4, m88⟩, m89', ⟨bb, m90, hbb⟩, ⟨sb, m91, hsb⟩, ⟨ig, m92, hig⟩, m93, ⟨wc, wv, wo, wn, m94, m95, m96, m97⟩⟩ := id hM
  have m89 : f 89 = eI tc 655 (fun j => iI ((nwF ((cur s).1, (cur s).2.1, (cur s).2.2.1, (cur s).2.2.2) j : Nat) : Int)) := m89'
  obtain ⟨⟨⟨a1, a2⟩, ⟨a3, a4⟩, ⟨a5, a6⟩, a7, a8, a9, a10⟩, o2, o3, o4, o5, o6⟩ := id ho
  refine stI (cc := cX4_count) (maxL := 2) (lv := [(0, .ref (ad (88))), (1, .int (iI (w)))]) (by decide) rfl (Nat.le_of_ble_eq_true rfl) rfl (fun X C hret => ?_)
  have m0 : Cond.fieldLink RX4 7 "WordSamplesModel" "now" "[I" ∈ wsX4_count := by decide +kernel
  have m1 : ∀ w ∈ wsX40, w ∈ wsX4_count := by decide +kernel
  have m2 : Cond.fieldLink RX4 62 "WordSamplesModel" "padded" "I" ∈ wsX4_count := by decide +kernel
  have m3 : Cond.fieldLink RX4 47 "WordSamplesModel" "known" "I" ∈ wsX4_count := by decide +kernel
  refine r_iload_n C dX4_count_0 rfl rfl ?_
  by_cases s1 : (w) = 0
  · refine r_tin (tgt := 48) C ⟨by omega, by omega⟩ dX4_count_1 (by omega) (by omega) (by rw [s1]; rfl) (by decide) ?_
    refine r_aload_n C dX4_count_48 rfl rfl ?_
    refine r_get (v := .ref (ad (89))) C (by omega) m88 (show vwCl[4]? = some (RX4, TX4, 15) from rfl) m1 0 (by decide) m0 rfl rfl dX4_count_49 ?_
    refine r_iconst C ((4 : Nat) : Int) (by decide) dX4_count_52 ?_
    refine r_iald (x := (iI (((cur s).2.2.2 : Nat) : Int))) C (by omega) m89 (4) rfl (by omega) (Nat.le_of_ble_eq_true rfl) (rfl) dX4_count_53 ?_
    exact hret f (((cur s).2.2.2 : Nat) : Int) _ _ dX4_count_54 (by unfold aCnt; rw [if_pos (by omega)]) (⟨hM, fun _ _ => rfl⟩)
  by_cases s2 : (w) = 1
  · refine r_tin (tgt := 55) C ⟨by omega, by omega⟩ dX4_count_1 (by omega) (by omega) (by rw [s2]; rfl) (by decide) ?_
    refine r_aload_n C dX4_count_55 rfl rfl ?_
    refine r_get (v := .ref (ad (89))) C (by omega) m88 (show vwCl[4]? = some (RX4, TX4, 15) from rfl) m1 0 (by decide) m0 rfl rfl dX4_count_56 ?_
    refine r_iload_n C dX4_count_59 rfl rfl ?_
    refine r_iconst C ((1 : Nat) : Int) (by decide) dX4_count_60 ?_
    refine r_isub C (w - 1) (by omega) dX4_count_61 ?_
    refine r_iald (x := (iI (((cur s).1 ((w - 1).toNat) : Nat) : Int))) C (by omega) m89 ((w - 1).toNat) (by omega) (by omega) (Nat.le_of_ble_eq_true rfl) (congrArg (fun q : Nat => iI ((q : Nat) : Int)) (nwT (by omega))) dX4_count_62 ?_
    exact hret f (((cur s).1 ((w - 1).toNat) : Nat) : Int) _ _ dX4_count_63 (by unfold aCnt; rw [if_neg (by omega), if_pos (by omega)]) (⟨hM, fun _ _ => rfl⟩)
  by_cases s3 : (w) = 2
  · refine r_tin (tgt := 55) C ⟨by omega, by omega⟩ dX4_count_1 (by omega) (by omega) (by rw [s3]; rfl) (by decide) ?_
    refine r_aload_n C dX4_count_55 rfl rfl ?_
    refine r_get (v := .ref (ad (89))) C (by omega) m88 (show vwCl[4]? = some (RX4, TX4, 15) from rfl) m1 0 (by decide) m0 rfl rfl dX4_count_56 ?_
    refine r_iload_n C dX4_count_59 rfl rfl ?_
    refine r_iconst C ((1 : Nat) : Int) (by decide) dX4_count_60 ?_
    refine r_isub C (w - 1) (by omega) dX4_count_61 ?_
    refine r_iald (x := (iI (((cur s).1 ((w - 1).toNat) : Nat) : Int))) C (by omega) m89 ((w - 1).toNat) (by omega) (by omega) (Nat.le_of_ble_eq_true rfl) (congrArg (fun q : Nat => iI ((q : Nat) : Int)) (nwT (by omega))) dX4_count_62 ?_
    exact hret f (((cur s).1 ((w - 1).toNat) : Nat) : Int) _ _ dX4_count_63 (by unfold aCnt; rw [if_neg (by omega), if_pos (by omega)]) (⟨hM, fun _ _ => rfl⟩)
  by_cases s4 : (w) = 3
  · refine r_tin (tgt := 55) C ⟨by omega, by omega⟩ dX4_count_1 (by omega) (by omega) (by rw [s4]; rfl) (by decide) ?_
    refine r_aload_n C dX4_count_55 rfl rfl ?_
    refine r_get (v := .ref (ad (89))) C (by omega) m88 (show vwCl[4]? = some (RX4, TX4, 15) from rfl) m1 0 (by decide) m0 rfl rfl dX4_count_56 ?_
    refine r_iload_n C dX4_count_59 rfl rfl ?_
    refine r_iconst C ((1 : Nat) : Int) (by decide) dX4_count_60 ?_
    refine r_isub C (w - 1) (by omega) dX4_count_61 ?_
    refine r_iald (x := (iI (((cur s).1 ((w - 1).toNat) : Nat) : Int))) C (by omega) m89 ((w - 1).toNat) (by omega) (by omega) (Nat.le_of_ble_eq_true rfl) (congrArg (fun q : Nat => iI ((q : Nat) : Int)) (nwT (by omega))) dX4_count_62 ?_
    exact hret f (((cur s).1 ((w - 1).toNat) : Nat) : Int) _ _ dX4_count_63 (by unfold aCnt; rw [if_neg (by omega), if_pos (by omega)]) (⟨hM, fun _ _ => rfl⟩)
  by_cases s5 : (w) = 4
  · refine r_tin (tgt := 55) C ⟨by omega, by omega⟩ dX4_count_1 (by omega) (by omega) (by rw [s5]; rfl) (by decide) ?_
    refine r_aload_n C dX4_count_55 rfl rfl ?_
    refine r_get (v := .ref (ad (89))) C (by omega) m88 (show vwCl[4]? = some (RX4, TX4, 15) from rfl) m1 0 (by decide) m0 rfl rfl dX4_count_56 ?_
    refine r_iload_n C dX4_count_59 rfl rfl ?_
    refine r_iconst C ((1 : Nat) : Int) (by decide) dX4_count_60 ?_
    refine r_isub C (w - 1) (by omega) dX4_count_61 ?_
    refine r_iald (x := (iI (((cur s).1 ((w - 1).toNat) : Nat) : Int))) C (by omega) m89 ((w - 1).toNat) (by omega) (by omega) (Nat.le_of_ble_eq_true rfl) (congrArg (fun q : Nat => iI ((q : Nat) : Int)) (nwT (by omega))) dX4_count_62 ?_
    exact hret f (((cur s).1 ((w - 1).toNat) : Nat) : Int) _ _ dX4_count_63 (by unfold aCnt; rw [if_neg (by omega), if_pos (by omega)]) (⟨hM, fun _ _ => rfl⟩)
  by_cases s6 : (w) = 5
  · refine r_tin (tgt := 64) C ⟨by omega, by omega⟩ dX4_count_1 (by omega) (by omega) (by rw [s6]; rfl) (by decide) ?_
    refine r_aload_n C dX4_count_64 rfl rfl ?_
    refine r_callV (As := []) (rest := []) (na := 0) C (c_X4_different G tc l ad N _ s hM ho hN) gX4_count_X4_different rfl rfl rfl (by decide +kernel) ⟨Nat.le_of_ble_eq_true rfl, Nat.le_of_ble_eq_true rfl⟩ (by omega) m88 (show vwCl[4]? = some (RX4, TX4, 15) from rfl) rfl rfl (Nat.le_of_ble_eq_true rfl) dX4_count_65 ⟨Nat.le_of_ble_eq_true rfl, Nat.le_of_ble_eq_true rfl⟩ (aft_I (fun f9 hF10 => ?_))
    obtain ⟨hx7, ow8⟩ := hF10
    exact hret f9 ((dst (cur s) : Nat) : Int) _ _ dX4_count_68 (by unfold aCnt; rw [if_neg (by omega), if_neg (by omega), if_pos (by omega)]) (⟨hx7, fun q hq => (ow8 _ (by omega))⟩)
  by_cases s11 : (w) = 6
  · refine r_tin (tgt := 69) C ⟨by omega, by omega⟩ dX4_count_1 (by omega) (by omega) (by rw [s11]; rfl) (by decide) ?_
    refine r_aload_n C dX4_count_69 rfl rfl ?_
    refine r_get (v := .int (iI ((pln s : Nat) : Int))) C (by omega) m88 (show vwCl[4]? = some (RX4, TX4, 15) from rfl) m1 6 (by decide) m2 rfl rfl dX4_count_70 ?_
    exact hret f ((pln s : Nat) : Int) _ _ dX4_count_73 (by unfold aCnt; rw [if_neg (by omega), if_neg (by omega), if_neg (by omega), if_pos (by omega)]) (⟨hM, fun _ _ => rfl⟩)
  by_cases s12 : (w) = 7
  · refine r_tin (tgt := 74) C ⟨by omega, by omega⟩ dX4_count_1 (by omega) (by omega) (by rw [s12]; rfl) (by decide) ?_
    refine r_aload_n C dX4_count_74 rfl rfl ?_
    refine r_get (v := .int (iI ((kno s : Nat) : Int))) C (by omega) m88 (show vwCl[4]? = some (RX4, TX4, 15) from rfl) m1 2 (by decide) m3 rfl rfl dX4_count_75 ?_
    exact hret f ((kno s : Nat) : Int) _ _ dX4_count_78 (by unfold aCnt; rw [if_neg (by omega), if_neg (by omega), if_neg (by omega), if_neg (by omega), if_pos (by omega)]) (⟨hM, fun _ _ => rfl⟩)
  refine r_tout (tgt := 79) C ⟨by omega, by omega⟩ dX4_count_1 (by omega) (by decide) ?_
  refine r_bipush C ((-2)) (by decide) dX4_count_79 ?_
  exact hret f ((-2)) _ _ dX4_count_81 (by unfold aCnt; rw [if_neg (by omega), if_neg (by omega), if_neg (by omega), if_neg (by omega), if_neg (by omega)]) (⟨hM, fun _ _ => rfl⟩)
end ME1
