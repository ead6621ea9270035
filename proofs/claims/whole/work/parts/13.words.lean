section WRD
/-! pure rows on words and on two rows side by side -/
theorem cod_lt {g : Nat → Nat} {st : Nat} : ∀ k, (∀ j, j < k → g (st + j) ≤ 26) → cod g st k < 27 ^ k
  | 0, _ => Nat.one_pos
  | k + 1, h => by
    have h1 := cod_lt k (fun j hj => h j (by omega))
    have h2 := h k (by omega)
    show cod g st k * 27 + g (st + k) < 27 ^ k * 27
    omega
theorem cod_le {g : Nat → Nat} {st k : Nat} (hk : k ≤ 4) (h : ∀ j, j < k → g (st + j) ≤ 26) : cod g st k ≤ 531440 := by
  have h1 := cod_lt k h
  have h2 : 27 ^ k ≤ 27 ^ 4 := Nat.pow_le_pow_right (by omega) hk
  have h3 : (27 : Nat) ^ 4 = 531441 := by decide
  omega
theorem vlu_lt (F O c : Nat) : vlu F O c < 1000003 := Nat.mod_lt _ (by decide)
theorem ins_le (w : WW) (x c : Nat) : (ins w x c).1 ≤ w.1 + 1 ∧ w.1 ≤ (ins w x c).1 := by
  unfold ins
  split <;> dsimp only <;> omega
theorem gth_le (n : NS) (r : Nat) : ∀ p, (gth n r p).1 ≤ p
  | 0 => Nat.le_refl _
  | p + 1 => by
    have h1 := gth_le n r p
    have h2 := (ins_le (gth n r p) (vlu (n.1 2) (n.1 3) (cod n.2.2.1 (r * 64 + p) (n.1 0))) (cod n.2.2.1 (r * 64 + p) (n.1 0))).1
    show (ins _ _ _).1 ≤ p + 1
    omega
theorem ins_lt {w : WW} {x c M : Nat} (hw : ∀ j, j < w.1 → w.2.1 j < M) (hx : x < M) : ∀ j, j < (ins w x c).1 → (ins w x c).2.1 j < M := by
  intro j hj
  have hp := posn_le w.2.1 x w.1
  unfold ins at hj ⊢
  split
  · rename_i h
    rw [if_pos h] at hj
    exact hw j hj
  · rename_i h
    rw [if_neg h] at hj
    dsimp only at hj ⊢
    unfold insF
    split
    · exact hw j (by omega)
    · split
      · exact hx
      · split
        · exact hw _ (by omega)
        · omega
theorem gth_lt (n : NS) (r : Nat) : ∀ p j, j < (gth n r p).1 → (gth n r p).2.1 j < 1000003
  | 0, j, h => absurd h (Nat.not_lt_zero _)
  | p + 1, j, h => ins_lt (gth_lt n r p) (vlu_lt _ _ _) j h
theorem wds_le {n : NS} (h : okN n) {r : Nat} (hr : r < 10) : (wds n r).1 ≤ 64 := by
  have h1 := gth_le n r (n.2.1 r + 1 - n.1 0)
  have h2 := h.1.1
  have h3 := h.2.2.2.2.2.1 r hr
  unfold wds
  omega
theorem wds_lt (n : NS) (r : Nat) : ∀ j, j < (wds n r).1 → (wds n r).2.1 j < 1000003 := gth_lt n r _
def vat (w : WW) (z : Int) : Int := if 0 ≤ z ∧ z < ((w.1 : Nat) : Int) then ((w.2.1 z.toNat : Nat) : Int) else 1000003
def vatN (w : WW) (i : Nat) : Nat := if i < w.1 then w.2.1 i else 1000003
theorem vat_N (w : WW) (i : Nat) : vat w ((i : Nat) : Int) = ((vatN w i : Nat) : Int) := by
  unfold vat vatN
  by_cases h : i < w.1
  · rw [if_pos (by omega), if_pos h]; rfl
  · rw [if_neg (by omega), if_neg h]; rfl
theorem vatN_le {w : WW} (hw : ∀ j, j < w.1 → w.2.1 j < 1000003) (i : Nat) : vatN w i ≤ 1000003 := by
  unfold vatN
  split
  · rename_i h
    exact Nat.le_of_lt (hw i h)
  · exact Nat.le_refl _
theorem vatN_end {w : WW} (hw : ∀ j, j < w.1 → w.2.1 j < 1000003) (i : Nat) : vatN w i = 1000003 ↔ w.1 ≤ i := by
  unfold vatN
  split
  · rename_i h
    have := hw i h
    omega
  · omega
theorem iI_long {a : Nat} (h : a ≤ 2147483647) : (iI ((a : Nat) : Int)).toInt64 = jI ((a : Nat) : Int) := by
  have h1 := Int32.toInt64_ofInt (n := ((a : Nat) : Int)) (show (-2147483648 : Int) ≤ _ by omega) (show ((a : Nat) : Int) ≤ (2147483647 : Int) by omega)
  exact h1
theorem jI_mul (a b : Nat) : jI ((a : Nat) : Int) * jI ((b : Nat) : Int) = jI ((a * b : Nat) : Int) := by
  rw [Int.natCast_mul]
  exact (Int64.ofInt_mul _ _).symm
theorem jI_add (a b : Nat) : jI ((a : Nat) : Int) + jI ((b : Nat) : Int) = jI ((a + b : Nat) : Int) := by
  rw [Int.natCast_add]
  exact (Int64.ofInt_add _ _).symm
theorem jI_sub (a b : Int) : jI a - jI b = jI (a - b) := (Int64.ofInt_sub a b).symm
theorem jI_rem {a b : Nat} (ha : a < 2 ^ 63) (hb0 : 0 < b) (hb : b < 2 ^ 63) : jI ((a : Nat) : Int) - jI ((a : Nat) : Int) / jI ((b : Nat) : Int) * jI ((b : Nat) : Int) = jI ((a % b : Nat) : Int) := by
  have h := Int64.ofInt_tdiv (a := ((a : Nat) : Int)) (b := ((b : Nat) : Int)) (show (-9223372036854775808 : Int) ≤ _ by omega) (show ((a : Nat) : Int) ≤ (9223372036854775807 : Int) by omega) (show (-9223372036854775808 : Int) ≤ _ by omega) (show ((b : Nat) : Int) ≤ (9223372036854775807 : Int) by omega)
  rw [Int.tdiv_eq_ediv_of_nonneg (by omega)] at h
  have h2 : jI ((a : Nat) : Int) / jI ((b : Nat) : Int) = jI ((a / b : Nat) : Int) := by
    rw [Int.natCast_ediv]
    exact h.symm
  rw [h2, jI_mul, jI_sub]
  congr 1
  have h3 := Nat.div_add_mod a b
  rw [Nat.mul_comm] at h3
  omega
theorem jI_int {a : Nat} (h : a ≤ 2147483647) : (jI ((a : Nat) : Int)).toInt32 = iI ((a : Nat) : Int) := by
  rw [← Int32.toInt_inj, iI_toInt ⟨by omega, by omega⟩, Int64.toInt_toInt32, jI_toInt ⟨by omega, by omega⟩]
  exact Int.bmod_eq_of_le (by omega) (by omega)
variable {tc : Nat → ClassId} {ad : Nat → Nat} {f f' : Nat → va_E} {w : WW} {i k x c : Nat} {wv wc wt : Nat → Int32}
theorem wd_hit (h0 : f' i = oW ad i w.1) (h1 : f' (i + 1) = eI tc 64 wv) (h2 : f' (i + 2) = eI tc 64 wc) (h3 : f' (i + 3) = eI tc 64 (upd wt k (iI ((w.2.2.2 k + 1 : Nat) : Int)))) (gw : ∀ j, j < w.1 → wv j = iI ((w.2.1 j : Nat) : Int) ∧ wc j = iI ((w.2.2.1 j : Nat) : Int) ∧ wt j = iI ((w.2.2.2 j : Nat) : Int)) (hp : posn w.2.1 x w.1 = k) (hk : k < w.1) (hx : w.2.1 k = x) : isWd tc ad f' i (ins w x c) := by
  have e : ins w x c = (w.1, w.2.1, w.2.2.1, fun j => if j = k then w.2.2.2 j + 1 else w.2.2.2 j) := by
    unfold ins
    rw [hp, if_pos ⟨hk, hx⟩]
  rw [e]
  refine ⟨wv, wc, _, h0, h1, h2, h3, fun j hj => ⟨(gw j hj).1, (gw j hj).2.1, ?_⟩⟩
  unfold upd
  dsimp only
  by_cases h : j = k
  · rw [if_pos h, if_pos h, h]
  · rw [if_neg h, if_neg h]
    exact (gw j hj).2.2
theorem ins_row {a : Nat → Int32} {b : Nat → Nat} {m y : Nat} (hk : k ≤ m) (h : ∀ j, j < m → a j = iI ((b j : Nat) : Int)) : ∀ j, j < m + 1 → upd (va_cpy a a k (k + 1) (m - k)) k (iI ((y : Nat) : Int)) j = iI ((insF b m k y j : Nat) : Int) := by
  intro j hj
  unfold upd va_cpy insF
  by_cases h1 : j = k
  · rw [if_pos h1, if_neg (by omega), if_pos h1]
  · rw [if_neg h1]
    by_cases h2 : j < k
    · rw [if_neg (by omega), if_pos h2]
      exact h j (by omega)
    · rw [if_pos (by omega), if_neg h2, if_neg h1, if_pos (by omega), h _ (by omega), show k + (j - (k + 1)) = j - 1 from by omega]
theorem wd_new (h0 : f' i = oW ad i (w.1 + 1)) (h1 : f' (i + 1) = eI tc 64 (upd (va_cpy wv wv k (k + 1) (w.1 - k)) k (iI ((x : Nat) : Int)))) (h2 : f' (i + 2) = eI tc 64 (upd (va_cpy wc wc k (k + 1) (w.1 - k)) k (iI ((c : Nat) : Int)))) (h3 : f' (i + 3) = eI tc 64 (upd (va_cpy wt wt k (k + 1) (w.1 - k)) k (iI ((1 : Nat) : Int)))) (gw : ∀ j, j < w.1 → wv j = iI ((w.2.1 j : Nat) : Int) ∧ wc j = iI ((w.2.2.1 j : Nat) : Int) ∧ wt j = iI ((w.2.2.2 j : Nat) : Int)) (hp : posn w.2.1 x w.1 = k) (hn : ¬ (k < w.1 ∧ w.2.1 k = x)) : isWd tc ad f' i (ins w x c) := by
  have hk : k ≤ w.1 := by rw [← hp]; exact posn_le _ _ _
  have e : ins w x c = (w.1 + 1, insF w.2.1 w.1 k x, insF w.2.2.1 w.1 k c, insF w.2.2.2 w.1 k 1) := by
    unfold ins
    rw [hp, if_neg hn]
  rw [e]
  exact ⟨_, _, _, h0, h1, h2, h3, fun j hj => ⟨ins_row hk (fun j hj => (gw j hj).1) j hj, ins_row hk (fun j hj => (gw j hj).2.1) j hj, ins_row hk (fun j hj => (gw j hj).2.2) j hj⟩⟩
theorem words_XI {s : SG} {r : Nat} {gt : Nat → Int32} (hX : XI tc ad f s) (hr : r < 10) (hw : isWd tc ad f' (42 + 4 * r) (wds (cur s) r)) (h82 : f' 82 = eB tc 10 (upd gt r (iI ((1 : Nat) : Int)))) (hg : f 82 = eB tc 10 gt) (hfr : ∀ q, (q < 42 + 4 * r ∨ 42 + 4 * r + 4 ≤ q) → q ≠ 82 → f' q = f q) : XI tc ad f' s := by
  obtain ⟨h0, hs, jH, jS, j40, ⟨gt2, wd, w1, w2, w3, w4⟩, jP, jD⟩ := hX
  have e : gt2 = gt := by
    have h := w2.symm.trans hg
    injection h with h
    injection h with _ h
    injection h with _ h
    injection h with h
  subst e
  refine ⟨(hfr _ (by omega) (by omega)).trans h0, hs.fr (fun q _ _ => hfr q (by omega) (by omega)), jH.fr (fun q _ _ => hfr q (by omega) (by omega)), jS.fr (fun q _ _ => hfr q (by omega) (by omega)), j40.fr (hfr _ (by omega) (by omega)), ?_, jP.fr (fun q _ _ => hfr q (by omega) (by omega)), jD.fr (hfr _ (by omega) (by omega))⟩
  refine ⟨_, fun k => if k = r then wds (cur s) r else wd k, (hfr _ (by omega) (by omega)).trans w1, h82, fun k hk => ?_, fun k hk => ?_⟩
  · dsimp only
    by_cases h : k = r
    · rw [if_pos h, h]
      exact hw
    · rw [if_neg h]
      exact (w3 k hk).fr (fun q g1 g2 => hfr q (by omega) (by omega))
  · unfold upd
    dsimp only
    by_cases h : k = r
    · rw [if_pos h, if_pos h, h]
      exact Or.inr ⟨rfl, rfl⟩
    · rw [if_neg h, if_neg h]
      exact w4 k hk
/-- two rows side by side: how far in each, how many in both, after so many steps -/
def mg (a b : WW) : Nat → Nat × Nat × Nat
  | 0 => (0, 0, 0)
  | k + 1 => if vatN a (mg a b k).1 = 1000003 ∧ vatN b (mg a b k).2.1 = 1000003 then mg a b k else
    ((mg a b k).1 + (if vatN a (mg a b k).1 ≤ vatN b (mg a b k).2.1 then 1 else 0), (mg a b k).2.1 + (if vatN b (mg a b k).2.1 ≤ vatN a (mg a b k).1 then 1 else 0), (mg a b k).2.2 + (if vatN a (mg a b k).1 = vatN b (mg a b k).2.1 then 1 else 0))
def bth (a b : WW) : Nat := (mg a b (a.1 + b.1)).2.2
def eit (a b : WW) : Nat := a.1 + b.1 - bth a b
theorem mg_in {a b : WW} (ha : ∀ j, j < a.1 → a.2.1 j < 1000003) (hb : ∀ j, j < b.1 → b.2.1 j < 1000003) : ∀ k, (mg a b k).1 ≤ a.1 ∧ (mg a b k).2.1 ≤ b.1 ∧ (mg a b k).2.2 ≤ (mg a b k).1 ∧ (mg a b k).2.2 ≤ (mg a b k).2.1 ∧ ((mg a b k).1 + (mg a b k).2.1 = k + (mg a b k).2.2 ∨ ((mg a b k).1 = a.1 ∧ (mg a b k).2.1 = b.1 ∧ a.1 + b.1 ≤ k + (mg a b k).2.2))
  | 0 => ⟨Nat.zero_le _, Nat.zero_le _, Nat.le_refl _, Nat.le_refl _, Or.inl rfl⟩
  | k + 1 => by
    have h := mg_in ha hb k
    have e1 := vatN_end ha (mg a b k).1
    have e2 := vatN_end hb (mg a b k).2.1
    have l1 := vatN_le ha (mg a b k).1
    have l2 := vatN_le hb (mg a b k).2.1
    unfold mg
    split
    · omega
    · dsimp only
      split <;> split <;> split <;> omega
theorem mg_end {a b : WW} (ha : ∀ j, j < a.1 → a.2.1 j < 1000003) (hb : ∀ j, j < b.1 → b.2.1 j < 1000003) {k : Nat} (h1 : (mg a b k).1 = a.1) (h2 : (mg a b k).2.1 = b.1) : ∀ d, mg a b (k + d) = mg a b k
  | 0 => rfl
  | d + 1 => by
    have h := mg_end ha hb h1 h2 d
    show mg a b (k + d + 1) = _
    rw [mg, h, if_pos ⟨(vatN_end ha _).mpr (by omega), (vatN_end hb _).mpr (by omega)⟩]
theorem mg_fin {a b : WW} (ha : ∀ j, j < a.1 → a.2.1 j < 1000003) (hb : ∀ j, j < b.1 → b.2.1 j < 1000003) {k : Nat} (h1 : a.1 ≤ (mg a b k).1) (h2 : b.1 ≤ (mg a b k).2.1) (h3 : (mg a b k).1 + (mg a b k).2.1 = k + (mg a b k).2.2) : (mg a b k).2.2 = bth a b ∧ k = eit a b := by
  have h := mg_in ha hb k
  have e : mg a b (a.1 + b.1) = mg a b k := by
    have := mg_end ha hb (k := k) (by omega) (by omega) (a.1 + b.1 - k)
    rw [show k + (a.1 + b.1 - k) = a.1 + b.1 from by omega] at this
    exact this
  have e2 : (mg a b k).2.2 = bth a b := by unfold bth; rw [e]
  exact ⟨e2, by unfold eit; omega⟩
end WRD
