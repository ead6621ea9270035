section PUR
/-! pure operations on the state -/
def upN (a : Nat → Nat) (i v : Nat) : Nat → Nat := fun j => if j = i then v else a j
theorem updN (a : Nat → Nat) (k v : Nat) : upd (fun j => iI ((a j : Nat) : Int)) k (iI ((v : Nat) : Int)) = fun j => iI ((upN a k v j : Nat) : Int) := by
  funext j
  unfold upd upN
  split <;> rfl
def frst (b : Nat → Bool) : Nat → Nat
  | 0 => 0
  | n + 1 => if frst b n < n then frst b n else if b n = true then n else n + 1
theorem frst_le (b : Nat → Bool) : ∀ n, frst b n ≤ n
  | 0 => Nat.le_refl _
  | n + 1 => by
    have h := frst_le b n
    unfold frst
    split
    · omega
    · split <;> omega
theorem frst_no (b : Nat → Bool) : ∀ n j, j < frst b n → b j = false
  | 0, j, h => absurd h (Nat.not_lt_zero _)
  | n + 1, j, h => by
    have h0 := frst_le b n
    unfold frst at h
    split at h
    · exact frst_no b n j h
    · rename_i h1
      split at h
      · exact frst_no b n j (by omega)
      · rename_i h2
        rcases Nat.lt_or_ge j n with q | q
        · exact frst_no b n j (by omega)
        · have : j = n := by omega
          subst this
          simpa using h2
theorem frst_yes (b : Nat → Bool) : ∀ n, frst b n < n → b (frst b n) = true
  | 0, h => absurd h (Nat.lt_irrefl _)
  | n + 1, h => by
    have h0 := frst_le b n
    unfold frst at h ⊢
    split at h
    · rename_i h1
      rw [if_pos h1]
      exact frst_yes b n h1
    · rename_i h1
      rw [if_neg h1]
      split at h
      · rename_i h2
        rw [if_pos h2]
        exact h2
      · omega
theorem frst_eq {b : Nat → Bool} {n k : Nat} (h1 : k ≤ n) (h2 : ∀ j, j < k → b j = false) (h3 : k < n → b k = true) : frst b n = k := by
  have a := frst_le b n
  rcases Nat.lt_trichotomy (frst b n) k with h | h | h
  · have := frst_yes b n (by omega)
    rw [h2 _ h] at this
    cases this
  · exact h
  · have := frst_no b n k h
    rw [h3 (by omega)] at this
    cases this
/-- a sign's number, for a character that is one -/
def okc (c : Nat) : Bool := decide (c = 46 ∨ (97 ≤ c ∧ c ≤ 122))
def sgn (c : Nat) : Nat := if c = 46 then 26 else c - 97
def sgnI (c : Int) : Int := if c = 46 then 26 else if 97 ≤ c ∧ c ≤ 122 then c - 97 else -6
theorem sgnI_ok {c : Nat} (h : okc c = true) : sgnI (c : Int) = ((sgn c : Nat) : Int) := by
  simp only [okc, decide_eq_true_eq] at h
  unfold sgnI sgn
  split
  · rw [if_pos (by omega)]; rfl
  · rw [if_pos (by omega), if_neg (by omega)]; omega
theorem sgnI_no {c : Nat} (h : okc c = false) : sgnI (c : Int) = -6 := by
  simp only [okc, decide_eq_false_iff_not] at h
  unfold sgnI
  rw [if_neg (by omega), if_neg (by omega)]
theorem sgn_le {c : Nat} (h : okc c = true) : sgn c ≤ 26 := by
  simp only [okc, decide_eq_true_eq] at h
  unfold sgn
  split <;> omega
def faN (p : Nat → Nat) (n : Nat) : Nat := frst (fun j => !okc (p j)) n
def fau (p : Nat → Nat) (n : Nat) : Int := if n = 0 then 0 else if faN p n < n then ((faN p n : Nat) : Int) else -6
theorem fau_ok {p : Nat → Nat} {n : Nat} (h : fau p n = -6) : 0 < n ∧ ∀ j, j < n → okc (p j) = true := by
  unfold fau at h
  split at h
  · omega
  · split at h
    · omega
    · refine ⟨by omega, fun j hj => ?_⟩
      have h0 := frst_le (fun j => !okc (p j)) n
      have h1 : faN p n = n := by unfold faN at *; omega
      have := frst_no (fun j => !okc (p j)) n j (by unfold faN at h1; omega)
      simpa using this
def powr (g : Nat → Nat) (st : Nat) (p : Nat → Nat) (k : Nat) : Nat → Nat := fun j => if st ≤ j ∧ j < st + k then sgn (p (j - st)) else g j
theorem powr_0 (g : Nat → Nat) (st : Nat) (p : Nat → Nat) : powr g st p 0 = g := by
  funext j
  unfold powr
  rw [if_neg (by omega)]
theorem powr_s (g : Nat → Nat) (st : Nat) (p : Nat → Nat) (k : Nat) : upN (powr g st p k) (st + k) (sgn (p k)) = powr g st p (k + 1) := by
  funext j
  unfold upN powr
  by_cases h : j = st + k
  · rw [if_pos h, if_pos (by omega), h, Nat.add_sub_cancel_left]
  · rw [if_neg h]
    by_cases h2 : st ≤ j ∧ j < st + k
    · rw [if_pos h2, if_pos (by omega)]
    · rw [if_neg h2, if_neg (by omega)]
/-- the pad goes behind a row -/
def pour (n : NS) (r : Nat) (p : Nat → Nat) (k : Nat) : NS := (n.1, upN n.2.1 r (n.2.1 r + k), powr n.2.2.1 (r * 64 + n.2.1 r) p k, n.2.2.2)
/-- one more state is known -/
def hpush (h : Nat → NS) (kn : Nat) (n : NS) : Nat → NS := if kn < 6 then (fun k => if k = kn then n else h k) else (fun k => if k = 5 then n else h (k + 1))
def kpush (kn : Nat) : Nat := if kn < 6 then kn + 1 else 6
def knowS (s : SG) : SG := (cur s, hpush (hst s) (kno s) (cur s), kpush (kno s), slo s, sav s, pad s, pln s)
def setC (s : SG) (n : NS) : SG := (n, s.2)
def setP (s : SG) (p : Nat → Nat) (k : Nat) : SG := (cur s, hst s, kno s, slo s, sav s, p, k)
variable {X : XT} {G : va_G} {tc : Nat → ClassId} {l : Launch} {cc : ByteArray} {own : String} {Ts : List Cond} {nL : Nat} {R : Room} {ad : Nat → Nat} {N : Nat} {f : Nat → va_E} {k n pc : Nat} {lv lv' : List (Nat × Value)} {st : List Value}
theorem r_cv1 {i len : Nat} {c : ClassId} {g : Nat → Int32} (hf : f i = .inl (c, len, .inl g)) (h : Nat → Int32) (he : ∀ j, j < len → g j = h j) (kk : ∀ f', f' i = .inl (c, len, .inl h) → (∀ q, q ≠ i → f' q = f q) → VV X ad N f' k n pc lv st) : VV X ad N f k n pc lv st := by
  refine r_conv (f' := va_up f i (.inl (c, len, .inl h))) (fun q _ => ?_) (kk _ (by simp [va_up]) (fun q hq => by simp [va_up, hq]))
  by_cases hq : q = i
  · subst hq
    exact Or.inr ⟨c, len, g, h, hf, by simp [va_up], he⟩
  · exact Or.inl (by simp [va_up, hq])
def rot (p : Nat → Nat) (c : Nat) : Nat → Nat := fun k => if k + 1 < c then p (k + 1) else p k
def rotF (p : Nat → Nat) : Nat → Nat := fun k => if k < 5 then p (k + 1) else if k = 5 then p 0 else p k
theorem rot_1 (p : Nat → Nat) : rot p 1 = p := by
  funext k
  unfold rot
  rw [if_neg (by omega)]
theorem rot_s (p : Nat → Nat) {c : Nat} (hc : 1 ≤ c) (ad : Nat → Nat) : va_up (fun k => some (ad (6 + 4 * rot p c k))) (c - 1) (some (ad (6 + 4 * rot p c c))) = fun k => some (ad (6 + 4 * rot p (c + 1) k)) := by
  funext k
  unfold va_up
  by_cases h : k = c - 1
  · rw [if_pos h]
    unfold rot
    rw [if_neg (by omega), if_pos (by omega), h, show c - 1 + 1 = c from by omega]
  · rw [if_neg h]
    unfold rot
    dsimp only
    by_cases h2 : k + 1 < c
    · rw [if_pos h2, if_pos (by omega)]
    · rw [if_neg h2, if_neg (by omega)]
theorem rot_e (p : Nat → Nat) (ad : Nat → Nat) : va_up (fun k => some (ad (6 + 4 * rot p 6 k))) 5 (some (ad (6 + 4 * p 0))) = fun k => some (ad (6 + 4 * rotF p k)) := by
  funext k
  unfold va_up rot rotF
  dsimp only
  by_cases h : k = 5
  · rw [if_pos h, if_neg (by omega), if_pos h]
  · rw [if_neg h]
    by_cases h2 : k < 5
    · rw [if_pos (by omega), if_pos h2]
    · rw [if_neg (by omega), if_neg h2, if_neg h]
theorem rotF_lt {p : Nat → Nat} (h : ∀ k, k < 6 → p k < 6) : ∀ k, k < 6 → rotF p k < 6 := by
  intro k hk
  unfold rotF
  split
  · exact h _ (by omega)
  · split
    · exact h _ (by omega)
    · exact h _ hk
theorem rotF_inj {p : Nat → Nat} (h : ∀ j k, j < 6 → k < 6 → p j = p k → j = k) : ∀ j k, j < 6 → k < 6 → rotF p j = rotF p k → j = k := by
  intro j k hj hk e
  unfold rotF at e
  by_cases h1 : j < 5 <;> by_cases h2 : k < 5
  · rw [if_pos h1, if_pos h2] at e
    have := h _ _ (by omega) (by omega) e
    omega
  · rw [if_pos h1, if_neg h2, if_pos (by omega)] at e
    have := h _ _ (by omega) (by omega) e
    omega
  · rw [if_neg h1, if_pos h2, if_pos (by omega)] at e
    have := h _ _ (by omega) (by omega) e
    omega
  · omega
/-- the world of the class when no words are gathered -/
def XJ (tc : Nat → ClassId) (ad : Nat → Nat) (f : Nat → va_E) (s : SG) : Prop :=
  f 0 = oX ad (kno s) (pln s) ∧ isSt tc ad f 1 (cur s) ∧ iHis tc ad f (kno s) (hst s) ∧ iSlo tc ad f (slo s) (sav s) ∧ iPad tc f (pad s) ∧ (∀ n, iWds tc ad f n) ∧ iPr tc ad f ∧ iHd tc f
theorem XJ.XI {s : SG} (h : XJ tc ad f s) : XI tc ad f s := ⟨h.1, h.2.1, h.2.2.1, h.2.2.2.1, h.2.2.2.2.1, h.2.2.2.2.2.1 _, h.2.2.2.2.2.2⟩
theorem his_upd {f f' : Nat → va_E} {kn : Nat} {h : Nat → NS} {n : NS} {pi : Nat → Nat} {hs : Nat → NS} (h5 : f' 5 = eS tc 6 (fun k => some (ad (6 + 4 * pi k)))) (hp : ∀ k, k < 6 → pi k < 6) (hj : ∀ j k, j < 6 → k < 6 → pi j = pi k → j = k) (hst : ∀ k, k < 6 → isSt tc ad f (6 + 4 * k) (hs k)) (hv : ∀ k, k < kn → hs (pi k) = h k) (hk : kn < 6) (hc : isSt tc ad f' (6 + 4 * pi kn) n) (hfr : ∀ q, 6 ≤ q → q < 30 → (q < 6 + 4 * pi kn ∨ 6 + 4 * pi kn + 4 ≤ q) → f' q = f q) : iHis tc ad f' (kn + 1) (fun k => if k = kn then n else h k) := by
  refine ⟨pi, fun k => if k = pi kn then n else hs k, h5, hp, hj, fun k hk6 => ?_, fun k hkk => ?_⟩
  · dsimp only
    by_cases e : k = pi kn
    · rw [if_pos e, e]
      exact hc
    · rw [if_neg e]
      exact (hst k hk6).fr (fun q g1 g2 => hfr q (by omega) (by omega) (by omega))
  · dsimp only
    by_cases e : k = kn
    · rw [if_pos (by rw [e]), if_pos e]
    · rw [if_neg (fun e2 => e (hj _ _ (by omega) hk e2)), if_neg e]
      exact hv k (by omega)
end PUR
