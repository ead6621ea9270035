/-! WHAT A STATE IS: the pure value, and how the class and the reference hold it -/
section STT
/-- settings, lengths, signs, rows -/
abbrev NS : Type := (Nat → Nat) × (Nat → Nat) × (Nat → Nat) × Nat
def okN (n : NS) : Prop := (1 ≤ n.1 0 ∧ n.1 0 ≤ 4) ∧ (1 ≤ n.1 1 ∧ n.1 1 ≤ 32) ∧ (1 ≤ n.1 2 ∧ n.1 2 ≤ 1000002) ∧ n.1 3 ≤ 1000002 ∧ n.2.2.2 ≤ 10 ∧ (∀ r, r < 10 → n.2.1 r ≤ 64) ∧ ∀ j, j < 640 → n.2.2.1 j ≤ 26
/-- the words of a row: how many; values, codes, how often -/
abbrev WW : Type := Nat × (Nat → Nat) × (Nat → Nat) × (Nat → Nat)
def cod (g : Nat → Nat) (st : Nat) : Nat → Nat
  | 0 => 0
  | k + 1 => cod g st k * 27 + g (st + k)
def vlu (F O c : Nat) : Nat := (c * F + O) % 1000003
def posn (v : Nat → Nat) (x : Nat) : Nat → Nat
  | 0 => 0
  | n + 1 => if posn v x n < n then posn v x n else if v n < x then n + 1 else n
def insF (a : Nat → Nat) (n k x : Nat) : Nat → Nat := fun j => if j < k then a j else if j = k then x else if j ≤ n then a (j - 1) else a j
def ins (w : WW) (x c : Nat) : WW :=
  if posn w.2.1 x w.1 < w.1 ∧ w.2.1 (posn w.2.1 x w.1) = x then (w.1, w.2.1, w.2.2.1, fun j => if j = posn w.2.1 x w.1 then w.2.2.2 j + 1 else w.2.2.2 j)
  else (w.1 + 1, insF w.2.1 w.1 (posn w.2.1 x w.1) x, insF w.2.2.1 w.1 (posn w.2.1 x w.1) c, insF w.2.2.2 w.1 (posn w.2.1 x w.1) 1)
def gth (n : NS) (r : Nat) : Nat → WW
  | 0 => (0, fun _ => 0, fun _ => 0, fun _ => 0)
  | p + 1 => ins (gth n r p) (vlu (n.1 2) (n.1 3) (cod n.2.2.1 (r * 64 + p) (n.1 0))) (cod n.2.2.1 (r * 64 + p) (n.1 0))
/-- the words of row r -/
def wds (n : NS) (r : Nat) : WW := gth n r (n.2.1 r + 1 - n.1 0)
/-- the whole: now, history, how many of it, slots, which are saved, pad, its length -/
abbrev SG : Type := NS × (Nat → NS) × Nat × (Nat → NS) × (Nat → Bool) × (Nat → Nat) × Nat
abbrev cur (s : SG) : NS := s.1
abbrev hst (s : SG) : Nat → NS := s.2.1
abbrev kno (s : SG) : Nat := s.2.2.1
abbrev slo (s : SG) : Nat → NS := s.2.2.2.1
abbrev sav (s : SG) : Nat → Bool := s.2.2.2.2.1
abbrev pad (s : SG) : Nat → Nat := s.2.2.2.2.2.1
abbrev pln (s : SG) : Nat := s.2.2.2.2.2.2
def okS (s : SG) : Prop := okN (cur s) ∧ kno s ≤ 6 ∧ (∀ k, k < kno s → okN (hst s k)) ∧ (∀ k, k < 2 → sav s k = true → okN (slo s k)) ∧ pln s ≤ 64 ∧ ∀ j, j < 64 → pad s j ≤ 126
/-! the class's cells: 0 the object; 1 now; 5 history, 6.. its States; 30 slots, 31.. its States; 39 saved; 40 pad; 41 words, 42.. its Words; 82 gathered; 83 pair; 87 heads -/
abbrev oX (ad : Nat → Nat) (kn pl : Nat) : va_E := eO 3 [.ref (ad (1)), .ref (ad (5)), .int (iI ((kn : Nat) : Int)), .ref (ad (30)), .ref (ad (39)), .ref (ad (40)), .int (iI ((pl : Nat) : Int)), .ref (ad (41)), .ref (ad (82)), .ref (ad (83)), .ref (ad (87))]
abbrev oS (ad : Nat → Nat) (i R : Nat) : va_E := eO 1 [.ref (ad (i + 1)), .ref (ad (i + 2)), .ref (ad (i + 3)), .int (iI ((R : Nat) : Int))]
abbrev oW (ad : Nat → Nat) (i n : Nat) : va_E := eO 2 [.ref (ad (i + 1)), .ref (ad (i + 2)), .ref (ad (i + 3)), .int (iI ((n : Nat) : Int))]
def isSt (tc : Nat → ClassId) (ad : Nat → Nat) (f : Nat → va_E) (i : Nat) (n : NS) : Prop :=
  f i = oS ad i n.2.2.2 ∧ f (i + 1) = eI tc 4 (fun j => iI ((n.1 j : Nat) : Int)) ∧ f (i + 2) = eI tc 10 (fun j => iI ((n.2.1 j : Nat) : Int)) ∧ f (i + 3) = eI tc 640 (fun j => iI ((n.2.2.1 j : Nat) : Int))
def iHis (tc : Nat → ClassId) (ad : Nat → Nat) (f : Nat → va_E) (kn : Nat) (h : Nat → NS) : Prop := ∃ (pi : Nat → Nat) (hs : Nat → NS),
  f 5 = eS tc 6 (fun k => some (ad (6 + 4 * pi k))) ∧ (∀ k, k < 6 → pi k < 6) ∧ (∀ j k, j < 6 → k < 6 → pi j = pi k → j = k) ∧ (∀ k, k < 6 → isSt tc ad f (6 + 4 * k) (hs k)) ∧ ∀ k, k < kn → hs (pi k) = h k
def iSlo (tc : Nat → ClassId) (ad : Nat → Nat) (f : Nat → va_E) (sl : Nat → NS) (sv : Nat → Bool) : Prop := ∃ ss : Nat → NS,
  f 30 = eS tc 2 (fun k => some (ad (31 + 4 * k))) ∧ (∀ k, k < 2 → isSt tc ad f (31 + 4 * k) (ss k)) ∧ (∃ g : Nat → Int32, f 39 = eB tc 2 g ∧ ∀ k, k < 2 → g k = iI (((if sv k = true then 1 else 0) : Nat) : Int)) ∧ ∀ k, k < 2 → sv k = true → ss k = sl k
def iPad (tc : Nat → ClassId) (f : Nat → va_E) (p : Nat → Nat) : Prop := f 40 = eI tc 64 (fun j => iI ((p j : Nat) : Int))
def isWd (tc : Nat → ClassId) (ad : Nat → Nat) (f : Nat → va_E) (i : Nat) (w : WW) : Prop := ∃ v c t : Nat → Int32,
  f i = oW ad i w.1 ∧ f (i + 1) = eI tc 64 v ∧ f (i + 2) = eI tc 64 c ∧ f (i + 3) = eI tc 64 t ∧ ∀ j, j < w.1 → v j = iI ((w.2.1 j : Nat) : Int) ∧ c j = iI ((w.2.2.1 j : Nat) : Int) ∧ t j = iI ((w.2.2.2 j : Nat) : Int)
def iWds (tc : Nat → ClassId) (ad : Nat → Nat) (f : Nat → va_E) (n : NS) : Prop := ∃ (gt : Nat → Int32) (wd : Nat → WW),
  f 41 = eW tc 10 (fun k => some (ad (42 + 4 * k))) ∧ f 82 = eB tc 10 gt ∧ (∀ k, k < 10 → isWd tc ad f (42 + 4 * k) (wd k)) ∧ ∀ k, k < 10 → gt k = iI ((0 : Nat) : Int) ∨ (gt k = iI ((1 : Nat) : Int) ∧ wd k = wds n k)
def iPr (tc : Nat → ClassId) (ad : Nat → Nat) (f : Nat → va_E) : Prop := ∃ (x1 x2 x3 x4 : Int32) (b1 b2 b3 : Nat → Int32),
  f 83 = eO 0 [.ref (ad (84)), .ref (ad (85)), .ref (ad (86)), .int (x1), .int (x2), .int (x3), .int (x4)] ∧ f 84 = eI tc 33 b1 ∧ f 85 = eI tc 33 b2 ∧ f 86 = eI tc 33 b3 ∧ b1 0 = iI ((0 : Nat) : Int) ∧ b2 0 = iI ((0 : Nat) : Int) ∧ b3 0 = iI ((0 : Nat) : Int)
def iHd (tc : Nat → ClassId) (f : Nat → va_E) : Prop := ∃ h : Nat → Int32, f 87 = eI tc 10 h
def XI (tc : Nat → ClassId) (ad : Nat → Nat) (f : Nat → va_E) (s : SG) : Prop :=
  f 0 = oX ad (kno s) (pln s) ∧ isSt tc ad f 1 (cur s) ∧ iHis tc ad f (kno s) (hst s) ∧ iSlo tc ad f (slo s) (sav s) ∧ iPad tc f (pad s) ∧ iWds tc ad f (cur s) ∧ iPr tc ad f ∧ iHd tc f
/-! the reference's cells: 88 the object; 89 now; 90 before; 91 stored; 92 isStored; 93 pad; 94 codes; 95 values; 96 often; 97 words -/
def nwF (n : NS) : Nat → Nat := fun j => if j < 4 then n.1 j else if j = 4 then n.2.2.2 else if j < 15 then n.2.1 (j - 5) else n.2.2.1 (j - 15)
abbrev oM (ad : Nat → Nat) (kn pl : Nat) (x1 x2 x3 x4 : Int32) : va_E := eO 4 [.ref (ad (89)), .ref (ad (90)), .int (iI ((kn : Nat) : Int)), .ref (ad (91)), .ref (ad (92)), .ref (ad (93)), .int (iI ((pl : Nat) : Int)), .ref (ad (94)), .ref (ad (95)), .ref (ad (96)), .ref (ad (97)), .int (x1), .int (x2), .int (x3), .int (x4)]
def mBf (tc : Nat → ClassId) (f : Nat → va_E) (kn : Nat) (h : Nat → NS) : Prop := ∃ b : Nat → Int32, f 90 = eI tc 3930 b ∧ ∀ k, k < kn → ∀ j, j < 655 → b (655 * k + j) = iI ((nwF (h k) j : Nat) : Int)
def mSt (tc : Nat → ClassId) (f : Nat → va_E) (sl : Nat → NS) (sv : Nat → Bool) : Prop := ∃ b : Nat → Int32, f 91 = eI tc 1310 b ∧ ∀ k, k < 2 → sv k = true → ∀ j, j < 655 → b (655 * k + j) = iI ((nwF (sl k) j : Nat) : Int)
def mSc (tc : Nat → ClassId) (f : Nat → va_E) : Prop := ∃ c v o w : Nat → Int32, f 94 = eI tc 128 c ∧ f 95 = eI tc 128 v ∧ f 96 = eI tc 128 o ∧ f 97 = eI tc 2 w
def MI (tc : Nat → ClassId) (ad : Nat → Nat) (f : Nat → va_E) (s : SG) : Prop :=
  (∃ x1 x2 x3 x4 : Int32, f 88 = oM ad (kno s) (pln s) x1 x2 x3 x4) ∧ f 89 = eI tc 655 (fun j => iI ((nwF (cur s) j : Nat) : Int)) ∧ mBf tc f (kno s) (hst s) ∧ mSt tc f (slo s) (sav s) ∧ (∃ g : Nat → Int32, f 92 = eB tc 2 g ∧ ∀ k, k < 2 → g k = iI (((if sav s k = true then 1 else 0) : Nat) : Int)) ∧ f 93 = eI tc 64 (fun j => iI ((pad s j : Nat) : Int)) ∧ mSc tc f
variable {tc : Nat → ClassId} {ad : Nat → Nat} {f f' : Nat → va_E}
theorem isSt.fr {i : Nat} {n : NS} (h : isSt tc ad f i n) (hq : ∀ q, i ≤ q → q < i + 4 → f' q = f q) : isSt tc ad f' i n :=
  ⟨(hq _ (by omega) (by omega)).trans h.1, (hq _ (by omega) (by omega)).trans h.2.1, (hq _ (by omega) (by omega)).trans h.2.2.1, (hq _ (by omega) (by omega)).trans h.2.2.2⟩
theorem isWd.fr {i : Nat} {w : WW} (h : isWd tc ad f i w) (hq : ∀ q, i ≤ q → q < i + 4 → f' q = f q) : isWd tc ad f' i w := by
  obtain ⟨v, c, t, h1, h2, h3, h4, h5⟩ := h
  exact ⟨v, c, t, (hq _ (by omega) (by omega)).trans h1, (hq _ (by omega) (by omega)).trans h2, (hq _ (by omega) (by omega)).trans h3, (hq _ (by omega) (by omega)).trans h4, h5⟩
theorem iHis.fr {kn : Nat} {h : Nat → NS} (hh : iHis tc ad f kn h) (hq : ∀ q, 5 ≤ q → q < 30 → f' q = f q) : iHis tc ad f' kn h := by
  obtain ⟨p, hs, h1, h2, h3, h4, h5⟩ := hh
  exact ⟨p, hs, (hq _ (by omega) (by omega)).trans h1, h2, h3, fun k hk => (h4 k hk).fr (fun q g1 g2 => hq q (by omega) (by omega)), h5⟩
theorem iSlo.fr {sl : Nat → NS} {sv : Nat → Bool} (h : iSlo tc ad f sl sv) (hq : ∀ q, 30 ≤ q → q < 40 → f' q = f q) : iSlo tc ad f' sl sv := by
  obtain ⟨ss, h1, h2, ⟨g, h3, h5⟩, h4⟩ := h
  exact ⟨ss, (hq _ (by omega) (by omega)).trans h1, fun k hk => (h2 k hk).fr (fun q g1 g2 => hq q (by omega) (by omega)), ⟨g, (hq _ (by omega) (by omega)).trans h3, h5⟩, h4⟩
theorem iPad.fr {p : Nat → Nat} (h : iPad tc f p) (hq : f' 40 = f 40) : iPad tc f' p := hq.trans h
theorem iWds.fr {n : NS} (h : iWds tc ad f n) (hq : ∀ q, 41 ≤ q → q < 83 → f' q = f q) : iWds tc ad f' n := by
  obtain ⟨gt, wd, h1, h2, h3, h4⟩ := h
  exact ⟨gt, wd, (hq _ (by omega) (by omega)).trans h1, (hq _ (by omega) (by omega)).trans h2, fun k hk => (h3 k hk).fr (fun q g1 g2 => hq q (by omega) (by omega)), h4⟩
theorem iPr.fr (h : iPr tc ad f) (hq : ∀ q, 83 ≤ q → q < 87 → f' q = f q) : iPr tc ad f' := by
  obtain ⟨x1, x2, x3, x4, b1, b2, b3, h1, h2, h3, h4, h5⟩ := h
  exact ⟨x1, x2, x3, x4, b1, b2, b3, (hq _ (by omega) (by omega)).trans h1, (hq _ (by omega) (by omega)).trans h2, (hq _ (by omega) (by omega)).trans h3, (hq _ (by omega) (by omega)).trans h4, h5⟩
theorem iHd.fr (h : iHd tc f) (hq : f' 87 = f 87) : iHd tc f' := by
  obtain ⟨x, h1⟩ := h
  exact ⟨x, hq.trans h1⟩
theorem XI.fr {s : SG} (h : XI tc ad f s) (hq : ∀ q, q < 88 → f' q = f q) : XI tc ad f' s :=
  ⟨(hq _ (by omega)).trans h.1, h.2.1.fr (fun q _ g => hq q (by omega)), h.2.2.1.fr (fun q _ g => hq q (by omega)), h.2.2.2.1.fr (fun q _ g => hq q (by omega)), h.2.2.2.2.1.fr (hq _ (by omega)), h.2.2.2.2.2.1.fr (fun q _ g => hq q (by omega)), h.2.2.2.2.2.2.1.fr (fun q _ g => hq q (by omega)), h.2.2.2.2.2.2.2.fr (hq _ (by omega))⟩
theorem mBf.fr {kn : Nat} {h : Nat → NS} (hh : mBf tc f kn h) (hq : f' 90 = f 90) : mBf tc f' kn h := by
  obtain ⟨b, h1, h2⟩ := hh
  exact ⟨b, hq.trans h1, h2⟩
theorem mSt.fr {sl : Nat → NS} {sv : Nat → Bool} (hh : mSt tc f sl sv) (hq : f' 91 = f 91) : mSt tc f' sl sv := by
  obtain ⟨b, h1, h2⟩ := hh
  exact ⟨b, hq.trans h1, h2⟩
theorem mSc.fr (h : mSc tc f) (hq : ∀ q, 94 ≤ q → q < 98 → f' q = f q) : mSc tc f' := by
  obtain ⟨c, v, o, w, h1, h2, h3, h4⟩ := h
  exact ⟨c, v, o, w, (hq _ (by omega) (by omega)).trans h1, (hq _ (by omega) (by omega)).trans h2, (hq _ (by omega) (by omega)).trans h3, (hq _ (by omega) (by omega)).trans h4⟩
theorem MI.fr {s : SG} (h : MI tc ad f s) (hq : ∀ q, 88 ≤ q → q < 98 → f' q = f q) : MI tc ad f' s := by
  obtain ⟨⟨x1, x2, x3, x4, h1⟩, h2, h3, h4, ⟨g, h5, h5'⟩, h6, h7⟩ := h
  exact ⟨⟨x1, x2, x3, x4, (hq _ (by omega) (by omega)).trans h1⟩, (hq _ (by omega) (by omega)).trans h2, h3.fr (hq _ (by omega) (by omega)), h4.fr (hq _ (by omega) (by omega)), ⟨g, (hq _ (by omega) (by omega)).trans h5, h5'⟩, (hq _ (by omega) (by omega)).trans h6, h7.fr (fun q g1 g2 => hq q (by omega) (by omega))⟩
theorem posn_le (v : Nat → Nat) (x : Nat) : ∀ n, posn v x n ≤ n
  | 0 => Nat.le_refl _
  | n + 1 => by
    have h := posn_le v x n
    unfold posn
    split
    · omega
    · split <;> omega
theorem posn_lt (v : Nat → Nat) (x : Nat) : ∀ n j, j < posn v x n → v j < x
  | 0, j, h => absurd h (Nat.not_lt_zero _)
  | n + 1, j, h => by
    have h0 := posn_le v x n
    unfold posn at h
    split at h
    · exact posn_lt v x n j h
    · rename_i h1
      split at h
      · rename_i h2
        rcases Nat.lt_or_ge j n with q | q
        · exact posn_lt v x n j (by omega)
        · have : j = n := by omega
          subst this
          exact h2
      · exact posn_lt v x n j (by omega)
theorem posn_ge (v : Nat → Nat) (x : Nat) : ∀ n, posn v x n < n → ¬ v (posn v x n) < x
  | 0, h => absurd h (Nat.not_lt_zero _)
  | n + 1, h => by
    have h0 := posn_le v x n
    unfold posn at h ⊢
    split at h
    · rename_i h1
      rw [if_pos h1]
      exact posn_ge v x n h1
    · rename_i h1
      rw [if_neg h1]
      split at h
      · omega
      · rename_i h2
        rw [if_neg h2]
        exact h2
theorem posn_eq {v : Nat → Nat} {x n k : Nat} (h1 : k ≤ n) (h2 : ∀ j, j < k → v j < x) (h3 : k < n → ¬ v k < x) : posn v x n = k := by
  have a := posn_le v x n
  rcases Nat.lt_trichotomy (posn v x n) k with h | h | h
  · exact absurd (h2 _ h) (posn_ge v x n (by omega))
  · exact h
  · exact absurd (posn_lt v x n k h) (h3 (by omega))
end STT
