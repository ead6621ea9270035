section MA1
theorem nwL {n : NS} {r : Nat} (h : r < 10) : nwF n (5 + r) = n.2.1 r := by
  unfold nwF
  rw [if_neg (by omega), if_neg (by omega), if_pos (by omega), Nat.add_sub_cancel_left]
theorem nwG {n : NS} {q : Nat} : nwF n (15 + q) = n.2.2.1 q := by
  unfold nwF
  rw [if_neg (by omega), if_neg (by omega), if_neg (by omega), Nat.add_sub_cancel_left]
theorem nwT {n : NS} {k : Nat} (h : k < 4) : nwF n k = n.1 k := by
  unfold nwF
  rw [if_pos h]
theorem nwU {a b : Nat → Nat} {k v : Nat} (h : upN a k v = b) : upd (fun j => iI ((a j : Nat) : Int)) k (iI ((v : Nat) : Int)) = fun j => iI ((b j : Nat) : Int) := by rw [updN, h]
theorem nwUz {a b : Nat → Nat} {k : Nat} {v : Int} (hv : 0 ≤ v) (h : upN a k v.toNat = b) : upd (fun j => iI ((a j : Nat) : Int)) k (iI v) = fun j => iI ((b j : Nat) : Int) := by rw [updNz _ _ hv, h]
theorem nwU4 (n : NS) (v : Nat) : upN (nwF n) 4 v = nwF (n.1, n.2.1, n.2.2.1, v) := by
  funext j
  unfold upN nwF
  by_cases h : j = 4
  · rw [if_pos h, if_neg (by omega), if_pos h]
  · rw [if_neg h]
    dsimp only
    by_cases h2 : j < 4
    · rw [if_pos h2, if_pos h2]
    · rw [if_neg h2, if_neg h2, if_neg h, if_neg h]
theorem nwUT (n : NS) {k : Nat} (v : Nat) (hk : k < 4) : upN (nwF n) k v = nwF (upN n.1 k v, n.2.1, n.2.2.1, n.2.2.2) := by
  funext j
  unfold nwF
  dsimp only
  by_cases h2 : j < 4
  · rw [if_pos h2]
    unfold upN
    dsimp only
    rw [if_pos h2]
  · rw [if_neg h2]
    unfold upN
    dsimp only
    rw [if_neg (by omega), if_neg h2]
theorem nwUL (n : NS) {r : Nat} (v : Nat) (hr : r < 10) : upN (nwF n) (5 + r) v = nwF (n.1, upN n.2.1 r v, n.2.2.1, n.2.2.2) := by
  funext j
  unfold nwF upN
  dsimp only
  (repeat' split) <;> first | rfl | omega
theorem nwUG (n : NS) {k : Nat} (v : Nat) : upN (nwF n) (15 + k) v = nwF (n.1, n.2.1, upN n.2.2.1 k v, n.2.2.2) := by
  funext j
  unfold nwF upN
  dsimp only
  (repeat' split) <;> first | rfl | omega
def shB (b : Nat → Int32) (k : Nat) : Nat → Int32 := fun j => if j < k then b (655 + j) else b j
theorem shB_0 (b : Nat → Int32) : shB b 0 = b := by
  funext j
  unfold shB
  rw [if_neg (by omega)]
theorem shB_s (b : Nat → Int32) (k : Nat) : upd (shB b k) k (shB b k (655 + k)) = shB b (k + 1) := by
  funext j
  unfold upd shB
  by_cases h : j = k
  · rw [if_pos h, if_neg (by omega), if_pos (by omega), h]
  · rw [if_neg h]
    by_cases h2 : j < k
    · rw [if_pos h2, if_pos (by omega)]
    · rw [if_neg h2, if_neg (by omega)]
def bw (b : Nat → Int32) (n : NS) (kn m : Nat) : Nat → Int32 := fun j => if 655 * kn ≤ j ∧ j < 655 * kn + m then iI ((nwF n (j - 655 * kn) : Nat) : Int) else b j
theorem bw_0 (b : Nat → Int32) (n : NS) (kn : Nat) : bw b n kn 0 = b := by
  funext j
  unfold bw
  rw [if_neg (by omega)]
theorem bw_s (b : Nat → Int32) (n : NS) (kn m : Nat) : upd (bw b n kn m) (655 * kn + m) (iI ((nwF n m : Nat) : Int)) = bw b n kn (m + 1) := by
  funext j
  unfold upd bw
  by_cases h : j = 655 * kn + m
  · rw [if_pos h, if_pos (by omega), h, Nat.add_sub_cancel_left]
  · rw [if_neg h]
    by_cases h2 : 655 * kn ≤ j ∧ j < 655 * kn + m
    · rw [if_pos h2, if_pos (by omega)]
    · rw [if_neg h2, if_neg (by omega)]
theorem bw_in {b : Nat → Int32} {n : NS} {kn j : Nat} (hj : j < 655) : bw b n kn 655 (655 * kn + j) = iI ((nwF n j : Nat) : Int) := by
  unfold bw
  rw [if_pos (by omega), Nat.add_sub_cancel_left]
theorem bw_out {b : Nat → Int32} {n : NS} {kn k j : Nat} (hj : j < 655) (hk : ¬ k = kn) : bw b n kn 655 (655 * k + j) = b (655 * k + j) := by
  unfold bw
  rw [if_neg (by omega)]
def mixN (a b : Nat → Nat) (k : Nat) : Nat → Nat := fun j => if j < k then a j else b j
theorem mixN_0 (a b : Nat → Nat) : mixN a b 0 = b := by
  funext j
  unfold mixN
  rw [if_neg (by omega)]
theorem mixN_s (a b : Nat → Nat) (k : Nat) : upN (mixN a b k) k (a k) = mixN a b (k + 1) := by
  funext j
  unfold upN mixN
  by_cases h : j = k
  · rw [if_pos h, if_pos (by omega), h]
  · rw [if_neg h]
    by_cases h2 : j < k
    · rw [if_pos h2, if_pos (by omega)]
    · rw [if_neg h2, if_neg (by omega)]
theorem kpush_6 {kn : Nat} (h : kn = 6) : kpush kn = 6 := if_neg (by omega)
theorem kpush_s {kn : Nat} (h : kn < 6) : kpush kn = kn + 1 := if_pos h
theorem hpush_s {b : Nat → Int32} {kn : Nat} {h : Nat → NS} {n : NS} (hb : ∀ k, k < kn → ∀ j, j < 655 → b (655 * k + j) = iI ((nwF (h k) j : Nat) : Int)) (hk : kn < 6) : ∀ k, k < kpush kn → ∀ j, j < 655 → bw b n kn 655 (655 * k + j) = iI ((nwF (hpush h kn n k) j : Nat) : Int) := by
  intro k hk2 j hj
  rw [kpush_s hk] at hk2
  unfold hpush
  rw [if_pos hk]
  by_cases e : k = kn
  · rw [if_pos e, e, bw_in hj]
  · rw [if_neg e, bw_out hj e]
    exact hb k (by omega) j hj
theorem hpush_6 {b : Nat → Int32} {kn : Nat} {h : Nat → NS} {n : NS} (hb : ∀ k, k < kn → ∀ j, j < 655 → b (655 * k + j) = iI ((nwF (h k) j : Nat) : Int)) (hk : kn = 6) : ∀ k, k < kpush kn → ∀ j, j < 655 → bw (shB b 3275) n 5 655 (655 * k + j) = iI ((nwF (hpush h kn n k) j : Nat) : Int) := by
  intro k hk2 j hj
  rw [kpush_6 hk] at hk2
  unfold hpush
  rw [if_neg (by omega)]
  by_cases e : k = 5
  · rw [if_pos e, e, bw_in hj]
  · rw [if_neg e, bw_out hj e]
    unfold shB
    rw [if_pos (by omega), show 655 + (655 * k + j) = 655 * (k + 1) + j from by omega]
    exact hb (k + 1) (by omega) j hj
section
variable {tc : Nat → ClassId} {ad : Nat → Nat} {s : SG} {f f' : Nat → va_E}
theorem know_MI {b : Nat → Int32} (hM : MI tc ad f s) (h88 : ∃ x1 x2 x3 x4 : Int32, f' 88 = oM ad (kpush (kno s)) (pln s) x1 x2 x3 x4) (h90 : f' 90 = eI tc 3930 b) (hb : ∀ k, k < kpush (kno s) → ∀ j, j < 655 → b (655 * k + j) = iI ((nwF (hpush (hst s) (kno s) (cur s) k) j : Nat) : Int)) (hfr : ∀ q, 89 ≤ q → q ≠ 90 → f' q = f q) : MI tc ad f' (knowS s) := by
  obtain ⟨-, h2, h3, h4, ⟨g, h5, h5'⟩, h6, h7⟩ := hM
  exact ⟨h88, (hfr _ (by omega) (by omega)).trans h2, ⟨b, h90, hb⟩, h4.fr (hfr _ (by omega) (by omega)), ⟨g, (hfr _ (by omega) (by omega)).trans h5, h5'⟩, (hfr _ (by omega) (by omega)).trans h6, h7.fr (fun q _ _ => hfr q (by omega) (by omega))⟩
theorem M_now {n' : NS} {pl : Nat} {x1 x2 x3 x4 : Int32} (hM : MI tc ad f s) (h88 : f' 88 = oM ad (kno s) pl x1 x2 x3 x4) (h89 : f' 89 = eI tc 655 (fun j => iI ((nwF n' j : Nat) : Int))) (hfr : ∀ q, 90 ≤ q → q < 98 → f' q = f q) : MI tc ad f' (n', hst s, kno s, slo s, sav s, pad s, pl) := by
  obtain ⟨-, -, h3, h4, ⟨g, h5, h5'⟩, h6, h7⟩ := hM
  exact ⟨⟨x1, x2, x3, x4, h88⟩, h89, h3.fr (hfr _ (by omega) (by omega)), h4.fr (hfr _ (by omega) (by omega)), ⟨g, (hfr _ (by omega) (by omega)).trans h5, h5'⟩, (hfr _ (by omega) (by omega)).trans h6, h7.fr (fun q _ _ => hfr q (by omega) (by omega))⟩
theorem M_pad {p : Nat → Nat} {pl : Nat} {x1 x2 x3 x4 : Int32} (hM : MI tc ad f s) (h88 : f' 88 = oM ad (kno s) pl x1 x2 x3 x4) (h93 : f' 93 = eI tc 64 (fun j => iI ((p j : Nat) : Int))) (hfr : ∀ q, 89 ≤ q → q ≠ 93 → q < 98 → f' q = f q) : MI tc ad f' (setP s p pl) := by
  obtain ⟨-, h2, h3, h4, ⟨g, h5, h5'⟩, h6, h7⟩ := hM
  exact ⟨⟨x1, x2, x3, x4, h88⟩, (hfr _ (by omega) (by omega) (by omega)).trans h2, h3.fr (hfr _ (by omega) (by omega) (by omega)), h4.fr (hfr _ (by omega) (by omega) (by omega)), ⟨g, (hfr _ (by omega) (by omega) (by omega)).trans h5, h5'⟩, h93, h7.fr (fun q _ _ => hfr q (by omega) (by omega) (by omega))⟩
theorem M_undo {n : NS} {kn : Nat} {x1 x2 x3 x4 : Int32} (hM : MI tc ad f s) (hk : kn ≤ kno s) (h88 : f' 88 = oM ad kn (pln s) x1 x2 x3 x4) (h89 : f' 89 = eI tc 655 (fun j => iI ((nwF n j : Nat) : Int))) (hfr : ∀ q, 90 ≤ q → q < 98 → f' q = f q) : MI tc ad f' (n, hst s, kn, slo s, sav s, pad s, pln s) := by
  obtain ⟨-, -, ⟨b, h3, h3'⟩, h4, ⟨g, h5, h5'⟩, h6, h7⟩ := hM
  exact ⟨⟨x1, x2, x3, x4, h88⟩, h89, ⟨b, (hfr _ (by omega) (by omega)).trans h3, fun k hk2 => h3' k (by have h : k < kn := hk2; omega)⟩, h4.fr (hfr _ (by omega) (by omega)), ⟨g, (hfr _ (by omega) (by omega)).trans h5, h5'⟩, (hfr _ (by omega) (by omega)).trans h6, h7.fr (fun q _ _ => hfr q (by omega) (by omega))⟩
theorem M_save {r : Nat} {b : Nat → Int32} {g : Nat → Int32} (hM : MI tc ad f s) (h91 : f' 91 = eI tc 1310 (bw b (cur s) r 655)) (h92 : f' 92 = eB tc 2 (upd g r (iI ((1 : Nat) : Int)))) (hb : ∀ k, k < 2 → sav s k = true → ∀ j, j < 655 → b (655 * k + j) = iI ((nwF (slo s k) j : Nat) : Int)) (hg : ∀ k, k < 2 → g k = iI (((if sav s k = true then 1 else 0) : Nat) : Int)) (hfr : ∀ q, 88 ≤ q → q ≠ 91 → q ≠ 92 → f' q = f q) :
    MI tc ad f' (cur s, hst s, kno s, (fun k => if k = r then cur s else slo s k), (fun k => if k = r then true else sav s k), pad s, pln s) := by
  obtain ⟨⟨x1, x2, x3, x4, h1⟩, h2, h3, h4, -, h6, h7⟩ := hM
  refine ⟨⟨x1, x2, x3, x4, (hfr _ (by omega) (by omega) (by omega)).trans h1⟩, (hfr _ (by omega) (by omega) (by omega)).trans h2, h3.fr (hfr _ (by omega) (by omega) (by omega)), ⟨_, h91, fun k hk h j hj => ?_⟩, ⟨_, h92, fun k hk => ?_⟩, (hfr _ (by omega) (by omega) (by omega)).trans h6, h7.fr (fun q _ _ => hfr q (by omega) (by omega) (by omega))⟩
  · dsimp only [sav, slo] at h ⊢
    by_cases e : k = r
    · rw [if_pos e, e, bw_in hj]
    · rw [if_neg e, bw_out hj e]
      rw [if_neg e] at h
      exact hb k hk h j hj
  · unfold upd
    dsimp only [sav]
    by_cases e : k = r
    · simp [e]
    · simp [e]
      have := hg k hk
      simpa using this
end
theorem know_ok {s : SG} (h : okS s) : okS (knowS s) := by
  obtain ⟨h1, h2, h3, h4, h5, h6⟩ := h
  refine ⟨h1, ?_, fun k hk => ?_, h4, h5, h6⟩
  · show kpush (kno s) ≤ 6
    unfold kpush
    split <;> omega
  · have hk : k < kpush (kno s) := hk
    show okN (hpush (hst s) (kno s) (cur s) k)
    unfold hpush
    unfold kpush at hk
    split
    · rename_i e
      rw [if_pos e] at hk
      dsimp only
      split
      · exact h1
      · exact h3 k (by omega)
    · rename_i e
      rw [if_neg e] at hk
      dsimp only
      split
      · exact h1
      · exact h3 (k + 1) (by omega)
def shL (L : Nat → Nat) (a r : Nat) : Nat → Nat := fun j => if a ≤ j ∧ j < r then L (j + 1) else L j
theorem shL_0 (L : Nat → Nat) (a : Nat) : shL L a a = L := by
  funext j
  unfold shL
  rw [if_neg (by omega)]
theorem shL_s (L : Nat → Nat) {a r : Nat} (h : a ≤ r) : upN (shL L a r) r (L (r + 1)) = shL L a (r + 1) := by
  funext j
  unfold upN shL
  by_cases e : j = r
  · rw [if_pos e, if_pos (by omega), e]
  · rw [if_neg e]
    by_cases e2 : a ≤ j ∧ j < r
    · rw [if_pos e2, if_pos (by omega)]
    · rw [if_neg e2, if_neg (by omega)]
theorem shL_e (L : Nat → Nat) {a r R : Nat} (h : r + 1 = R) : shL L a r = outL L a R := by
  funext j
  unfold shL outL
  by_cases e2 : a ≤ j ∧ j < r
  · rw [if_pos e2, if_pos (by omega)]
  · rw [if_neg e2, if_neg (by omega)]
def shG (g : Nat → Nat) (a m : Nat) : Nat → Nat := fun j => if a ≤ j ∧ j < m then g (j + 64) else g j
theorem shG_0 (g : Nat → Nat) (a : Nat) : shG g a a = g := by
  funext j
  unfold shG
  rw [if_neg (by omega)]
theorem shG_s (g : Nat → Nat) {a m : Nat} (h : a ≤ m) : upN (shG g a m) m (g (m + 64)) = shG g a (m + 1) := by
  funext j
  unfold upN shG
  by_cases e : j = m
  · rw [if_pos e, if_pos (by omega), e]
  · rw [if_neg e]
    by_cases e2 : a ≤ j ∧ j < m
    · rw [if_pos e2, if_pos (by omega)]
    · rw [if_neg e2, if_neg (by omega)]
theorem shL_at {L : Nat → Nat} {a r : Nat} : shL L a r (r + 1) = L (r + 1) := by
  unfold shL
  rw [if_neg (by omega)]
theorem shG_at {g : Nat → Nat} {a m : Nat} : shG g a m (m + 64) = g (m + 64) := by
  unfold shG
  rw [if_neg (by omega)]
theorem shG_e (g : Nat → Nat) {a r R : Nat} (h : r + 1 = R) : shG g (a * 64) (r * 64) = outG g a R := by
  funext j
  unfold shG outG
  by_cases e2 : a * 64 ≤ j ∧ j < r * 64
  · rw [if_pos e2, if_pos (by omega)]
  · rw [if_neg e2, if_neg (by omega)]
theorem lcmp_b : ∀ {m : Nat}, m < 256 → lg_cmp (jI ((m : Nat) : Int)) (jI 0) = iI (if ((m : Nat) : Int) = 0 then 0 else 1) := by
  have h : ∀ m : Nat, m < 256 → lg_cmp (jI ((m : Nat) : Int)) (jI 0) = iI (if ((m : Nat) : Int) = 0 then 0 else 1) := by decide +kernel
  exact fun {m} hm => h m hm
theorem b255 : ∀ i, i < 64 → (255#64).getLsbD i = decide (i < 8) := by decide +kernel
theorem smd : ∀ p, p < 8 → ((Int64.ofNat (8 * p)).toBitVec.smod 64) = BitVec.ofNat 64 (8 * p) := by decide +kernel
theorem byt_s (x : Int64) {p : Nat} (hp : p < 8) : (x >>> ((iI ((8 * p : Nat) : Int)).toInt64 &&& 63)) &&& jI 255 = jI ((byt x p : Nat) : Int) := by
  rw [sh_s p hp]
  apply Int64.toBitVec.inj
  show (x.toBitVec.sshiftRight (((Int64.ofNat (8 * p)).toBitVec.smod 64).toNat)) &&& (jI 255).toBitVec = BitVec.ofInt 64 ((byt x p : Nat) : Int)
  rw [jI_255, smd p hp, BitVec.ofInt_natCast]
  apply BitVec.eq_of_getLsbD_eq
  intro i hi
  rw [BitVec.getLsbD_and, b255 i hi, BitVec.getLsbD_sshiftRight, BitVec.getLsbD_ofNat, BitVec.toNat_ofNat, show 8 * p % 2 ^ 64 = 8 * p from by omega]
  unfold byt
  rw [show (256 : Nat) = 2 ^ 8 from rfl, Nat.testBit_mod_two_pow, Nat.testBit_div_two_pow]
  by_cases h : i < 8
  · have h1 : ¬ 64 ≤ i := by omega
    have h2 : 8 * p + i < 64 := by omega
    rw [decide_eq_false h1, if_pos h2]
    simp [h, hi, BitVec.getLsbD, Nat.add_comm]
  · simp [h]
abbrev PC (x : Int64) (n k : Nat) : Prop := (k < n → 33 ≤ byt x k ∧ byt x k ≤ 126) ∧ (¬ k < n → byt x k = 0)
def PS (x : Int64) (n k b : Nat) : Prop := (b = 1 ∧ 0 < n ∧ ∀ j, j < k → PC x n j) ∨ (b = 0 ∧ (n = 0 ∨ ∃ j, j < k ∧ ¬ PC x n j))
theorem ps_le {x : Int64} {n k b : Nat} (h : PS x n k b) : b ≤ 1 := by
  rcases h with ⟨h, _⟩ | ⟨h, _⟩ <;> omega
theorem ps_1 {x : Int64} {n k b : Nat} (h : PS x n k b) (hb : ¬ ((b : Nat) : Int) = 0) (hc : PC x n k) : PS x n (k + 1) 1 := by
  rcases h with ⟨_, h2, h3⟩ | ⟨h1, _⟩
  · refine Or.inl ⟨rfl, h2, fun j hj => ?_⟩
    rcases Nat.lt_or_ge j k with q | q
    · exact h3 j q
    · have e : j = k := by omega
      rw [e]
      exact hc
  · omega
theorem ps_0 {x : Int64} {n k b : Nat} (h : PS x n k b) (hb : ((b : Nat) : Int) = 0 ∨ ¬ PC x n k) : PS x n (k + 1) 0 := by
  rcases hb with hb | hb
  · rcases h with ⟨h1, _, _⟩ | ⟨_, h1⟩
    · omega
    · refine Or.inr ⟨rfl, ?_⟩
      rcases h1 with h1 | ⟨j, h1, h2⟩
      · exact Or.inl h1
      · exact Or.inr ⟨j, by omega, h2⟩
  · exact Or.inr ⟨rfl, Or.inr ⟨k, by omega, hb⟩⟩
theorem ps_end {x : Int64} {n k b : Nat} (hg : gap x = n) (hk : k = 8) (h : PS x n k b) : (b = 1 ∧ nch x = n ∧ 0 < n ∧ n ≤ 8) ∨ (b = 0 ∧ nch x = 0) := by
  have hle : n ≤ 8 := by rw [← hg]; exact frst_le _ _
  subst hk
  rcases h with ⟨h1, h2, h3⟩ | ⟨h1, h2⟩
  · refine Or.inl ⟨h1, ?_, h2, hle⟩
    unfold nch
    rw [if_pos (fun j hj => by rw [hg]; exact h3 j hj), hg]
  · refine Or.inr ⟨h1, ?_⟩
    unfold nch
    split
    · rename_i h
      rcases h2 with h2 | ⟨j, h2, h3⟩
      · omega
      · exact absurd (by have := h j h2; rw [hg] at this; exact this) h3
    · rfl
set_option maxHeartbeats 4000000 in
set_option maxRecDepth 100000 in
/-- in(v, a, b) -/
theorem c_X4_in (G : va_G) (tc : Nat → ClassId) (l : Launch) (ad : Nat → Nat) (N : Nat) (f : Nat → va_E) (v a b : Int) (hv : inR v) (ha : inR a) (hb : inR b)   : Ct G tc l yX4_in wsX4_in { frames := 0, cells := 0, slots := 0, locals := 0 } 0 0 [.int (iI (v)), .int (iI (a)), .int (iI (b))] ad N f (poI ad N (if a ≤ v ∧ v ≤ b then 1 else 0) (fun f' => f' = f)) := by
  refine stZ (by omega) (cc := cX4_in) (maxL := 3) (lv := [(0, .int (iI (v))), (1, .int (iI (a))), (2, .int (iI (b)))]) (by decide) rfl (Nat.le_of_ble_eq_true rfl) rfl (fun X C hret => ?_)
  refine r_iload_n C dX4_in_0 rfl rfl ?_
  refine r_iload_n C dX4_in_1 rfl rfl ?_
  refine r_icmp_lt (tgt := 14) C ⟨by omega, by omega⟩ ⟨by omega, by omega⟩ dX4_in_2 (by decide) (fun b1 => ?_) (fun b1 => ?_)
  · refine r_iconst C ((0 : Nat) : Int) (by decide) dX4_in_14 ?_
    exact hret f ((0 : Nat) : Int) _ _ dX4_in_15 (by omega) rfl
  · refine r_iload_n C dX4_in_5 rfl rfl ?_
    refine r_iload_n C dX4_in_6 rfl rfl ?_
    refine r_icmp_gt (tgt := 14) C ⟨by omega, by omega⟩ ⟨by omega, by omega⟩ dX4_in_7 (by decide) (fun b2 => ?_) (fun b2 => ?_)
    · refine r_iconst C ((0 : Nat) : Int) (by decide) dX4_in_14 ?_
      exact hret f ((0 : Nat) : Int) _ _ dX4_in_15 (by omega) rfl
    · refine r_iconst C ((1 : Nat) : Int) (by decide) dX4_in_10 ?_
      refine r_goto (tgt := 15) C dX4_in_11 (by decide) ?_
      exact hret f ((1 : Nat) : Int) _ _ dX4_in_15 (by omega) rfl
set_option maxHeartbeats 4000000 in
set_option maxRecDepth 100000 in
/-- isRow(z) -/
theorem c_X4_isRow (G : va_G) (tc : Nat → ClassId) (l : Launch) (ad : Nat → Nat) (N : Nat) (f : Nat → va_E) (s : SG) (hM : MI tc ad f s) (ho : okS s) (hN : 98 ≤ N) (z : Int) (hz : inR z)   : Ct G tc l yX4_isRow wsX4_isRow { frames := 1, cells := 0, slots := 0, locals := 22 } 0 0 [.ref (ad (88)), .int (iI (z))] ad N f (poI ad N (if 0 ≤ z ∧ z < (((cur s).2.2.2 : Nat) : Int) then 1 else 0) (fun f' => f' = f)) := by
  obtain ⟨⟨x1, x2, x3, x4, m88⟩, m89', ⟨bb, m90, hbb⟩, ⟨sb, m91, hsb⟩, ⟨ig, m92, hig⟩, m93, ⟨wc, wv, wo, wn, m94, m95, m96, m97⟩⟩ := id hM
  have m89 : f 89 = eI tc 655 (fun j => iI ((nwF ((cur s).1, (cur s).2.1, (cur s).2.2.1, (cur s).2.2.2) j : Nat) : Int)) := m89'
  obtain ⟨⟨⟨a1, a2⟩, ⟨a3, a4⟩, ⟨a5, a6⟩, a7, a8, a9, a10⟩, o2, o3, o4, o5, o6⟩ := id ho
  refine stZ (by omega) (cc := cX4_isRow) (maxL := 2) (lv := [(0, .ref (ad (88))), (1, .int (iI (z)))]) (by decide) rfl (Nat.le_of_ble_eq_true rfl) rfl (fun X C hret => ?_)
  have m0 : Cond.fieldLink RX4 7 "WordSamplesModel" "now" "[I" ∈ wsX4_isRow := by decide +kernel
  have m1 : ∀ w ∈ wsX40, w ∈ wsX4_isRow := by decide +kernel
  refine r_iload_n C dX4_isRow_0 rfl rfl ?_
  refine r_iconst C ((0 : Nat) : Int) (by decide) dX4_isRow_1 ?_
  refine r_aload_n C dX4_isRow_2 rfl rfl ?_
  refine r_get (v := .ref (ad (89))) C (by omega) m88 (show vwCl[4]? = some (RX4, TX4, 15) from rfl) m1 0 (by decide) m0 rfl rfl dX4_isRow_3 ?_
  refine r_iconst C ((4 : Nat) : Int) (by decide) dX4_isRow_6 ?_
  refine r_iald (x := (iI (((cur s).2.2.2 : Nat) : Int))) C (by omega) m89 (4) rfl (by omega) (Nat.le_of_ble_eq_true rfl) (rfl) dX4_isRow_7 ?_
  refine r_iconst C ((1 : Nat) : Int) (by decide) dX4_isRow_8 ?_
  refine r_isub C ((((cur s).2.2.2 : Nat) : Int) - ((1 : Nat) : Int)) rfl dX4_isRow_9 ?_
  refine r_callS (As := [.int (iI (z)), .int (iI ((0 : Nat) : Int)), .int (iI ((((cur s).2.2.2 : Nat) : Int) - ((1 : Nat) : Int)))]) (rest := []) (na := 3) C (c_X4_in G tc l ad N _ (z) ((0 : Nat) : Int) ((((cur s).2.2.2 : Nat) : Int) - ((1 : Nat) : Int)) ⟨by omega, by omega⟩ ⟨by omega, by omega⟩ ⟨by omega, by omega⟩) gX4_isRow_X4_in rfl rfl rfl (by decide +kernel) ⟨Nat.le_of_ble_eq_true rfl, Nat.le_of_ble_eq_true rfl⟩ rfl rfl (Nat.le_of_ble_eq_true rfl) dX4_isRow_10 ⟨Nat.le_of_ble_eq_true rfl, Nat.le_of_ble_eq_true rfl⟩ (aft_I (fun f1 hF2 => ?_))
  rw [hF2]
  exact hret f (if ((0 : Nat) : Int) ≤ (z) ∧ (z) ≤ ((((cur s).2.2.2 : Nat) : Int) - ((1 : Nat) : Int)) then 1 else 0) _ _ dX4_isRow_13 (by omega) rfl
set_option maxHeartbeats 4000000 in
set_option maxRecDepth 100000 in
/-- isPlace(z, p) -/
theorem c_X4_isPlace (G : va_G) (tc : Nat → ClassId) (l : Launch) (ad : Nat → Nat) (N : Nat) (f : Nat → va_E) (s : SG) (hM : MI tc ad f s) (ho : okS s) (hN : 98 ≤ N) (z p : Int) (hz : inR z) (hp : inR p)   : Ct G tc l yX4_isPlace wsX4_isPlace { frames := 2, cells := 0, slots := 0, locals := 43 } 0 0 [.ref (ad (88)), .int (iI (z)), .int (iI (p))] ad N f (poI ad N (if 0 ≤ z ∧ z < (((cur s).2.2.2 : Nat) : Int) ∧ 0 ≤ p ∧ p < (((cur s).2.1 z.toNat : Nat) : Int) then 1 else 0) (fun f' => f' = f)) := by
  obtain ⟨⟨x1, x2, x3, x4, m88⟩, m89', ⟨bb, m90, hbb⟩, ⟨sb, m91, hsb⟩, ⟨ig, m92, hig⟩, m93, ⟨wc, wv, wo, wn, m94, m95, m96, m97⟩⟩ := id hM
  have m89 : f 89 = eI tc 655 (fun j => iI ((nwF ((cur s).1, (cur s).2.1, (cur s).2.2.1, (cur s).2.2.2) j : Nat) : Int)) := m89'
  obtain ⟨⟨⟨a1, a2⟩, ⟨a3, a4⟩, ⟨a5, a6⟩, a7, a8, a9, a10⟩, o2, o3, o4, o5, o6⟩ := id ho
  refine stZ (by omega) (cc := cX4_isPlace) (maxL := 3) (lv := [(0, .ref (ad (88))), (1, .int (iI (z))), (2, .int (iI (p)))]) (by decide) rfl (Nat.le_of_ble_eq_true rfl) rfl (fun X C hret => ?_)
  have m0 : Cond.fieldLink RX4 7 "WordSamplesModel" "now" "[I" ∈ wsX4_isPlace := by decide +kernel
  have m1 : ∀ w ∈ wsX40, w ∈ wsX4_isPlace := by decide +kernel
  refine r_aload_n C dX4_isPlace_0 rfl rfl ?_
  refine r_iload_n C dX4_isPlace_1 rfl rfl ?_
  refine r_callV (As := [.int (iI (z))]) (rest := []) (na := 1) C (c_X4_isRow G tc l ad N _ s hM ho hN z hz) gX4_isPlace_X4_isRow rfl rfl rfl (by decide +kernel) ⟨Nat.le_of_ble_eq_true rfl, Nat.le_of_ble_eq_true rfl⟩ (by omega) m88 (show vwCl[4]? = some (RX4, TX4, 15) from rfl) rfl rfl (Nat.le_of_ble_eq_true rfl) dX4_isPlace_2 ⟨Nat.le_of_ble_eq_true rfl, Nat.le_of_ble_eq_true rfl⟩ (aft_I (fun f1 hF2 => ?_))
  rw [hF2]
  refine r_if_eq (tgt := 30) C ⟨by omega, by omega⟩ dX4_isPlace_5 (by decide) (fun b3 => ?_) (fun b3 => ?_)
  · refine r_iconst C ((0 : Nat) : Int) (by decide) dX4_isPlace_30 ?_
    exact hret f ((0 : Nat) : Int) _ _ dX4_isPlace_31 (by omega) rfl
  · have q9 := a9 z.toNat (by omega)
    refine r_iload_n C dX4_isPlace_8 rfl rfl ?_
    refine r_iconst C ((0 : Nat) : Int) (by decide) dX4_isPlace_9 ?_
    refine r_aload_n C dX4_isPlace_10 rfl rfl ?_
    refine r_get (v := .ref (ad (89))) C (by omega) m88 (show vwCl[4]? = some (RX4, TX4, 15) from rfl) m1 0 (by decide) m0 rfl rfl dX4_isPlace_11 ?_
    refine r_iconst C ((5 : Nat) : Int) (by decide) dX4_isPlace_14 ?_
    refine r_iload_n C dX4_isPlace_15 rfl rfl ?_
    rw [show (.int (iI (z)) : Value) = .int (iI ((z.toNat : Nat) : Int)) from by rw [Int.toNat_of_nonneg (by omega)]]
    refine r_iadd C ((5 + z.toNat : Nat) : Int) (by omega) dX4_isPlace_16 ?_
    refine r_iald (x := (iI (((cur s).2.1 z.toNat : Nat) : Int))) C (by omega) m89 (5 + z.toNat) rfl (by omega) (Nat.le_of_ble_eq_true rfl) (congrArg (fun q : Nat => iI ((q : Nat) : Int)) (nwL (by omega))) dX4_isPlace_17 ?_
    refine r_iconst C ((1 : Nat) : Int) (by decide) dX4_isPlace_18 ?_
    refine r_isub C ((((cur s).2.1 z.toNat : Nat) : Int) - ((1 : Nat) : Int)) rfl dX4_isPlace_19 ?_
    refine r_callS (As := [.int (iI (p)), .int (iI ((0 : Nat) : Int)), .int (iI ((((cur s).2.1 z.toNat : Nat) : Int) - ((1 : Nat) : Int)))]) (rest := []) (na := 3) C (c_X4_in G tc l ad N _ (p) ((0 : Nat) : Int) ((((cur s).2.1 z.toNat : Nat) : Int) - ((1 : Nat) : Int)) ⟨by omega, by omega⟩ ⟨by omega, by omega⟩ ⟨by omega, by omega⟩) gX4_isPlace_X4_in rfl rfl rfl (by decide +kernel) ⟨Nat.le_of_ble_eq_true rfl, Nat.le_of_ble_eq_true rfl⟩ rfl rfl (Nat.le_of_ble_eq_true rfl) dX4_isPlace_20 ⟨Nat.le_of_ble_eq_true rfl, Nat.le_of_ble_eq_true rfl⟩ (aft_I (fun f4 hF5 => ?_))
    rw [hF5]
    refine r_if_eq (tgt := 30) C ⟨by omega, by omega⟩ dX4_isPlace_23 (by decide) (fun b6 => ?_) (fun b6 => ?_)
    · refine r_iconst C ((0 : Nat) : Int) (by decide) dX4_isPlace_30 ?_
      exact hret f ((0 : Nat) : Int) _ _ dX4_isPlace_31 (by omega) rfl
    · refine r_iconst C ((1 : Nat) : Int) (by decide) dX4_isPlace_26 ?_
      refine r_goto (tgt := 31) C dX4_isPlace_27 (by decide) ?_
      exact hret f ((1 : Nat) : Int) _ _ dX4_isPlace_31 (by omega) rfl
set_option maxHeartbeats 4000000 in
set_option maxRecDepth 100000 in
/-- at(r, p) -/
theorem c_X4_at (G : va_G) (tc : Nat → ClassId) (l : Launch) (ad : Nat → Nat) (N : Nat) (f : Nat → va_E) (s : SG) (hM : MI tc ad f s) (ho : okS s) (hN : 98 ≤ N) (r p : Nat) (hr : r < 10) (hp : p < 64)   : Ct G tc l yX4_at wsX4_at { frames := 0, cells := 0, slots := 0, locals := 0 } 0 0 [.ref (ad (88)), .int (iI ((r : Nat) : Int)), .int (iI ((p : Nat) : Int))] ad N f (poI ad N ((((cur s).2.2.1 (r * 64 + p) : Nat) : Int)) (fun f' => f' = f)) := by
  obtain ⟨⟨x1, x2, x3, x4, m88⟩, m89', ⟨bb, m90, hbb⟩, ⟨sb, m91, hsb⟩, ⟨ig, m92, hig⟩, m93, ⟨wc, wv, wo, wn, m94, m95, m96, m97⟩⟩ := id hM
  have m89 : f 89 = eI tc 655 (fun j => iI ((nwF ((cur s).1, (cur s).2.1, (cur s).2.2.1, (cur s).2.2.2) j : Nat) : Int)) := m89'
  obtain ⟨⟨⟨a1, a2⟩, ⟨a3, a4⟩, ⟨a5, a6⟩, a7, a8, a9, a10⟩, o2, o3, o4, o5, o6⟩ := id ho
  refine stI (cc := cX4_at) (maxL := 3) (lv := [(0, .ref (ad (88))), (1, .int (iI ((r : Nat) : Int))), (2, .int (iI ((p : Nat) : Int)))]) (by decide) rfl (Nat.le_of_ble_eq_true rfl) rfl (fun X C hret => ?_)
  have m0 : Cond.fieldLink RX4 7 "WordSamplesModel" "now" "[I" ∈ wsX4_at := by decide +kernel
  have m1 : ∀ w ∈ wsX40, w ∈ wsX4_at := by decide +kernel
  refine r_aload_n C dX4_at_0 rfl rfl ?_
  refine r_get (v := .ref (ad (89))) C (by omega) m88 (show vwCl[4]? = some (RX4, TX4, 15) from rfl) m1 0 (by decide) m0 rfl rfl dX4_at_1 ?_
  refine r_bipush C ((15 : Nat) : Int) (by decide) dX4_at_4 ?_
  refine r_bipush C ((64 : Nat) : Int) (by decide) dX4_at_6 ?_
  refine r_iload_n C dX4_at_8 rfl rfl ?_
  refine r_imul C ((64 * r : Nat) : Int) (by omega) dX4_at_9 ?_
  refine r_iadd C ((15 + (64 * r) : Nat) : Int) (by omega) dX4_at_10 ?_
  refine r_iload_n C dX4_at_11 rfl rfl ?_
  refine r_iadd C ((15 + (64 * r) + p : Nat) : Int) (by omega) dX4_at_12 ?_
  refine r_iald (x := (iI (((cur s).2.2.1 (r * 64 + p) : Nat) : Int))) C (by omega) m89 (15 + (r * 64 + p)) (by omega) (by omega) (Nat.le_of_ble_eq_true rfl) (congrArg (fun q : Nat => iI ((q : Nat) : Int)) (nwG)) dX4_at_13 ?_
  exact hret f (((cur s).2.2.1 (r * 64 + p) : Nat) : Int) _ _ dX4_at_14 rfl rfl
set_option maxHeartbeats 4000000 in
set_option maxRecDepth 100000 in
/-- know(): one more state is known -/
theorem c_X4_know (G : va_G) (tc : Nat → ClassId) (l : Launch) (ad : Nat → Nat) (N : Nat) (f : Nat → va_E) (s : SG) (hM : MI tc ad f s) (ho : okS s) (hN : 98 ≤ N)    : Ct G tc l yX4_know wsX4_know { frames := 0, cells := 0, slots := 0, locals := 0 } 0 0 [.ref (ad (88))] ad N f (poV ad N (fun f' => MI tc ad f' (knowS s) ∧ ∀ q, (q < 88 ∨ 98 ≤ q) → f' q = f q)) := by
  obtain ⟨⟨x1, x2, x3, x4, m88⟩, m89', ⟨bb, m90, hbb⟩, ⟨sb, m91, hsb⟩, ⟨ig, m92, hig⟩, m93, ⟨wc, wv, wo, wn, m94, m95, m96, m97⟩⟩ := id hM
  have m89 : f 89 = eI tc 655 (fun j => iI ((nwF ((cur s).1, (cur s).2.1, (cur s).2.2.1, (cur s).2.2.2) j : Nat) : Int)) := m89'
  obtain ⟨⟨⟨a1, a2⟩, ⟨a3, a4⟩, ⟨a5, a6⟩, a7, a8, a9, a10⟩, o2, o3, o4, o5, o6⟩ := id ho
  refine stV (cc := cX4_know) (maxL := 2) (lv := [(0, .ref (ad (88)))]) (by decide) rfl (Nat.le_of_ble_eq_true rfl) rfl (fun X C hret => ?_)
  have m0 : Cond.fieldLink RX4 47 "WordSamplesModel" "known" "I" ∈ wsX4_know := by decide +kernel
  have m1 : ∀ w ∈ wsX40, w ∈ wsX4_know := by decide +kernel
  have m2 : Cond.fieldLink RX4 13 "WordSamplesModel" "before" "[I" ∈ wsX4_know := by decide +kernel
  have m3 : Cond.fieldLink RX4 7 "WordSamplesModel" "now" "[I" ∈ wsX4_know := by decide +kernel
  refine r_aload_n C dX4_know_0 rfl rfl ?_
  refine r_get (v := .int (iI ((kno s : Nat) : Int))) C (by omega) m88 (show vwCl[4]? = some (RX4, TX4, 15) from rfl) m1 2 (by decide) m0 rfl rfl dX4_know_1 ?_
  refine r_bipush C ((6 : Nat) : Int) (by decide) dX4_know_4 ?_
  refine r_icmp_ne (tgt := 50) C ⟨by omega, by omega⟩ ⟨by omega, by omega⟩ dX4_know_6 (by decide) (fun b1 => ?_) (fun b1 => ?_)
  · refine r_iconst C ((0 : Nat) : Int) (by decide) dX4_know_50 ?_
    refine r_istore_n (lv' := [(0, .ref (ad (88))), (1, .int (iI ((0 : Nat) : Int)))]) C dX4_know_51 rfl (by decide) rfl ?_
    have hL5 : ∀ (m_6 : Nat) (k : Nat) (f2 : Nat → va_E) (hm3 : f2 (90) = eI tc 3930 ((bw bb ((cur s).1, (cur s).2.1, (cur s).2.2.1, (cur s).2.2.2) (kno s) k))) (ho4 : ∀ q, q ≠ 90 → f2 q = f q) (hk : k ≤ 655), 655 - k < m_6 → VV X ad N f2 0 0 52 [(0, .ref (ad (88))), (1, .int (iI ((k : Nat) : Int)))] [] := by
      intro m_6
      induction m_6 with
      | zero => intros; omega
      | succ m_6 ih7 =>
        intro k f2 hm3 ho4 hk hm8
        refine r_iload_n C dX4_know_52 rfl rfl ?_
        refine r_sipush C ((655 : Nat) : Int) (by decide) dX4_know_53 ?_
        refine r_icmp_ge (tgt := 86) C ⟨by omega, by omega⟩ ⟨by omega, by omega⟩ dX4_know_56 (by decide) (fun b9 => ?_) (fun b9 => ?_)
        · have hke2 : k = 655 := by omega
          rw [hke2] at hm3
          refine r_aload_n C dX4_know_86 rfl rfl ?_
          refine r_dup C dX4_know_87 rfl ?_
          have c10 : f2 (88) = eO 4 [.ref (ad (89)), .ref (ad (90)), .int (iI ((kno s : Nat) : Int)), .ref (ad (91)), .ref (ad (92)), .ref (ad (93)), .int (iI ((pln s : Nat) : Int)), .ref (ad (94)), .ref (ad (95)), .ref (ad (96)), .ref (ad (97)), .int (x1), .int (x2), .int (x3), .int (x4)] := (ho4 _ (by omega)).trans m88
          refine r_get (v := .int (iI ((kno s : Nat) : Int))) C (by omega) c10 (show vwCl[4]? = some (RX4, TX4, 15) from rfl) m1 2 (by decide) m0 rfl rfl dX4_know_88 ?_
          refine r_iconst C ((1 : Nat) : Int) (by decide) dX4_know_91 ?_
          refine r_iadd C ((kno s + 1 : Nat) : Int) (by omega) dX4_know_92 ?_
          refine r_put (ty := .int) C (by omega) c10 (show vwCl[4]? = some (RX4, TX4, 15) from rfl) m1 tyX4_ok nmX4 2 (by decide) m0 rfl rfl (by decide +kernel) rfl rfl (Nat.le_of_ble_eq_true rfl) dX4_know_93 (fun f11 hs12 ho13 => ?_)
          have c14 : f11 (88) = eO 4 [.ref (ad (89)), .ref (ad (90)), .int (iI ((kno s + 1 : Nat) : Int)), .ref (ad (91)), .ref (ad (92)), .ref (ad (93)), .int (iI ((pln s : Nat) : Int)), .ref (ad (94)), .ref (ad (95)), .ref (ad (96)), .ref (ad (97)), .int (x1), .int (x2), .int (x3), .int (x4)] := hs12
          have c15 : f11 (90) = eI tc 3930 ((bw bb ((cur s).1, (cur s).2.1, (cur s).2.2.1, (cur s).2.2.2) (kno s) 655)) := (ho13 _ (by omega)).trans hm3
          have c16 : f2 (89) = eI tc 655 (fun j => iI ((nwF ((cur s).1, (cur s).2.1, (cur s).2.2.1, (cur s).2.2.2) j : Nat) : Int)) := (ho4 _ (by omega)).trans m89
          have c17 : f11 (89) = eI tc 655 (fun j => iI ((nwF ((cur s).1, (cur s).2.1, (cur s).2.2.1, (cur s).2.2.2) j : Nat) : Int)) := (ho13 _ (by omega)).trans c16
          exact hret f11 _ _ dX4_know_96 (⟨know_MI hM ⟨_, _, _, _, c14.trans (by rw [kpush_s (by omega)])⟩ c15 (hpush_s hbb (by omega)) (fun q g1 g2 => ((ho13 _ (by omega))).trans (ho4 _ (by omega))), fun q hq => ((ho13 _ (by omega))).trans (ho4 _ (by omega))⟩)
        · refine r_aload_n C dX4_know_59 rfl rfl ?_
          have c18 : f2 (88) = eO 4 [.ref (ad (89)), .ref (ad (90)), .int (iI ((kno s : Nat) : Int)), .ref (ad (91)), .ref (ad (92)), .ref (ad (93)), .int (iI ((pln s : Nat) : Int)), .ref (ad (94)), .ref (ad (95)), .ref (ad (96)), .ref (ad (97)), .int (x1), .int (x2), .int (x3), .int (x4)] := (ho4 _ (by omega)).trans m88
          refine r_get (v := .ref (ad (90))) C (by omega) c18 (show vwCl[4]? = some (RX4, TX4, 15) from rfl) m1 1 (by decide) m2 rfl rfl dX4_know_60 ?_
          refine r_sipush C ((655 : Nat) : Int) (by decide) dX4_know_63 ?_
          refine r_aload_n C dX4_know_66 rfl rfl ?_
          refine r_get (v := .int (iI ((kno s : Nat) : Int))) C (by omega) c18 (show vwCl[4]? = some (RX4, TX4, 15) from rfl) m1 2 (by decide) m0 rfl rfl dX4_know_67 ?_
          refine r_imul C ((655 * (kno s) : Nat) : Int) (by omega) dX4_know_70 ?_
          refine r_iload_n C dX4_know_71 rfl rfl ?_
          refine r_iadd C ((655 * (kno s) + k : Nat) : Int) (by omega) dX4_know_72 ?_
          refine r_aload_n C dX4_know_73 rfl rfl ?_
          refine r_get (v := .ref (ad (89))) C (by omega) c18 (show vwCl[4]? = some (RX4, TX4, 15) from rfl) m1 0 (by decide) m3 rfl rfl dX4_know_74 ?_
          refine r_iload_n C dX4_know_77 rfl rfl ?_
          have c19 : f2 (89) = eI tc 655 (fun j => iI ((nwF ((cur s).1, (cur s).2.1, (cur s).2.2.1, (cur s).2.2.2) j : Nat) : Int)) := (ho4 _ (by omega)).trans m89
          refine r_iald (x := (iI ((nwF ((cur s).1, (cur s).2.1, (cur s).2.2.1, (cur s).2.2.2) k : Nat) : Int))) C (by omega) c19 (k) rfl (by omega) (Nat.le_of_ble_eq_true rfl) (rfl) dX4_know_78 ?_
          refine r_iast C (by omega) hm3 (655 * (kno s) + k) rfl (by omega) (Nat.le_of_ble_eq_true rfl) dX4_know_79 (fun f20 hs21 ho22 => ?_)
          have c23 : f20 (90) = eI tc 3930 ((bw bb ((cur s).1, (cur s).2.1, (cur s).2.2.1, (cur s).2.2.2) (kno s) (k + 1))) := hs21.trans (congrArg (fun g => eI tc 3930 g) (bw_s _ _ _ _))
          refine r_iinc (lv' := [(0, .ref (ad (88))), (1, .int (iI ((k + 1 : Nat) : Int)))]) C ((k + 1 : Nat) : Int) (by omega) dX4_know_80 rfl (by decide) rfl ?_
          refine r_goto (tgt := 52) C dX4_know_83 (by decide) ?_
          exact ih7 (k + 1) f20 c23 (fun q hq => ((ho22 _ (by omega))).trans (ho4 _ (by omega))) (by omega) (by omega)
    exact hL5 _ 0 f (by rw [bw_0]; exact m90) (fun _ _ => rfl) (by omega) (Nat.lt_succ_self _)
  · refine r_iconst C ((0 : Nat) : Int) (by decide) dX4_know_9 ?_
    refine r_istore_n (lv' := [(0, .ref (ad (88))), (1, .int (iI ((0 : Nat) : Int)))]) C dX4_know_10 rfl (by decide) rfl ?_
    have hL27 : ∀ (m_28 : Nat) (k : Nat) (f24 : Nat → va_E) (hm25 : f24 (90) = eI tc 3930 ((shB bb k))) (ho26 : ∀ q, q ≠ 90 → f24 q = f q) (hk : k ≤ 3275), 3275 - k < m_28 → VV X ad N f24 0 0 11 [(0, .ref (ad (88))), (1, .int (iI ((k : Nat) : Int)))] [] := by
      intro m_28
      induction m_28 with
      | zero => intros; omega
      | succ m_28 ih29 =>
        intro k f24 hm25 ho26 hk hm30
        refine r_iload_n C dX4_know_11 rfl rfl ?_
        refine r_sipush C ((3275 : Nat) : Int) (by decide) dX4_know_12 ?_
        refine r_icmp_ge (tgt := 40) C ⟨by omega, by omega⟩ ⟨by omega, by omega⟩ dX4_know_15 (by decide) (fun b31 => ?_) (fun b31 => ?_)
        · have hke : k = 3275 := by omega
          rw [hke] at hm25
          have c32 : f24 (88) = eO 4 [.ref (ad (89)), .ref (ad (90)), .int (iI ((kno s : Nat) : Int)), .ref (ad (91)), .ref (ad (92)), .ref (ad (93)), .int (iI ((pln s : Nat) : Int)), .ref (ad (94)), .ref (ad (95)), .ref (ad (96)), .ref (ad (97)), .int (x1), .int (x2), .int (x3), .int (x4)] := (ho26 _ (by omega)).trans m88
          have hk6 : kno s = 6 := by omega
          refine r_aload_n C dX4_know_40 rfl rfl ?_
          refine r_dup C dX4_know_41 rfl ?_
          refine r_get (v := .int (iI ((kno s : Nat) : Int))) C (by omega) c32 (show vwCl[4]? = some (RX4, TX4, 15) from rfl) m1 2 (by decide) m0 rfl rfl dX4_know_42 ?_
          refine r_iconst C ((1 : Nat) : Int) (by decide) dX4_know_45 ?_
          refine r_isub C ((5 : Nat) : Int) (by omega) dX4_know_46 ?_
          refine r_put (ty := .int) C (by omega) c32 (show vwCl[4]? = some (RX4, TX4, 15) from rfl) m1 tyX4_ok nmX4 2 (by decide) m0 rfl rfl (by decide +kernel) rfl rfl (Nat.le_of_ble_eq_true rfl) dX4_know_47 (fun f33 hs34 ho35 => ?_)
          have c36 : f33 (88) = eO 4 [.ref (ad (89)), .ref (ad (90)), .int (iI ((5 : Nat) : Int)), .ref (ad (91)), .ref (ad (92)), .ref (ad (93)), .int (iI ((pln s : Nat) : Int)), .ref (ad (94)), .ref (ad (95)), .ref (ad (96)), .ref (ad (97)), .int (x1), .int (x2), .int (x3), .int (x4)] := hs34
          refine r_iconst C ((0 : Nat) : Int) (by decide) dX4_know_50 ?_
          refine r_istore_n (lv' := [(0, .ref (ad (88))), (1, .int (iI ((0 : Nat) : Int)))]) C dX4_know_51 rfl (by decide) rfl ?_
          have hL40 : ∀ (m_41 : Nat) (k : Nat) (f37 : Nat → va_E) (hm38 : f37 (90) = eI tc 3930 ((bw (shB bb 3275) ((cur s).1, (cur s).2.1, (cur s).2.2.1, (cur s).2.2.2) (5) k))) (ho39 : ∀ q, q ≠ 90 → f37 q = f33 q) (hk : k ≤ 655), 655 - k < m_41 → VV X ad N f37 0 0 52 [(0, .ref (ad (88))), (1, .int (iI ((k : Nat) : Int)))] [] := by
            intro m_41
            induction m_41 with
            | zero => intros; omega
            | succ m_41 ih42 =>
              intro k f37 hm38 ho39 hk hm43
              refine r_iload_n C dX4_know_52 rfl rfl ?_
              refine r_sipush C ((655 : Nat) : Int) (by decide) dX4_know_53 ?_
              refine r_icmp_ge (tgt := 86) C ⟨by omega, by omega⟩ ⟨by omega, by omega⟩ dX4_know_56 (by decide) (fun b44 => ?_) (fun b44 => ?_)
              · have hke2 : k = 655 := by omega
                rw [hke2] at hm38
                refine r_aload_n C dX4_know_86 rfl rfl ?_
                refine r_dup C dX4_know_87 rfl ?_
                have c45 : f37 (88) = eO 4 [.ref (ad (89)), .ref (ad (90)), .int (iI ((5 : Nat) : Int)), .ref (ad (91)), .ref (ad (92)), .ref (ad (93)), .int (iI ((pln s : Nat) : Int)), .ref (ad (94)), .ref (ad (95)), .ref (ad (96)), .ref (ad (97)), .int (x1), .int (x2), .int (x3), .int (x4)] := (ho39 _ (by omega)).trans c36
                refine r_get (v := .int (iI ((5 : Nat) : Int))) C (by omega) c45 (show vwCl[4]? = some (RX4, TX4, 15) from rfl) m1 2 (by decide) m0 rfl rfl dX4_know_88 ?_
                refine r_iconst C ((1 : Nat) : Int) (by decide) dX4_know_91 ?_
                refine r_iadd C ((6 : Nat) : Int) rfl dX4_know_92 ?_
                refine r_put (ty := .int) C (by omega) c45 (show vwCl[4]? = some (RX4, TX4, 15) from rfl) m1 tyX4_ok nmX4 2 (by decide) m0 rfl rfl (by decide +kernel) rfl rfl (Nat.le_of_ble_eq_true rfl) dX4_know_93 (fun f46 hs47 ho48 => ?_)
                have c49 : f46 (88) = eO 4 [.ref (ad (89)), .ref (ad (90)), .int (iI ((6 : Nat) : Int)), .ref (ad (91)), .ref (ad (92)), .ref (ad (93)), .int (iI ((pln s : Nat) : Int)), .ref (ad (94)), .ref (ad (95)), .ref (ad (96)), .ref (ad (97)), .int (x1), .int (x2), .int (x3), .int (x4)] := hs47
                have c50 : f46 (90) = eI tc 3930 ((bw (shB bb 3275) ((cur s).1, (cur s).2.1, (cur s).2.2.1, (cur s).2.2.2) (5) 655)) := (ho48 _ (by omega)).trans hm38
                have c51 : f24 (89) = eI tc 655 (fun j => iI ((nwF ((cur s).1, (cur s).2.1, (cur s).2.2.1, (cur s).2.2.2) j : Nat) : Int)) := (ho26 _ (by omega)).trans m89
                have c52 : f33 (89) = eI tc 655 (fun j => iI ((nwF ((cur s).1, (cur s).2.1, (cur s).2.2.1, (cur s).2.2.2) j : Nat) : Int)) := (ho35 _ (by omega)).trans c51
                have c53 : f37 (89) = eI tc 655 (fun j => iI ((nwF ((cur s).1, (cur s).2.1, (cur s).2.2.1, (cur s).2.2.2) j : Nat) : Int)) := (ho39 _ (by omega)).trans c52
                have c54 : f46 (89) = eI tc 655 (fun j => iI ((nwF ((cur s).1, (cur s).2.1, (cur s).2.2.1, (cur s).2.2.2) j : Nat) : Int)) := (ho48 _ (by omega)).trans c53
                exact hret f46 _ _ dX4_know_96 (⟨know_MI hM ⟨_, _, _, _, c49.trans (by rw [kpush_6 (by omega)])⟩ c50 (hpush_6 hbb (by omega)) (fun q g1 g2 => ((((ho48 _ (by omega))).trans (ho39 _ (by omega))).trans (ho35 _ (by omega))).trans (ho26 _ (by omega))), fun q hq => ((((ho48 _ (by omega))).trans (ho39 _ (by omega))).trans (ho35 _ (by omega))).trans (ho26 _ (by omega))⟩)
              · refine r_aload_n C dX4_know_59 rfl rfl ?_
                have c55 : f37 (88) = eO 4 [.ref (ad (89)), .ref (ad (90)), .int (iI ((5 : Nat) : Int)), .ref (ad (91)), .ref (ad (92)), .ref (ad (93)), .int (iI ((pln s : Nat) : Int)), .ref (ad (94)), .ref (ad (95)), .ref (ad (96)), .ref (ad (97)), .int (x1), .int (x2), .int (x3), .int (x4)] := (ho39 _ (by omega)).trans c36
                refine r_get (v := .ref (ad (90))) C (by omega) c55 (show vwCl[4]? = some (RX4, TX4, 15) from rfl) m1 1 (by decide) m2 rfl rfl dX4_know_60 ?_
                refine r_sipush C ((655 : Nat) : Int) (by decide) dX4_know_63 ?_
                refine r_aload_n C dX4_know_66 rfl rfl ?_
                refine r_get (v := .int (iI ((5 : Nat) : Int))) C (by omega) c55 (show vwCl[4]? = some (RX4, TX4, 15) from rfl) m1 2 (by decide) m0 rfl rfl dX4_know_67 ?_
                refine r_imul C ((3275 : Nat) : Int) rfl dX4_know_70 ?_
                refine r_iload_n C dX4_know_71 rfl rfl ?_
                refine r_iadd C ((3275 + k : Nat) : Int) (by omega) dX4_know_72 ?_
                refine r_aload_n C dX4_know_73 rfl rfl ?_
                refine r_get (v := .ref (ad (89))) C (by omega) c55 (show vwCl[4]? = some (RX4, TX4, 15) from rfl) m1 0 (by decide) m3 rfl rfl dX4_know_74 ?_
                refine r_iload_n C dX4_know_77 rfl rfl ?_
                have c56 : f24 (89) = eI tc 655 (fun j => iI ((nwF ((cur s).1, (cur s).2.1, (cur s).2.2.1, (cur s).2.2.2) j : Nat) : Int)) := (ho26 _ (by omega)).trans m89
                have c57 : f33 (89) = eI tc 655 (fun j => iI ((nwF ((cur s).1, (cur s).2.1, (cur s).2.2.1, (cur s).2.2.2) j : Nat) : Int)) := (ho35 _ (by omega)).trans c56
                have c58 : f37 (89) = eI tc 655 (fun j => iI ((nwF ((cur s).1, (cur s).2.1, (cur s).2.2.1, (cur s).2.2.2) j : Nat) : Int)) := (ho39 _ (by omega)).trans c57
                refine r_iald (x := (iI ((nwF ((cur s).1, (cur s).2.1, (cur s).2.2.1, (cur s).2.2.2) k : Nat) : Int))) C (by omega) c58 (k) rfl (by omega) (Nat.le_of_ble_eq_true rfl) (rfl) dX4_know_78 ?_
                refine r_iast C (by omega) hm38 (3275 + k) rfl (by omega) (Nat.le_of_ble_eq_true rfl) dX4_know_79 (fun f59 hs60 ho61 => ?_)
                have c62 : f59 (90) = eI tc 3930 ((bw (shB bb 3275) ((cur s).1, (cur s).2.1, (cur s).2.2.1, (cur s).2.2.2) (5) (k + 1))) := hs60.trans (congrArg (fun g => eI tc 3930 g) (bw_s _ _ _ _))
                refine r_iinc (lv' := [(0, .ref (ad (88))), (1, .int (iI ((k + 1 : Nat) : Int)))]) C ((k + 1 : Nat) : Int) (by omega) dX4_know_80 rfl (by decide) rfl ?_
                refine r_goto (tgt := 52) C dX4_know_83 (by decide) ?_
                exact ih42 (k + 1) f59 c62 (fun q hq => ((ho61 _ (by omega))).trans (ho39 _ (by omega))) (by omega) (by omega)
          have c63 : f33 (90) = eI tc 3930 ((shB bb 3275)) := (ho35 _ (by omega)).trans hm25
          exact hL40 _ 0 f33 (by rw [bw_0]; exact c63) (fun _ _ => rfl) (by omega) (Nat.lt_succ_self _)
        · refine r_aload_n C dX4_know_18 rfl rfl ?_
          have c64 : f24 (88) = eO 4 [.ref (ad (89)), .ref (ad (90)), .int (iI ((kno s : Nat) : Int)), .ref (ad (91)), .ref (ad (92)), .ref (ad (93)), .int (iI ((pln s : Nat) : Int)), .ref (ad (94)), .ref (ad (95)), .ref (ad (96)), .ref (ad (97)), .int (x1), .int (x2), .int (x3), .int (x4)] := (ho26 _ (by omega)).trans m88
          refine r_get (v := .ref (ad (90))) C (by omega) c64 (show vwCl[4]? = some (RX4, TX4, 15) from rfl) m1 1 (by decide) m2 rfl rfl dX4_know_19 ?_
          refine r_iload_n C dX4_know_22 rfl rfl ?_
          refine r_aload_n C dX4_know_23 rfl rfl ?_
          refine r_get (v := .ref (ad (90))) C (by omega) c64 (show vwCl[4]? = some (RX4, TX4, 15) from rfl) m1 1 (by decide) m2 rfl rfl dX4_know_24 ?_
          refine r_sipush C ((655 : Nat) : Int) (by decide) dX4_know_27 ?_
          refine r_iload_n C dX4_know_30 rfl rfl ?_
          refine r_iadd C ((655 + k : Nat) : Int) (by omega) dX4_know_31 ?_
          refine r_iald (x := (shB bb k (655 + k))) C (by omega) hm25 (655 + k) (by omega) (by omega) (Nat.le_of_ble_eq_true rfl) (rfl) dX4_know_32 ?_
          refine r_iast C (by omega) hm25 (k) rfl (by omega) (Nat.le_of_ble_eq_true rfl) dX4_know_33 (fun f65 hs66 ho67 => ?_)
          have c68 : f65 (90) = eI tc 3930 ((shB bb (k + 1))) := hs66.trans (congrArg (fun g => eI tc 3930 g) (shB_s bb k))
          refine r_iinc (lv' := [(0, .ref (ad (88))), (1, .int (iI ((k + 1 : Nat) : Int)))]) C ((k + 1 : Nat) : Int) (by omega) dX4_know_34 rfl (by decide) rfl ?_
          refine r_goto (tgt := 11) C dX4_know_37 (by decide) ?_
          exact ih29 (k + 1) f65 c68 (fun q hq => ((ho67 _ (by omega))).trans (ho26 _ (by omega))) (by omega) (by omega)
    exact hL27 _ 0 f (by rw [shB_0]; exact m90) (fun _ _ => rfl) (by omega) (Nat.lt_succ_self _)
set_option maxHeartbeats 4000000 in
set_option maxRecDepth 100000 in
/-- least(z) -/
theorem c_X4_least (G : va_G) (tc : Nat → ClassId) (l : Launch) (ad : Nat → Nat) (N : Nat) (f : Nat → va_E) (z : Int) (hz : inR z)   : Ct G tc l yX4_least wsX4_least { frames := 0, cells := 0, slots := 0, locals := 0 } 0 0 [.int (iI (z))] ad N f (poI ad N (if z = 3 then 0 else 1) (fun f' => f' = f)) := by
  refine stI (cc := cX4_least) (maxL := 1) (lv := [(0, .int (iI (z)))]) (by decide) rfl (Nat.le_of_ble_eq_true rfl) rfl (fun X C hret => ?_)
  refine r_iload_n C dX4_least_0 rfl rfl ?_
  refine r_iconst C ((3 : Nat) : Int) (by decide) dX4_least_1 ?_
  refine r_icmp_ne (tgt := 9) C ⟨by omega, by omega⟩ ⟨by omega, by omega⟩ dX4_least_2 (by decide) (fun b1 => ?_) (fun b1 => ?_)
  · refine r_iconst C ((1 : Nat) : Int) (by decide) dX4_least_9 ?_
    exact hret f ((1 : Nat) : Int) _ _ dX4_least_10 (by omega) rfl
  · refine r_iconst C ((0 : Nat) : Int) (by decide) dX4_least_5 ?_
    refine r_goto (tgt := 10) C dX4_least_6 (by decide) ?_
    exact hret f ((0 : Nat) : Int) _ _ dX4_least_10 (by omega) rfl
set_option maxHeartbeats 4000000 in
set_option maxRecDepth 100000 in
/-- most(z) -/
theorem c_X4_most (G : va_G) (tc : Nat → ClassId) (l : Launch) (ad : Nat → Nat) (N : Nat) (f : Nat → va_E) (z : Int) (hz : inR z)   : Ct G tc l yX4_most wsX4_most { frames := 0, cells := 0, slots := 0, locals := 0 } 0 0 [.int (iI (z))] ad N f (poI ad N (if z = 0 then 4 else if z = 1 then 32 else 1000002) (fun f' => f' = f)) := by
  refine stI (cc := cX4_most) (maxL := 1) (lv := [(0, .int (iI (z)))]) (by decide) rfl (Nat.le_of_ble_eq_true rfl) rfl (fun X C hret => ?_)
  have m0 : Cond.constant RX4 51 (1000002) ∈ wsX4_most := by decide +kernel
  refine r_iload_n C dX4_most_0 rfl rfl ?_
  refine r_if_ne (tgt := 8) C ⟨by omega, by omega⟩ dX4_most_1 (by decide) (fun b1 => ?_) (fun b1 => ?_)
  · refine r_iload_n C dX4_most_8 rfl rfl ?_
    refine r_iconst C ((1 : Nat) : Int) (by decide) dX4_most_9 ?_
    refine r_icmp_ne (tgt := 18) C ⟨by omega, by omega⟩ ⟨by omega, by omega⟩ dX4_most_10 (by decide) (fun b2 => ?_) (fun b2 => ?_)
    · refine r_ldc C ((1000002 : Nat) : Int) (by decide) m0 dX4_most_18 ?_
      exact hret f ((1000002 : Nat) : Int) _ _ dX4_most_20 (by omega) rfl
    · refine r_bipush C ((32 : Nat) : Int) (by decide) dX4_most_13 ?_
      refine r_goto (tgt := 20) C dX4_most_15 (by decide) ?_
      exact hret f ((32 : Nat) : Int) _ _ dX4_most_20 (by omega) rfl
  · refine r_iconst C ((4 : Nat) : Int) (by decide) dX4_most_4 ?_
    refine r_goto (tgt := 20) C dX4_most_5 (by decide) ?_
    exact hret f ((4 : Nat) : Int) _ _ dX4_most_20 (by omega) rfl
set_option maxHeartbeats 4000000 in
set_option maxRecDepth 100000 in
/-- set -/
theorem c_X4_set (G : va_G) (tc : Nat → ClassId) (l : Launch) (ad : Nat → Nat) (N : Nat) (f : Nat → va_E) (s : SG) (hM : MI tc ad f s) (ho : okS s) (hN : 98 ≤ N) (z v : Int) (hz : inR z) (hv : inR v)   : Ct G tc l yX4_set wsX4_set { frames := 1, cells := 0, slots := 0, locals := 22 } 0 0 [.ref (ad (88)), .int (iI (z)), .int (iI (v))] ad N f (poI ad N (aSet s z v) (fun f' => MI tc ad f' (nSet s z v) ∧ ∀ q, (q < 88 ∨ 98 ≤ q) → f' q = f q)) := by
  obtain ⟨⟨x1, x2, x3, x4, m88⟩, m89', ⟨bb, m90, hbb⟩, ⟨sb, m91, hsb⟩, ⟨ig, m92, hig⟩, m93, ⟨wc, wv, wo, wn, m94, m95, m96, m97⟩⟩ := id hM
  have m89 : f 89 = eI tc 655 (fun j => iI ((nwF ((cur s).1, (cur s).2.1, (cur s).2.2.1, (cur s).2.2.2) j : Nat) : Int)) := m89'
  obtain ⟨⟨⟨a1, a2⟩, ⟨a3, a4⟩, ⟨a5, a6⟩, a7, a8, a9, a10⟩, o2, o3, o4, o5, o6⟩ := id ho
  refine stI (cc := cX4_set) (maxL := 4) (lv := [(0, .ref (ad (88))), (1, .int (iI (z))), (2, .int (iI (v)))]) (by decide) rfl (Nat.le_of_ble_eq_true rfl) rfl (fun X C hret => ?_)
  have m0 : Cond.fieldLink RX4 7 "WordSamplesModel" "now" "[I" ∈ wsX4_set := by decide +kernel
  have m1 : ∀ w ∈ wsX40, w ∈ wsX4_set := by decide +kernel
  have q1 : lS z.toNat = if z.toNat = 3 then 0 else 1 := rfl
  have q2 : mS z.toNat = if z.toNat = 0 then 4 else if z.toNat = 1 then 32 else 1000002 := rfl
  refine r_iload_n C dX4_set_0 rfl rfl ?_
  refine r_iconst C ((0 : Nat) : Int) (by decide) dX4_set_1 ?_
  refine r_iconst C ((3 : Nat) : Int) (by decide) dX4_set_2 ?_
  refine r_callS (As := [.int (iI (z)), .int (iI ((0 : Nat) : Int)), .int (iI ((3 : Nat) : Int))]) (rest := []) (na := 3) C (c_X4_in G tc l ad N _ (z) ((0 : Nat) : Int) ((3 : Nat) : Int) ⟨by omega, by omega⟩ ⟨by omega, by omega⟩ ⟨by omega, by omega⟩) gX4_set_X4_in rfl rfl rfl (by decide +kernel) ⟨Nat.le_of_ble_eq_true rfl, Nat.le_of_ble_eq_true rfl⟩ rfl rfl (Nat.le_of_ble_eq_true rfl) dX4_set_3 ⟨Nat.le_of_ble_eq_true rfl, Nat.le_of_ble_eq_true rfl⟩ (aft_I (fun f1 hF2 => ?_))
  rw [hF2]
  refine r_if_eq (tgt := 24) C ⟨by omega, by omega⟩ dX4_set_6 (by decide) (fun b3 => ?_) (fun b3 => ?_)
  · refine r_bipush C ((-2)) (by decide) dX4_set_24 ?_
    exact hret f ((-2)) _ _ dX4_set_26 (by unfold aSet; rw [if_neg (by omega)]) (⟨by unfold nSet; rw [if_neg (by omega)]; exact hM, fun _ _ => rfl⟩)
  · refine r_iload_n C dX4_set_9 rfl rfl ?_
    refine r_iload_n C dX4_set_10 rfl rfl ?_
    refine r_callS (As := [.int (iI (z))]) (rest := [.int (iI (v))]) (na := 1) C (c_X4_least G tc l ad N _ z hz) gX4_set_X4_least rfl rfl rfl (by decide +kernel) ⟨Nat.le_of_ble_eq_true rfl, Nat.le_of_ble_eq_true rfl⟩ rfl rfl (Nat.le_of_ble_eq_true rfl) dX4_set_11 ⟨Nat.le_of_ble_eq_true rfl, Nat.le_of_ble_eq_true rfl⟩ (aft_I (fun f4 hF5 => ?_))
    rw [hF5]
    refine r_iload_n C dX4_set_14 rfl rfl ?_
    refine r_callS (As := [.int (iI (z))]) (rest := [.int (iI (if z = 3 then 0 else 1)), .int (iI (v))]) (na := 1) C (c_X4_most G tc l ad N _ z hz) gX4_set_X4_most rfl rfl rfl (by decide +kernel) ⟨Nat.le_of_ble_eq_true rfl, Nat.le_of_ble_eq_true rfl⟩ rfl rfl (Nat.le_of_ble_eq_true rfl) dX4_set_15 ⟨Nat.le_of_ble_eq_true rfl, Nat.le_of_ble_eq_true rfl⟩ (aft_I (fun f6 hF7 => ?_))
    rw [hF7]
    refine r_callS (As := [.int (iI (v)), .int (iI (if z = 3 then 0 else 1)), .int (iI (if z = 0 then 4 else if z = 1 then 32 else 1000002))]) (rest := []) (na := 3) C (c_X4_in G tc l ad N _ (v) (if z = 3 then 0 else 1) (if z = 0 then 4 else if z = 1 then 32 else 1000002) ⟨by omega, by omega⟩ ⟨by omega, by omega⟩ ⟨by omega, by omega⟩) gX4_set_X4_in rfl rfl rfl (by decide +kernel) ⟨Nat.le_of_ble_eq_true rfl, Nat.le_of_ble_eq_true rfl⟩ rfl rfl (Nat.le_of_ble_eq_true rfl) dX4_set_18 ⟨Nat.le_of_ble_eq_true rfl, Nat.le_of_ble_eq_true rfl⟩ (aft_I (fun f8 hF9 => ?_))
    rw [hF9]
    refine r_if_ne (tgt := 27) C ⟨by omega, by omega⟩ dX4_set_21 (by decide) (fun b10 => ?_) (fun b10 => ?_)
    · refine r_aload_n C dX4_set_27 rfl rfl ?_
      refine r_callV (As := []) (rest := []) (na := 0) C (c_X4_know G tc l ad N _ s hM ho hN) gX4_set_X4_know rfl rfl rfl (by decide +kernel) ⟨Nat.le_of_ble_eq_true rfl, Nat.le_of_ble_eq_true rfl⟩ (by omega) m88 (show vwCl[4]? = some (RX4, TX4, 15) from rfl) rfl rfl (Nat.le_of_ble_eq_true rfl) dX4_set_28 ⟨Nat.le_of_ble_eq_true rfl, Nat.le_of_ble_eq_true rfl⟩ (aft_V (fun f11 hF12 => ?_))
      obtain ⟨hK, hoK⟩ := hF12
      obtain ⟨⟨y1, y2, y3, y4, k88⟩, k89', ⟨kb, k90, hkb⟩, ⟨ks, k91, hks⟩, ⟨kg, k92, hkg⟩, k93, kSc⟩ := id hK
      have k89 : f11 89 = eI tc 655 (fun j => iI ((nwF ((cur s).1, (cur s).2.1, (cur s).2.2.1, (cur s).2.2.2) j : Nat) : Int)) := k89'
      refine r_aload_n C dX4_set_31 rfl rfl ?_
      refine r_get (v := .ref (ad (89))) C (by omega) k88 (show vwCl[4]? = some (RX4, TX4, 15) from rfl) m1 0 (by decide) m0 rfl rfl dX4_set_32 ?_
      refine r_iload_n C dX4_set_35 rfl rfl ?_
      refine r_iald (x := (iI (((cur s).1 z.toNat : Nat) : Int))) C (by omega) k89 (z.toNat) (by omega) (by omega) (Nat.le_of_ble_eq_true rfl) (congrArg (fun q : Nat => iI ((q : Nat) : Int)) (nwT (by omega))) dX4_set_36 ?_
      refine r_istore_n (lv' := [(0, .ref (ad (88))), (1, .int (iI (z))), (2, .int (iI (v))), (3, .int (iI (((cur s).1 z.toNat : Nat) : Int)))]) C dX4_set_37 rfl (by decide) rfl ?_
      refine r_aload_n C dX4_set_38 rfl rfl ?_
      refine r_get (v := .ref (ad (89))) C (by omega) k88 (show vwCl[4]? = some (RX4, TX4, 15) from rfl) m1 0 (by decide) m0 rfl rfl dX4_set_39 ?_
      refine r_iload_n C dX4_set_42 rfl rfl ?_
      refine r_iload_n C dX4_set_43 rfl rfl ?_
      refine r_iast C (by omega) k89 (z.toNat) (by omega) (by omega) (Nat.le_of_ble_eq_true rfl) dX4_set_44 (fun f13 hs14 ho15 => ?_)
      have c16 : f13 (89) = eI tc 655 (fun j => iI ((nwF ((upN (cur s).1 (z.toNat) ((v).toNat)), (cur s).2.1, (cur s).2.2.1, (cur s).2.2.2) j : Nat) : Int)) := hs14.trans (congrArg (fun g => eI tc 655 g) (nwUz (by omega) (nwUT _ _ (by omega))))
      refine r_iload_n C dX4_set_45 rfl rfl ?_
      have c17 : f13 (88) = eO 4 [.ref (ad (89)), .ref (ad (90)), .int (iI ((kpush (kno s) : Nat) : Int)), .ref (ad (91)), .ref (ad (92)), .ref (ad (93)), .int (iI ((pln s : Nat) : Int)), .ref (ad (94)), .ref (ad (95)), .ref (ad (96)), .ref (ad (97)), .int (y1), .int (y2), .int (y3), .int (y4)] := (ho15 _ (by omega)).trans k88
      exact hret f13 (((cur s).1 z.toNat : Nat) : Int) _ _ dX4_set_46 (by unfold aSet; rw [if_pos (by omega)]) (⟨by unfold nSet; rw [if_pos (by omega)]; exact M_now (s := knowS s) hK c17 c16 (fun q g1 g2 => (ho15 _ (by omega))), fun q hq => ((ho15 _ (by omega))).trans (hoK _ (by omega))⟩)
    · refine r_bipush C ((-2)) (by decide) dX4_set_24 ?_
      exact hret f ((-2)) _ _ dX4_set_26 (by unfold aSet; rw [if_neg (by omega)]) (⟨by unfold nSet; rw [if_neg (by omega)]; exact hM, fun _ _ => rfl⟩)
set_option maxHeartbeats 4000000 in
set_option maxRecDepth 100000 in
/-- signOf(c) -/
theorem c_X4_signOf (G : va_G) (tc : Nat → ClassId) (l : Launch) (ad : Nat → Nat) (N : Nat) (f : Nat → va_E) (c : Int) (hc : inR c)   : Ct G tc l yX4_signOf wsX4_signOf { frames := 1, cells := 0, slots := 0, locals := 22 } 0 0 [.int (iI (c))] ad N f (poI ad N (sgnI c) (fun f' => f' = f)) := by
  refine stI (cc := cX4_signOf) (maxL := 1) (lv := [(0, .int (iI (c)))]) (by decide) rfl (Nat.le_of_ble_eq_true rfl) rfl (fun X C hret => ?_)
  refine r_iload_n C dX4_signOf_0 rfl rfl ?_
  refine r_bipush C ((46 : Nat) : Int) (by decide) dX4_signOf_1 ?_
  refine r_icmp_ne (tgt := 11) C ⟨by omega, by omega⟩ ⟨by omega, by omega⟩ dX4_signOf_3 (by decide) (fun b1 => ?_) (fun b1 => ?_)
  · refine r_iload_n C dX4_signOf_11 rfl rfl ?_
    refine r_bipush C ((97 : Nat) : Int) (by decide) dX4_signOf_12 ?_
    refine r_bipush C ((122 : Nat) : Int) (by decide) dX4_signOf_14 ?_
    refine r_callS (As := [.int (iI (c)), .int (iI ((97 : Nat) : Int)), .int (iI ((122 : Nat) : Int))]) (rest := []) (na := 3) C (c_X4_in G tc l ad N _ (c) ((97 : Nat) : Int) ((122 : Nat) : Int) ⟨by omega, by omega⟩ ⟨by omega, by omega⟩ ⟨by omega, by omega⟩) gX4_signOf_X4_in rfl rfl rfl (by decide +kernel) ⟨Nat.le_of_ble_eq_true rfl, Nat.le_of_ble_eq_true rfl⟩ rfl rfl (Nat.le_of_ble_eq_true rfl) dX4_signOf_16 ⟨Nat.le_of_ble_eq_true rfl, Nat.le_of_ble_eq_true rfl⟩ (aft_I (fun f2 hF3 => ?_))
    rw [hF3]
    refine r_if_eq (tgt := 29) C ⟨by omega, by omega⟩ dX4_signOf_19 (by decide) (fun b4 => ?_) (fun b4 => ?_)
    · refine r_bipush C ((-6)) (by decide) dX4_signOf_29 ?_
      exact hret f ((-6)) _ _ dX4_signOf_31 (by unfold sgnI; omega) rfl
    · refine r_iload_n C dX4_signOf_22 rfl rfl ?_
      refine r_bipush C ((97 : Nat) : Int) (by decide) dX4_signOf_23 ?_
      refine r_isub C ((c) - ((97 : Nat) : Int)) rfl dX4_signOf_25 ?_
      refine r_goto (tgt := 31) C dX4_signOf_26 (by decide) ?_
      exact hret f ((c) - ((97 : Nat) : Int)) _ _ dX4_signOf_31 (by unfold sgnI; omega) rfl
  · refine r_bipush C ((26 : Nat) : Int) (by decide) dX4_signOf_6 ?_
    refine r_goto (tgt := 31) C dX4_signOf_8 (by decide) ?_
    exact hret f ((26 : Nat) : Int) _ _ dX4_signOf_31 (by unfold sgnI; omega) rfl
set_option maxHeartbeats 4000000 in
set_option maxRecDepth 100000 in
/-- fault() -/
theorem c_X4_fault (G : va_G) (tc : Nat → ClassId) (l : Launch) (ad : Nat → Nat) (N : Nat) (f : Nat → va_E) (s : SG) (hM : MI tc ad f s) (ho : okS s) (hN : 98 ≤ N)    : Ct G tc l yX4_fault wsX4_fault { frames := 2, cells := 0, slots := 0, locals := 42 } 0 0 [.ref (ad (88))] ad N f (poI ad N (fau (pad s) (pln s)) (fun f' => f' = f)) := by
  obtain ⟨⟨x1, x2, x3, x4, m88⟩, m89', ⟨bb, m90, hbb⟩, ⟨sb, m91, hsb⟩, ⟨ig, m92, hig⟩, m93, ⟨wc, wv, wo, wn, m94, m95, m96, m97⟩⟩ := id hM
  have m89 : f 89 = eI tc 655 (fun j => iI ((nwF ((cur s).1, (cur s).2.1, (cur s).2.2.1, (cur s).2.2.2) j : Nat) : Int)) := m89'
  obtain ⟨⟨⟨a1, a2⟩, ⟨a3, a4⟩, ⟨a5, a6⟩, a7, a8, a9, a10⟩, o2, o3, o4, o5, o6⟩ := id ho
  refine stI (cc := cX4_fault) (maxL := 2) (lv := [(0, .ref (ad (88)))]) (by decide) rfl (Nat.le_of_ble_eq_true rfl) rfl (fun X C hret => ?_)
  have m0 : Cond.fieldLink RX4 62 "WordSamplesModel" "padded" "I" ∈ wsX4_fault := by decide +kernel
  have m1 : ∀ w ∈ wsX40, w ∈ wsX4_fault := by decide +kernel
  have m2 : Cond.fieldLink RX4 23 "WordSamplesModel" "pad" "[I" ∈ wsX4_fault := by decide +kernel
  refine r_iconst C ((0 : Nat) : Int) (by decide) dX4_fault_0 ?_
  refine r_istore_n (lv' := [(0, .ref (ad (88))), (1, .int (iI ((0 : Nat) : Int)))]) C dX4_fault_1 rfl (by decide) rfl ?_
  have hL1 : ∀ (m_2 : Nat) (k : Nat) (hk : k ≤ pln s) (hb : ∀ j, j < k → okc (pad s j) = true), pln s - k < m_2 → VV X ad N f 0 0 2 [(0, .ref (ad (88))), (1, .int (iI ((k : Nat) : Int)))] [] := by
    intro m_2
    induction m_2 with
    | zero => intros; omega
    | succ m_2 ih3 =>
      intro k hk hb hm4
      refine r_iload_n C dX4_fault_2 rfl rfl ?_
      refine r_aload_n C dX4_fault_3 rfl rfl ?_
      refine r_get (v := .int (iI ((pln s : Nat) : Int))) C (by omega) m88 (show vwCl[4]? = some (RX4, TX4, 15) from rfl) m1 6 (by decide) m0 rfl rfl dX4_fault_4 ?_
      refine r_icmp_ge (tgt := 32) C ⟨by omega, by omega⟩ ⟨by omega, by omega⟩ dX4_fault_7 (by decide) (fun b5 => ?_) (fun b5 => ?_)
      · refine r_aload_n C dX4_fault_32 rfl rfl ?_
        refine r_get (v := .int (iI ((pln s : Nat) : Int))) C (by omega) m88 (show vwCl[4]? = some (RX4, TX4, 15) from rfl) m1 6 (by decide) m0 rfl rfl dX4_fault_33 ?_
        refine r_if_ne (tgt := 43) C ⟨by omega, by omega⟩ dX4_fault_36 (by decide) (fun b6 => ?_) (fun b6 => ?_)
        · refine r_bipush C ((-6)) (by decide) dX4_fault_43 ?_
          exact hret f ((-6)) _ _ dX4_fault_45 (fau_end (by omega) (fun j hj => hb j (by omega))).symm rfl
        · refine r_iconst C ((0 : Nat) : Int) (by decide) dX4_fault_39 ?_
          refine r_goto (tgt := 45) C dX4_fault_40 (by decide) ?_
          exact hret f ((0 : Nat) : Int) _ _ dX4_fault_45 (by unfold fau; rw [if_pos (by omega)]; rfl) rfl
      · refine r_aload_n C dX4_fault_10 rfl rfl ?_
        refine r_get (v := .ref (ad (93))) C (by omega) m88 (show vwCl[4]? = some (RX4, TX4, 15) from rfl) m1 5 (by decide) m2 rfl rfl dX4_fault_11 ?_
        refine r_iload_n C dX4_fault_14 rfl rfl ?_
        have q1 := o6 k (by omega)
        refine r_iald (x := (iI ((pad s k : Nat) : Int))) C (by omega) m93 (k) rfl (by omega) (Nat.le_of_ble_eq_true rfl) (rfl) dX4_fault_15 ?_
        refine r_callS (As := [.int (iI ((pad s k : Nat) : Int))]) (rest := []) (na := 1) C (c_X4_signOf G tc l ad N _ ((pad s k : Nat) : Int) ⟨by omega, by omega⟩) gX4_fault_X4_signOf rfl rfl rfl (by decide +kernel) ⟨Nat.le_of_ble_eq_true rfl, Nat.le_of_ble_eq_true rfl⟩ rfl rfl (Nat.le_of_ble_eq_true rfl) dX4_fault_16 ⟨Nat.le_of_ble_eq_true rfl, Nat.le_of_ble_eq_true rfl⟩ (aft_I (fun f7 hF8 => ?_))
        rw [hF8]
        have q2 := sgnI_rng ((pad s k : Nat) : Int)
        refine r_bipush C ((-6)) (by decide) dX4_fault_19 ?_
        refine r_icmp_ne (tgt := 26) C ⟨by omega, by omega⟩ ⟨by omega, by omega⟩ dX4_fault_21 (by decide) (fun b_ne => ?_) (fun b_ne => ?_)
        · refine r_iinc (lv' := [(0, .ref (ad (88))), (1, .int (iI ((k + 1 : Nat) : Int)))]) C ((k + 1 : Nat) : Int) (by omega) dX4_fault_26 rfl (by decide) rfl ?_
          refine r_goto (tgt := 2) C dX4_fault_29 (by decide) ?_
          exact ih3 (k + 1) (by omega) (ok_step hb b_ne) (by omega)
        · refine r_iload_n C dX4_fault_24 rfl rfl ?_
          exact hret f ((k : Nat) : Int) _ _ dX4_fault_25 (fau_hit (by omega) hb b_ne).symm rfl
  exact hL1 _ 0 (by omega) (fun j hj => absurd hj (Nat.not_lt_zero _)) (Nat.lt_succ_self _)
set_option maxHeartbeats 4000000 in
set_option maxRecDepth 100000 in
/-- pour(r) -/
theorem c_X4_pour (G : va_G) (tc : Nat → ClassId) (l : Launch) (ad : Nat → Nat) (N : Nat) (f : Nat → va_E) (kn pl R0 r : Nat) (x1 x2 x3 x4 : Int32) (a L gs p : Nat → Nat) (hN : 98 ≤ N) (hr : r < 10) (hl : L r + pl ≤ 64) (hp : ∀ j, j < pl → okc (p j) = true ∧ p j ≤ 126) (m88 : f (88) = eO 4 [.ref (ad (89)), .ref (ad (90)), .int (iI ((kn : Nat) : Int)), .ref (ad (91)), .ref (ad (92)), .ref (ad (93)), .int (iI ((pl : Nat) : Int)), .ref (ad (94)), .ref (ad (95)), .ref (ad (96)), .ref (ad (97)), .int (x1), .int (x2), .int (x3), .int (x4)]) (m89 : f (89) = eI tc 655 (fun j => iI ((nwF (a, L, gs, R0) j : Nat) : Int))) (m93 : f (93) = eI tc 64 (fun j => iI ((p j : Nat) : Int)))  : Ct G tc l yX4_pour wsX4_pour { frames := 2, cells := 0, slots := 0, locals := 42 } 0 0 [.ref (ad (88)), .int (iI ((r : Nat) : Int))] ad N f (poV ad N (fun f' => f' 88 = oM ad kn 0 x1 x2 x3 x4 ∧ f' 89 = eI tc 655 (fun j => iI ((nwF (a, (upN L r (L r + pl)), (powr gs (r * 64 + L r) p pl), R0) j : Nat) : Int)) ∧ ∀ q, (q ≠ 88 ∧ q ≠ 89) → f' q = f q)) := by
  refine stV (cc := cX4_pour) (maxL := 3) (lv := [(0, .ref (ad (88))), (1, .int (iI ((r : Nat) : Int)))]) (by decide) rfl (Nat.le_of_ble_eq_true rfl) rfl (fun X C hret => ?_)
  have m0 : Cond.fieldLink RX4 62 "WordSamplesModel" "padded" "I" ∈ wsX4_pour := by decide +kernel
  have m1 : ∀ w ∈ wsX40, w ∈ wsX4_pour := by decide +kernel
  have m2 : Cond.fieldLink RX4 7 "WordSamplesModel" "now" "[I" ∈ wsX4_pour := by decide +kernel
  have m3 : Cond.fieldLink RX4 23 "WordSamplesModel" "pad" "[I" ∈ wsX4_pour := by decide +kernel
  refine r_iconst C ((0 : Nat) : Int) (by decide) dX4_pour_0 ?_
  refine r_istore_n (lv' := [(0, .ref (ad (88))), (1, .int (iI ((r : Nat) : Int))), (2, .int (iI ((0 : Nat) : Int)))]) C dX4_pour_1 rfl (by decide) rfl ?_
  have hL4 : ∀ (m_5 : Nat) (k : Nat) (f1 : Nat → va_E) (hm2 : f1 (89) = eI tc 655 (fun j => iI ((nwF (a, L, (powr gs (r * 64 + L r) p k), R0) j : Nat) : Int))) (ho3 : ∀ q, q ≠ 89 → f1 q = f q) (hk : k ≤ pl), pl - k < m_5 → VV X ad N f1 0 0 2 [(0, .ref (ad (88))), (1, .int (iI ((r : Nat) : Int))), (2, .int (iI ((k : Nat) : Int)))] [] := by
    intro m_5
    induction m_5 with
    | zero => intros; omega
    | succ m_5 ih6 =>
      intro k f1 hm2 ho3 hk hm7
      refine r_iload_n C dX4_pour_2 rfl rfl ?_
      refine r_aload_n C dX4_pour_3 rfl rfl ?_
      have c8 : f1 (88) = eO 4 [.ref (ad (89)), .ref (ad (90)), .int (iI ((kn : Nat) : Int)), .ref (ad (91)), .ref (ad (92)), .ref (ad (93)), .int (iI ((pl : Nat) : Int)), .ref (ad (94)), .ref (ad (95)), .ref (ad (96)), .ref (ad (97)), .int (x1), .int (x2), .int (x3), .int (x4)] := (ho3 _ (by omega)).trans m88
      refine r_get (v := .int (iI ((pl : Nat) : Int))) C (by omega) c8 (show vwCl[4]? = some (RX4, TX4, 15) from rfl) m1 6 (by decide) m0 rfl rfl dX4_pour_4 ?_
      refine r_icmp_ge (tgt := 48) C ⟨by omega, by omega⟩ ⟨by omega, by omega⟩ dX4_pour_7 (by decide) (fun b9 => ?_) (fun b9 => ?_)
      · have hke : k = pl := by omega
        rw [hke] at hm2
        refine r_aload_n C dX4_pour_48 rfl rfl ?_
        refine r_get (v := .ref (ad (89))) C (by omega) c8 (show vwCl[4]? = some (RX4, TX4, 15) from rfl) m1 0 (by decide) m2 rfl rfl dX4_pour_49 ?_
        refine r_iconst C ((5 : Nat) : Int) (by decide) dX4_pour_52 ?_
        refine r_iload_n C dX4_pour_53 rfl rfl ?_
        refine r_iadd C ((5 + r : Nat) : Int) (by omega) dX4_pour_54 ?_
        refine r_dup2 C dX4_pour_55 rfl rfl ?_
        refine r_iald (x := (iI ((L r : Nat) : Int))) C (by omega) hm2 (5 + r) rfl (by omega) (Nat.le_of_ble_eq_true rfl) (congrArg (fun q : Nat => iI ((q : Nat) : Int)) (nwL (by omega))) dX4_pour_56 ?_
        refine r_aload_n C dX4_pour_57 rfl rfl ?_
        refine r_get (v := .int (iI ((pl : Nat) : Int))) C (by omega) c8 (show vwCl[4]? = some (RX4, TX4, 15) from rfl) m1 6 (by decide) m0 rfl rfl dX4_pour_58 ?_
        refine r_iadd C ((L r + pl : Nat) : Int) (by omega) dX4_pour_61 ?_
        refine r_iast C (by omega) hm2 (5 + r) rfl (by omega) (Nat.le_of_ble_eq_true rfl) dX4_pour_62 (fun f10 hs11 ho12 => ?_)
        have c13 : f10 (89) = eI tc 655 (fun j => iI ((nwF (a, (upN L (r) (L r + pl)), (powr gs (r * 64 + L r) p pl), R0) j : Nat) : Int)) := hs11.trans (congrArg (fun g => eI tc 655 g) (nwU (nwUL _ _ (by omega))))
        refine r_aload_n C dX4_pour_63 rfl rfl ?_
        refine r_iconst C ((0 : Nat) : Int) (by decide) dX4_pour_64 ?_
        have c14 : f10 (88) = eO 4 [.ref (ad (89)), .ref (ad (90)), .int (iI ((kn : Nat) : Int)), .ref (ad (91)), .ref (ad (92)), .ref (ad (93)), .int (iI ((pl : Nat) : Int)), .ref (ad (94)), .ref (ad (95)), .ref (ad (96)), .ref (ad (97)), .int (x1), .int (x2), .int (x3), .int (x4)] := (ho12 _ (by omega)).trans c8
        refine r_put (ty := .int) C (by omega) c14 (show vwCl[4]? = some (RX4, TX4, 15) from rfl) m1 tyX4_ok nmX4 6 (by decide) m0 rfl rfl (by decide +kernel) rfl rfl (Nat.le_of_ble_eq_true rfl) dX4_pour_65 (fun f15 hs16 ho17 => ?_)
        have c18 : f15 (88) = eO 4 [.ref (ad (89)), .ref (ad (90)), .int (iI ((kn : Nat) : Int)), .ref (ad (91)), .ref (ad (92)), .ref (ad (93)), .int (iI ((0 : Nat) : Int)), .ref (ad (94)), .ref (ad (95)), .ref (ad (96)), .ref (ad (97)), .int (x1), .int (x2), .int (x3), .int (x4)] := hs16
        have c19 : f15 (89) = eI tc 655 (fun j => iI ((nwF (a, (upN L (r) (L r + pl)), (powr gs (r * 64 + L r) p pl), R0) j : Nat) : Int)) := (ho17 _ (by omega)).trans c13
        exact hret f15 _ _ dX4_pour_68 (⟨c18, c19, fun q hq => (((ho17 _ (by omega))).trans (ho12 _ (by omega))).trans (ho3 _ (by omega))⟩)
      · refine r_aload_n C dX4_pour_10 rfl rfl ?_
        refine r_get (v := .ref (ad (89))) C (by omega) c8 (show vwCl[4]? = some (RX4, TX4, 15) from rfl) m1 0 (by decide) m2 rfl rfl dX4_pour_11 ?_
        refine r_bipush C ((15 : Nat) : Int) (by decide) dX4_pour_14 ?_
        refine r_bipush C ((64 : Nat) : Int) (by decide) dX4_pour_16 ?_
        refine r_iload_n C dX4_pour_18 rfl rfl ?_
        refine r_imul C ((64 * r : Nat) : Int) (by omega) dX4_pour_19 ?_
        refine r_iadd C ((15 + (64 * r) : Nat) : Int) (by omega) dX4_pour_20 ?_
        refine r_aload_n C dX4_pour_21 rfl rfl ?_
        refine r_get (v := .ref (ad (89))) C (by omega) c8 (show vwCl[4]? = some (RX4, TX4, 15) from rfl) m1 0 (by decide) m2 rfl rfl dX4_pour_22 ?_
        refine r_iconst C ((5 : Nat) : Int) (by decide) dX4_pour_25 ?_
        refine r_iload_n C dX4_pour_26 rfl rfl ?_
        refine r_iadd C ((5 + r : Nat) : Int) (by omega) dX4_pour_27 ?_
        refine r_iald (x := (iI ((L r : Nat) : Int))) C (by omega) hm2 (5 + r) rfl (by omega) (Nat.le_of_ble_eq_true rfl) (congrArg (fun q : Nat => iI ((q : Nat) : Int)) (nwL (by omega))) dX4_pour_28 ?_
        refine r_iadd C ((15 + (64 * r) + (L r) : Nat) : Int) (by omega) dX4_pour_29 ?_
        refine r_iload_n C dX4_pour_30 rfl rfl ?_
        refine r_iadd C ((15 + (64 * r) + (L r) + k : Nat) : Int) (by omega) dX4_pour_31 ?_
        refine r_aload_n C dX4_pour_32 rfl rfl ?_
        refine r_get (v := .ref (ad (93))) C (by omega) c8 (show vwCl[4]? = some (RX4, TX4, 15) from rfl) m1 5 (by decide) m3 rfl rfl dX4_pour_33 ?_
        refine r_iload_n C dX4_pour_36 rfl rfl ?_
        have q1 := hp k (by omega)
        have c20 : f1 (93) = eI tc 64 (fun j => iI ((p j : Nat) : Int)) := (ho3 _ (by omega)).trans m93
        refine r_iald (x := (iI ((p k : Nat) : Int))) C (by omega) c20 (k) rfl (by omega) (Nat.le_of_ble_eq_true rfl) (rfl) dX4_pour_37 ?_
        refine r_callS (As := [.int (iI ((p k : Nat) : Int))]) (rest := [.int (iI ((15 + (64 * r) + (L r) + k : Nat) : Int)), .ref (ad (89))]) (na := 1) C (c_X4_signOf G tc l ad N _ ((p k : Nat) : Int) ⟨by omega, by omega⟩) gX4_pour_X4_signOf rfl rfl rfl (by decide +kernel) ⟨Nat.le_of_ble_eq_true rfl, Nat.le_of_ble_eq_true rfl⟩ rfl rfl (Nat.le_of_ble_eq_true rfl) dX4_pour_38 ⟨Nat.le_of_ble_eq_true rfl, Nat.le_of_ble_eq_true rfl⟩ (aft_I (fun f21 hF22 => ?_))
        rw [hF22]
        rw [show (.int (iI (sgnI ((p k : Nat) : Int))) : Value) = .int (iI ((sgn (p k) : Nat) : Int)) from by rw [sgnI_ok q1.1]]
        refine r_iast C (by omega) hm2 (15 + (r * 64 + L r + k)) (by omega) (by omega) (Nat.le_of_ble_eq_true rfl) dX4_pour_41 (fun f23 hs24 ho25 => ?_)
        have c26 : f23 (89) = eI tc 655 (fun j => iI ((nwF (a, L, (upN ((powr gs (r * 64 + L r) p k)) (r * 64 + L r + k) (sgn (p k))), R0) j : Nat) : Int)) := hs24.trans (congrArg (fun g => eI tc 655 g) (nwU (nwUG _ _)))
        refine r_iinc (lv' := [(0, .ref (ad (88))), (1, .int (iI ((r : Nat) : Int))), (2, .int (iI ((k + 1 : Nat) : Int)))]) C ((k + 1 : Nat) : Int) (by omega) dX4_pour_42 rfl (by decide) rfl ?_
        refine r_goto (tgt := 2) C dX4_pour_45 (by decide) ?_
        exact ih6 (k + 1) f23 (c26.trans (by rw [powr_s])) (fun q hq => ((ho25 _ (by omega))).trans (ho3 _ (by omega))) (by omega) (by omega)
  exact hL4 _ 0 f (by rw [powr_0]; exact m89) (fun _ _ => rfl) (by omega) (Nat.lt_succ_self _)
set_option maxHeartbeats 4000000 in
set_option maxRecDepth 100000 in
/-- add -/
theorem c_X4_add (G : va_G) (tc : Nat → ClassId) (l : Launch) (ad : Nat → Nat) (N : Nat) (f : Nat → va_E) (s : SG) (hM : MI tc ad f s) (ho : okS s) (hN : 98 ≤ N)    : Ct G tc l yX4_add wsX4_add { frames := 3, cells := 0, slots := 0, locals := 64 } 0 0 [.ref (ad (88))] ad N f (poI ad N (aAdd s) (fun f' => MI tc ad f' (nAdd s) ∧ ∀ q, (q < 88 ∨ 98 ≤ q) → f' q = f q)) := by
  obtain ⟨⟨x1, x2, x3, x4, m88⟩, m89', ⟨bb, m90, hbb⟩, ⟨sb, m91, hsb⟩, ⟨ig, m92, hig⟩, m93, ⟨wc, wv, wo, wn, m94, m95, m96, m97⟩⟩ := id hM
  have m89 : f 89 = eI tc 655 (fun j => iI ((nwF ((cur s).1, (cur s).2.1, (cur s).2.2.1, (cur s).2.2.2) j : Nat) : Int)) := m89'
  obtain ⟨⟨⟨a1, a2⟩, ⟨a3, a4⟩, ⟨a5, a6⟩, a7, a8, a9, a10⟩, o2, o3, o4, o5, o6⟩ := id ho
  refine stI (cc := cX4_add) (maxL := 1) (lv := [(0, .ref (ad (88)))]) (by decide) rfl (Nat.le_of_ble_eq_true rfl) rfl (fun X C hret => ?_)
  have m0 : Cond.fieldLink RX4 7 "WordSamplesModel" "now" "[I" ∈ wsX4_add := by decide +kernel
  have m1 : ∀ w ∈ wsX40, w ∈ wsX4_add := by decide +kernel
  refine r_aload_n C dX4_add_0 rfl rfl ?_
  refine r_callV (As := []) (rest := []) (na := 0) C (c_X4_fault G tc l ad N _ s hM ho hN) gX4_add_X4_fault rfl rfl rfl (by decide +kernel) ⟨Nat.le_of_ble_eq_true rfl, Nat.le_of_ble_eq_true rfl⟩ (by omega) m88 (show vwCl[4]? = some (RX4, TX4, 15) from rfl) rfl rfl (Nat.le_of_ble_eq_true rfl) dX4_add_1 ⟨Nat.le_of_ble_eq_true rfl, Nat.le_of_ble_eq_true rfl⟩ (aft_I (fun f1 hF2 => ?_))
  rw [hF2]
  have hfr := fau_rng (pad s) (n := pln s) o5
  refine r_bipush C ((-6)) (by decide) dX4_add_4 ?_
  refine r_icmp_eq (tgt := 12) C ⟨by omega, by omega⟩ ⟨by omega, by omega⟩ dX4_add_6 (by decide) (fun b3 => ?_) (fun b3 => ?_)
  · have hfo := fau_ok (p := pad s) (n := pln s) (by omega)
    refine r_aload_n C dX4_add_12 rfl rfl ?_
    refine r_get (v := .ref (ad (89))) C (by omega) m88 (show vwCl[4]? = some (RX4, TX4, 15) from rfl) m1 0 (by decide) m0 rfl rfl dX4_add_13 ?_
    refine r_iconst C ((4 : Nat) : Int) (by decide) dX4_add_16 ?_
    refine r_iald (x := (iI (((cur s).2.2.2 : Nat) : Int))) C (by omega) m89 (4) rfl (by omega) (Nat.le_of_ble_eq_true rfl) (rfl) dX4_add_17 ?_
    refine r_bipush C ((10 : Nat) : Int) (by decide) dX4_add_18 ?_
    refine r_icmp_ne (tgt := 26) C ⟨by omega, by omega⟩ ⟨by omega, by omega⟩ dX4_add_20 (by decide) (fun b4 => ?_) (fun b4 => ?_)
    · refine r_aload_n C dX4_add_26 rfl rfl ?_
      refine r_callV (As := []) (rest := []) (na := 0) C (c_X4_know G tc l ad N _ s hM ho hN) gX4_add_X4_know rfl rfl rfl (by decide +kernel) ⟨Nat.le_of_ble_eq_true rfl, Nat.le_of_ble_eq_true rfl⟩ (by omega) m88 (show vwCl[4]? = some (RX4, TX4, 15) from rfl) rfl rfl (Nat.le_of_ble_eq_true rfl) dX4_add_27 ⟨Nat.le_of_ble_eq_true rfl, Nat.le_of_ble_eq_true rfl⟩ (aft_V (fun f5 hF6 => ?_))
      obtain ⟨hK, hoK⟩ := hF6
      obtain ⟨⟨y1, y2, y3, y4, k88⟩, k89', ⟨kb, k90, hkb⟩, ⟨ks, k91, hks⟩, ⟨kg, k92, hkg⟩, k93, kSc⟩ := id hK
      have k89 : f5 89 = eI tc 655 (fun j => iI ((nwF ((cur s).1, (cur s).2.1, (cur s).2.2.1, (cur s).2.2.2) j : Nat) : Int)) := k89'
      refine r_aload_n C dX4_add_30 rfl rfl ?_
      refine r_get (v := .ref (ad (89))) C (by omega) k88 (show vwCl[4]? = some (RX4, TX4, 15) from rfl) m1 0 (by decide) m0 rfl rfl dX4_add_31 ?_
      refine r_iconst C ((5 : Nat) : Int) (by decide) dX4_add_34 ?_
      refine r_aload_n C dX4_add_35 rfl rfl ?_
      refine r_get (v := .ref (ad (89))) C (by omega) k88 (show vwCl[4]? = some (RX4, TX4, 15) from rfl) m1 0 (by decide) m0 rfl rfl dX4_add_36 ?_
      refine r_iconst C ((4 : Nat) : Int) (by decide) dX4_add_39 ?_
      refine r_iald (x := (iI (((cur s).2.2.2 : Nat) : Int))) C (by omega) k89 (4) rfl (by omega) (Nat.le_of_ble_eq_true rfl) (rfl) dX4_add_40 ?_
      refine r_iadd C ((5 + ((cur s).2.2.2) : Nat) : Int) (by omega) dX4_add_41 ?_
      refine r_iconst C ((0 : Nat) : Int) (by decide) dX4_add_42 ?_
      refine r_iast C (by omega) k89 (5 + ((cur s).2.2.2)) rfl (by omega) (Nat.le_of_ble_eq_true rfl) dX4_add_43 (fun f7 hs8 ho9 => ?_)
      have c10 : f7 (89) = eI tc 655 (fun j => iI ((nwF ((cur s).1, (upN (cur s).2.1 ((cur s).2.2.2) (0)), (cur s).2.2.1, (cur s).2.2.2) j : Nat) : Int)) := hs8.trans (congrArg (fun g => eI tc 655 g) (nwU (nwUL _ _ (by omega))))
      refine r_aload_n C dX4_add_44 rfl rfl ?_
      refine r_aload_n C dX4_add_45 rfl rfl ?_
      have c11 : f7 (88) = eO 4 [.ref (ad (89)), .ref (ad (90)), .int (iI ((kpush (kno s) : Nat) : Int)), .ref (ad (91)), .ref (ad (92)), .ref (ad (93)), .int (iI ((pln s : Nat) : Int)), .ref (ad (94)), .ref (ad (95)), .ref (ad (96)), .ref (ad (97)), .int (y1), .int (y2), .int (y3), .int (y4)] := (ho9 _ (by omega)).trans k88
      refine r_get (v := .ref (ad (89))) C (by omega) c11 (show vwCl[4]? = some (RX4, TX4, 15) from rfl) m1 0 (by decide) m0 rfl rfl dX4_add_46 ?_
      refine r_iconst C ((4 : Nat) : Int) (by decide) dX4_add_49 ?_
      refine r_iald (x := (iI (((cur s).2.2.2 : Nat) : Int))) C (by omega) c10 (4) rfl (by omega) (Nat.le_of_ble_eq_true rfl) (rfl) dX4_add_50 ?_
      have hlp : (upN (cur s).2.1 ((cur s).2.2.2) 0) ((cur s).2.2.2) + pln s ≤ 64 := by unfold upN; rw [if_pos rfl]; omega
      have c12 : f7 (93) = eI tc 64 (fun j => iI ((pad s j : Nat) : Int)) := (ho9 _ (by omega)).trans k93
      refine r_callV (As := [.int (iI (((cur s).2.2.2 : Nat) : Int))]) (rest := []) (na := 1) C (c_X4_pour G tc l ad N _ (kpush (kno s)) (pln s) ((cur s).2.2.2) ((cur s).2.2.2) y1 y2 y3 y4 (cur s).1 (upN (cur s).2.1 ((cur s).2.2.2) 0) (cur s).2.2.1 (pad s) hN (by omega) hlp (fun j hj => ⟨hfo.2 j hj, o6 j (by omega)⟩) c11 c10 c12) gX4_add_X4_pour rfl rfl rfl (by decide +kernel) ⟨Nat.le_of_ble_eq_true rfl, Nat.le_of_ble_eq_true rfl⟩ (by omega) c11 (show vwCl[4]? = some (RX4, TX4, 15) from rfl) rfl rfl (Nat.le_of_ble_eq_true rfl) dX4_add_51 ⟨Nat.le_of_ble_eq_true rfl, Nat.le_of_ble_eq_true rfl⟩ (aft_V (fun f13 hF14 => ?_))
      obtain ⟨p88, p89, hoP⟩ := hF14
      refine r_aload_n C dX4_add_54 rfl rfl ?_
      refine r_get (v := .ref (ad (89))) C (by omega) p88 (show vwCl[4]? = some (RX4, TX4, 15) from rfl) m1 0 (by decide) m0 rfl rfl dX4_add_55 ?_
      refine r_iconst C ((4 : Nat) : Int) (by decide) dX4_add_58 ?_
      refine r_dup2 C dX4_add_59 rfl rfl ?_
      refine r_iald (x := (iI (((cur s).2.2.2 : Nat) : Int))) C (by omega) p89 (4) rfl (by omega) (Nat.le_of_ble_eq_true rfl) (rfl) dX4_add_60 ?_
      refine r_iconst C ((1 : Nat) : Int) (by decide) dX4_add_61 ?_
      refine r_iadd C (((cur s).2.2.2 + 1 : Nat) : Int) (by omega) dX4_add_62 ?_
      refine r_iast C (by omega) p89 (4) rfl (by omega) (Nat.le_of_ble_eq_true rfl) dX4_add_63 (fun f15 hs16 ho17 => ?_)
      have c18 : f15 (89) = eI tc 655 (fun j => iI ((nwF ((cur s).1, (upN (upN (cur s).2.1 ((cur s).2.2.2) 0) ((cur s).2.2.2) ((upN (cur s).2.1 ((cur s).2.2.2) 0) ((cur s).2.2.2) + pln s)), (powr (cur s).2.2.1 (((cur s).2.2.2) * 64 + (upN (cur s).2.1 ((cur s).2.2.2) 0) ((cur s).2.2.2)) (pad s) (pln s)), (cur s).2.2.2 + 1) j : Nat) : Int)) := hs16.trans (congrArg (fun g => eI tc 655 g) (nwU (nwU4 _ _)))
      refine r_aload_n C dX4_add_64 rfl rfl ?_
      have c19 : f15 (88) = eO 4 [.ref (ad (89)), .ref (ad (90)), .int (iI ((kpush (kno s) : Nat) : Int)), .ref (ad (91)), .ref (ad (92)), .ref (ad (93)), .int (iI ((0 : Nat) : Int)), .ref (ad (94)), .ref (ad (95)), .ref (ad (96)), .ref (ad (97)), .int (y1), .int (y2), .int (y3), .int (y4)] := (ho17 _ (by omega)).trans p88
      refine r_get (v := .ref (ad (89))) C (by omega) c19 (show vwCl[4]? = some (RX4, TX4, 15) from rfl) m1 0 (by decide) m0 rfl rfl dX4_add_65 ?_
      refine r_iconst C ((4 : Nat) : Int) (by decide) dX4_add_68 ?_
      refine r_iald (x := (iI (((cur s).2.2.2 + 1 : Nat) : Int))) C (by omega) c18 (4) rfl (by omega) (Nat.le_of_ble_eq_true rfl) (rfl) dX4_add_69 ?_
      refine r_iconst C ((1 : Nat) : Int) (by decide) dX4_add_70 ?_
      refine r_isub C (((cur s).2.2.2 : Nat) : Int) (by omega) dX4_add_71 ?_
      exact hret f15 (((cur s).2.2.2 : Nat) : Int) _ _ dX4_add_72 (by unfold aAdd; rw [if_pos (by omega), if_pos (by omega)]) (⟨by unfold nAdd; rw [if_pos (by omega)]; exact M_now (s := knowS s) hK c19 c18 (fun q g1 g2 => (((ho17 _ (by omega))).trans (hoP _ (by omega))).trans (ho9 _ (by omega))), fun q hq => ((((ho17 _ (by omega))).trans (hoP _ (by omega))).trans (ho9 _ (by omega))).trans (hoK _ (by omega))⟩)
    · refine r_bipush C ((-4)) (by decide) dX4_add_23 ?_
      exact hret f ((-4)) _ _ dX4_add_25 (by unfold aAdd; rw [if_pos (by omega), if_neg (by omega)]) (⟨by unfold nAdd; rw [if_neg (by omega)]; exact hM, fun _ _ => rfl⟩)
  · refine r_bipush C ((-3)) (by decide) dX4_add_9 ?_
    exact hret f ((-3)) _ _ dX4_add_11 (by unfold aAdd; rw [if_neg (by omega)]) (⟨by unfold nAdd; rw [if_neg (by omega)]; exact hM, fun _ _ => rfl⟩)
set_option maxHeartbeats 4000000 in
set_option maxRecDepth 100000 in
/-- append -/
theorem c_X4_append (G : va_G) (tc : Nat → ClassId) (l : Launch) (ad : Nat → Nat) (N : Nat) (f : Nat → va_E) (s : SG) (hM : MI tc ad f s) (ho : okS s) (hN : 98 ≤ N) (z : Int) (hz : inR z)   : Ct G tc l yX4_append wsX4_append { frames := 3, cells := 0, slots := 0, locals := 64 } 0 0 [.ref (ad (88)), .int (iI (z))] ad N f (poI ad N (aApp s z) (fun f' => MI tc ad f' (nApp s z) ∧ ∀ q, (q < 88 ∨ 98 ≤ q) → f' q = f q)) := by
  obtain ⟨⟨x1, x2, x3, x4, m88⟩, m89', ⟨bb, m90, hbb⟩, ⟨sb, m91, hsb⟩, ⟨ig, m92, hig⟩, m93, ⟨wc, wv, wo, wn, m94, m95, m96, m97⟩⟩ := id hM
  have m89 : f 89 = eI tc 655 (fun j => iI ((nwF ((cur s).1, (cur s).2.1, (cur s).2.2.1, (cur s).2.2.2) j : Nat) : Int)) := m89'
  obtain ⟨⟨⟨a1, a2⟩, ⟨a3, a4⟩, ⟨a5, a6⟩, a7, a8, a9, a10⟩, o2, o3, o4, o5, o6⟩ := id ho
  refine stI (cc := cX4_append) (maxL := 2) (lv := [(0, .ref (ad (88))), (1, .int (iI (z)))]) (by decide) rfl (Nat.le_of_ble_eq_true rfl) rfl (fun X C hret => ?_)
  have m0 : Cond.fieldLink RX4 7 "WordSamplesModel" "now" "[I" ∈ wsX4_append := by decide +kernel
  have m1 : ∀ w ∈ wsX40, w ∈ wsX4_append := by decide +kernel
  have m2 : Cond.fieldLink RX4 62 "WordSamplesModel" "padded" "I" ∈ wsX4_append := by decide +kernel
  refine r_aload_n C dX4_append_0 rfl rfl ?_
  refine r_iload_n C dX4_append_1 rfl rfl ?_
  refine r_callV (As := [.int (iI (z))]) (rest := []) (na := 1) C (c_X4_isRow G tc l ad N _ s hM ho hN z hz) gX4_append_X4_isRow rfl rfl rfl (by decide +kernel) ⟨Nat.le_of_ble_eq_true rfl, Nat.le_of_ble_eq_true rfl⟩ (by omega) m88 (show vwCl[4]? = some (RX4, TX4, 15) from rfl) rfl rfl (Nat.le_of_ble_eq_true rfl) dX4_append_2 ⟨Nat.le_of_ble_eq_true rfl, Nat.le_of_ble_eq_true rfl⟩ (aft_I (fun f1 hF2 => ?_))
  rw [hF2]
  refine r_if_ne (tgt := 10) C ⟨by omega, by omega⟩ dX4_append_5 (by decide) (fun b3 => ?_) (fun b3 => ?_)
  · refine r_aload_n C dX4_append_10 rfl rfl ?_
    refine r_callV (As := []) (rest := []) (na := 0) C (c_X4_fault G tc l ad N _ s hM ho hN) gX4_append_X4_fault rfl rfl rfl (by decide +kernel) ⟨Nat.le_of_ble_eq_true rfl, Nat.le_of_ble_eq_true rfl⟩ (by omega) m88 (show vwCl[4]? = some (RX4, TX4, 15) from rfl) rfl rfl (Nat.le_of_ble_eq_true rfl) dX4_append_11 ⟨Nat.le_of_ble_eq_true rfl, Nat.le_of_ble_eq_true rfl⟩ (aft_I (fun f4 hF5 => ?_))
    rw [hF5]
    have hfr := fau_rng (pad s) (n := pln s) o5
    refine r_bipush C ((-6)) (by decide) dX4_append_14 ?_
    refine r_icmp_eq (tgt := 22) C ⟨by omega, by omega⟩ ⟨by omega, by omega⟩ dX4_append_16 (by decide) (fun b6 => ?_) (fun b6 => ?_)
    · have hfo := fau_ok (p := pad s) (n := pln s) (by omega)
      have q9 := a9 z.toNat (by omega)
      refine r_aload_n C dX4_append_22 rfl rfl ?_
      refine r_get (v := .ref (ad (89))) C (by omega) m88 (show vwCl[4]? = some (RX4, TX4, 15) from rfl) m1 0 (by decide) m0 rfl rfl dX4_append_23 ?_
      refine r_iconst C ((5 : Nat) : Int) (by decide) dX4_append_26 ?_
      refine r_iload_n C dX4_append_27 rfl rfl ?_
      rw [show (.int (iI (z)) : Value) = .int (iI ((z.toNat : Nat) : Int)) from by rw [Int.toNat_of_nonneg (by omega)]]
      refine r_iadd C ((5 + z.toNat : Nat) : Int) (by omega) dX4_append_28 ?_
      refine r_iald (x := (iI (((cur s).2.1 z.toNat : Nat) : Int))) C (by omega) m89 (5 + z.toNat) rfl (by omega) (Nat.le_of_ble_eq_true rfl) (congrArg (fun q : Nat => iI ((q : Nat) : Int)) (nwL (by omega))) dX4_append_29 ?_
      refine r_aload_n C dX4_append_30 rfl rfl ?_
      refine r_get (v := .int (iI ((pln s : Nat) : Int))) C (by omega) m88 (show vwCl[4]? = some (RX4, TX4, 15) from rfl) m1 6 (by decide) m2 rfl rfl dX4_append_31 ?_
      refine r_iadd C (((cur s).2.1 z.toNat + (pln s) : Nat) : Int) (by omega) dX4_append_34 ?_
      refine r_bipush C ((64 : Nat) : Int) (by decide) dX4_append_35 ?_
      refine r_icmp_le (tgt := 43) C ⟨by omega, by omega⟩ ⟨by omega, by omega⟩ dX4_append_37 (by decide) (fun b7 => ?_) (fun b7 => ?_)
      · refine r_aload_n C dX4_append_43 rfl rfl ?_
        refine r_callV (As := []) (rest := []) (na := 0) C (c_X4_know G tc l ad N _ s hM ho hN) gX4_append_X4_know rfl rfl rfl (by decide +kernel) ⟨Nat.le_of_ble_eq_true rfl, Nat.le_of_ble_eq_true rfl⟩ (by omega) m88 (show vwCl[4]? = some (RX4, TX4, 15) from rfl) rfl rfl (Nat.le_of_ble_eq_true rfl) dX4_append_44 ⟨Nat.le_of_ble_eq_true rfl, Nat.le_of_ble_eq_true rfl⟩ (aft_V (fun f8 hF9 => ?_))
        obtain ⟨hK, hoK⟩ := hF9
        obtain ⟨⟨y1, y2, y3, y4, k88⟩, k89', ⟨kb, k90, hkb⟩, ⟨ks, k91, hks⟩, ⟨kg, k92, hkg⟩, k93, kSc⟩ := id hK
        have k89 : f8 89 = eI tc 655 (fun j => iI ((nwF ((cur s).1, (cur s).2.1, (cur s).2.2.1, (cur s).2.2.2) j : Nat) : Int)) := k89'
        refine r_aload_n C dX4_append_47 rfl rfl ?_
        refine r_iload_n C dX4_append_48 rfl rfl ?_
        have hlp : (cur s).2.1 z.toNat + pln s ≤ 64 := by omega
        refine r_callV (As := [.int (iI ((z.toNat : Nat) : Int))]) (rest := []) (na := 1) C (c_X4_pour G tc l ad N _ (kpush (kno s)) (pln s) ((cur s).2.2.2) z.toNat y1 y2 y3 y4 (cur s).1 (cur s).2.1 (cur s).2.2.1 (pad s) hN (by omega) hlp (fun j hj => ⟨hfo.2 j hj, o6 j (by omega)⟩) k88 k89 k93) gX4_append_X4_pour rfl rfl rfl (by decide +kernel) ⟨Nat.le_of_ble_eq_true rfl, Nat.le_of_ble_eq_true rfl⟩ (by omega) k88 (show vwCl[4]? = some (RX4, TX4, 15) from rfl) rfl rfl (Nat.le_of_ble_eq_true rfl) dX4_append_49 ⟨Nat.le_of_ble_eq_true rfl, Nat.le_of_ble_eq_true rfl⟩ (aft_V (fun f10 hF11 => ?_))
        obtain ⟨p88, p89, hoP⟩ := hF11
        refine r_aload_n C dX4_append_52 rfl rfl ?_
        refine r_get (v := .ref (ad (89))) C (by omega) p88 (show vwCl[4]? = some (RX4, TX4, 15) from rfl) m1 0 (by decide) m0 rfl rfl dX4_append_53 ?_
        refine r_iconst C ((5 : Nat) : Int) (by decide) dX4_append_56 ?_
        refine r_iload_n C dX4_append_57 rfl rfl ?_
        refine r_iadd C ((5 + z.toNat : Nat) : Int) (by omega) dX4_append_58 ?_
        have qe : upN (cur s).2.1 z.toNat ((cur s).2.1 z.toNat + pln s) z.toNat = (cur s).2.1 z.toNat + pln s := by unfold upN; rw [if_pos rfl]
        refine r_iald (x := (iI (((cur s).2.1 z.toNat + pln s : Nat) : Int))) C (by omega) p89 (5 + z.toNat) rfl (by omega) (Nat.le_of_ble_eq_true rfl) (congrArg (fun q : Nat => iI ((q : Nat) : Int)) ((nwL (by omega)).trans qe)) dX4_append_59 ?_
        exact hret f10 (((cur s).2.1 z.toNat + pln s : Nat) : Int) _ _ dX4_append_60 (by unfold aApp; rw [if_pos (by omega), if_pos (by omega), if_pos (by omega)]) (⟨by unfold nApp; rw [if_pos (by omega)]; exact M_now (s := knowS s) hK p88 p89 (fun q g1 g2 => (hoP _ (by omega))), fun q hq => ((hoP _ (by omega))).trans (hoK _ (by omega))⟩)
      · refine r_bipush C ((-4)) (by decide) dX4_append_40 ?_
        exact hret f ((-4)) _ _ dX4_append_42 (by unfold aApp; rw [if_pos (by omega), if_pos (by omega), if_neg (by omega)]) (⟨by unfold nApp; rw [if_neg (by omega)]; exact hM, fun _ _ => rfl⟩)
    · refine r_bipush C ((-3)) (by decide) dX4_append_19 ?_
      exact hret f ((-3)) _ _ dX4_append_21 (by unfold aApp; rw [if_pos (by omega), if_neg (by omega)]) (⟨by unfold nApp; rw [if_neg (by omega)]; exact hM, fun _ _ => rfl⟩)
  · refine r_iconst C ((-1)) (by decide) dX4_append_8 ?_
    exact hret f ((-1)) _ _ dX4_append_9 (by unfold aApp; rw [if_neg (by omega)]) (⟨by unfold nApp; rw [if_neg (by omega)]; exact hM, fun _ _ => rfl⟩)
set_option maxHeartbeats 4000000 in
set_option maxRecDepth 100000 in
/-- change -/
theorem c_X4_change (G : va_G) (tc : Nat → ClassId) (l : Launch) (ad : Nat → Nat) (N : Nat) (f : Nat → va_E) (s : SG) (hM : MI tc ad f s) (ho : okS s) (hN : 98 ≤ N) (z p v : Int) (hz : inR z) (hp : inR p) (hv : inR v)   : Ct G tc l yX4_change wsX4_change { frames := 3, cells := 0, slots := 0, locals := 65 } 0 0 [.ref (ad (88)), .int (iI (z)), .int (iI (p)), .int (iI (v))] ad N f (poI ad N (aChg s z p v) (fun f' => MI tc ad f' (nChg s z p v) ∧ ∀ q, (q < 88 ∨ 98 ≤ q) → f' q = f q)) := by
  obtain ⟨⟨x1, x2, x3, x4, m88⟩, m89', ⟨bb, m90, hbb⟩, ⟨sb, m91, hsb⟩, ⟨ig, m92, hig⟩, m93, ⟨wc, wv, wo, wn, m94, m95, m96, m97⟩⟩ := id hM
  have m89 : f 89 = eI tc 655 (fun j => iI ((nwF ((cur s).1, (cur s).2.1, (cur s).2.2.1, (cur s).2.2.2) j : Nat) : Int)) := m89'
  obtain ⟨⟨⟨a1, a2⟩, ⟨a3, a4⟩, ⟨a5, a6⟩, a7, a8, a9, a10⟩, o2, o3, o4, o5, o6⟩ := id ho
  refine stI (cc := cX4_change) (maxL := 5) (lv := [(0, .ref (ad (88))), (1, .int (iI (z))), (2, .int (iI (p))), (3, .int (iI (v)))]) (by decide) rfl (Nat.le_of_ble_eq_true rfl) rfl (fun X C hret => ?_)
  have m0 : Cond.fieldLink RX4 7 "WordSamplesModel" "now" "[I" ∈ wsX4_change := by decide +kernel
  have m1 : ∀ w ∈ wsX40, w ∈ wsX4_change := by decide +kernel
  refine r_aload_n C dX4_change_0 rfl rfl ?_
  refine r_iload_n C dX4_change_1 rfl rfl ?_
  refine r_iload_n C dX4_change_2 rfl rfl ?_
  refine r_callV (As := [.int (iI (z)), .int (iI (p))]) (rest := []) (na := 2) C (c_X4_isPlace G tc l ad N _ s hM ho hN z p hz hp) gX4_change_X4_isPlace rfl rfl rfl (by decide +kernel) ⟨Nat.le_of_ble_eq_true rfl, Nat.le_of_ble_eq_true rfl⟩ (by omega) m88 (show vwCl[4]? = some (RX4, TX4, 15) from rfl) rfl rfl (Nat.le_of_ble_eq_true rfl) dX4_change_3 ⟨Nat.le_of_ble_eq_true rfl, Nat.le_of_ble_eq_true rfl⟩ (aft_I (fun f1 hF2 => ?_))
  rw [hF2]
  refine r_if_ne (tgt := 11) C ⟨by omega, by omega⟩ dX4_change_6 (by decide) (fun b3 => ?_) (fun b3 => ?_)
  · have q9 := a9 z.toNat (by omega)
    refine r_iload_n C dX4_change_11 rfl rfl ?_
    refine r_iconst C ((0 : Nat) : Int) (by decide) dX4_change_12 ?_
    refine r_bipush C ((26 : Nat) : Int) (by decide) dX4_change_13 ?_
    refine r_callS (As := [.int (iI (v)), .int (iI ((0 : Nat) : Int)), .int (iI ((26 : Nat) : Int))]) (rest := []) (na := 3) C (c_X4_in G tc l ad N _ (v) ((0 : Nat) : Int) ((26 : Nat) : Int) ⟨by omega, by omega⟩ ⟨by omega, by omega⟩ ⟨by omega, by omega⟩) gX4_change_X4_in rfl rfl rfl (by decide +kernel) ⟨Nat.le_of_ble_eq_true rfl, Nat.le_of_ble_eq_true rfl⟩ rfl rfl (Nat.le_of_ble_eq_true rfl) dX4_change_15 ⟨Nat.le_of_ble_eq_true rfl, Nat.le_of_ble_eq_true rfl⟩ (aft_I (fun f4 hF5 => ?_))
    rw [hF5]
    refine r_if_ne (tgt := 24) C ⟨by omega, by omega⟩ dX4_change_18 (by decide) (fun b6 => ?_) (fun b6 => ?_)
    · refine r_aload_n C dX4_change_24 rfl rfl ?_
      refine r_callV (As := []) (rest := []) (na := 0) C (c_X4_know G tc l ad N _ s hM ho hN) gX4_change_X4_know rfl rfl rfl (by decide +kernel) ⟨Nat.le_of_ble_eq_true rfl, Nat.le_of_ble_eq_true rfl⟩ (by omega) m88 (show vwCl[4]? = some (RX4, TX4, 15) from rfl) rfl rfl (Nat.le_of_ble_eq_true rfl) dX4_change_25 ⟨Nat.le_of_ble_eq_true rfl, Nat.le_of_ble_eq_true rfl⟩ (aft_V (fun f7 hF8 => ?_))
      obtain ⟨hK, hoK⟩ := hF8
      obtain ⟨⟨y1, y2, y3, y4, k88⟩, k89', ⟨kb, k90, hkb⟩, ⟨ks, k91, hks⟩, ⟨kg, k92, hkg⟩, k93, kSc⟩ := id hK
      have k89 : f7 89 = eI tc 655 (fun j => iI ((nwF ((cur s).1, (cur s).2.1, (cur s).2.2.1, (cur s).2.2.2) j : Nat) : Int)) := k89'
      refine r_aload_n C dX4_change_28 rfl rfl ?_
      refine r_iload_n C dX4_change_29 rfl rfl ?_
      rw [show (.int (iI (z)) : Value) = .int (iI ((z.toNat : Nat) : Int)) from by rw [Int.toNat_of_nonneg (by omega)]]
      refine r_iload_n C dX4_change_30 rfl rfl ?_
      rw [show (.int (iI (p)) : Value) = .int (iI ((p.toNat : Nat) : Int)) from by rw [Int.toNat_of_nonneg (by omega)]]
      refine r_callV (As := [.int (iI ((z.toNat : Nat) : Int)), .int (iI ((p.toNat : Nat) : Int))]) (rest := []) (na := 2) C (c_X4_at G tc l ad N _ (knowS s) hK (know_ok ho) hN z.toNat p.toNat (by omega) (by omega)) gX4_change_X4_at rfl rfl rfl (by decide +kernel) ⟨Nat.le_of_ble_eq_true rfl, Nat.le_of_ble_eq_true rfl⟩ (by omega) k88 (show vwCl[4]? = some (RX4, TX4, 15) from rfl) rfl rfl (Nat.le_of_ble_eq_true rfl) dX4_change_31 ⟨Nat.le_of_ble_eq_true rfl, Nat.le_of_ble_eq_true rfl⟩ (aft_I (fun f9 hF10 => ?_))
      rw [hF10]
      refine r_istore (lv' := [(0, .ref (ad (88))), (1, .int (iI ((z.toNat : Nat) : Int))), (2, .int (iI ((p.toNat : Nat) : Int))), (3, .int (iI (v))), (4, .int (iI (((cur s).2.2.1 (z.toNat * 64 + p.toNat) : Nat) : Int)))]) C dX4_change_34 (by decide) rfl ?_
      refine r_aload_n C dX4_change_36 rfl rfl ?_
      refine r_get (v := .ref (ad (89))) C (by omega) k88 (show vwCl[4]? = some (RX4, TX4, 15) from rfl) m1 0 (by decide) m0 rfl rfl dX4_change_37 ?_
      refine r_bipush C ((15 : Nat) : Int) (by decide) dX4_change_40 ?_
      refine r_bipush C ((64 : Nat) : Int) (by decide) dX4_change_42 ?_
      refine r_iload_n C dX4_change_44 rfl rfl ?_
      refine r_imul C ((64 * z.toNat : Nat) : Int) (by omega) dX4_change_45 ?_
      refine r_iadd C ((15 + (64 * z.toNat) : Nat) : Int) (by omega) dX4_change_46 ?_
      refine r_iload_n C dX4_change_47 rfl rfl ?_
      refine r_iadd C ((15 + (64 * z.toNat) + p.toNat : Nat) : Int) (by omega) dX4_change_48 ?_
      refine r_iload_n C dX4_change_49 rfl rfl ?_
      refine r_iast C (by omega) k89 (15 + (z.toNat * 64 + p.toNat)) (by omega) (by omega) (Nat.le_of_ble_eq_true rfl) dX4_change_50 (fun f11 hs12 ho13 => ?_)
      have c14 : f11 (89) = eI tc 655 (fun j => iI ((nwF ((cur s).1, (cur s).2.1, (upN (cur s).2.2.1 (z.toNat * 64 + p.toNat) ((v).toNat)), (cur s).2.2.2) j : Nat) : Int)) := hs12.trans (congrArg (fun g => eI tc 655 g) (nwUz (by omega) (nwUG _ _)))
      refine r_iload C dX4_change_51 rfl ?_
      have c15 : f11 (88) = eO 4 [.ref (ad (89)), .ref (ad (90)), .int (iI ((kpush (kno s) : Nat) : Int)), .ref (ad (91)), .ref (ad (92)), .ref (ad (93)), .int (iI ((pln s : Nat) : Int)), .ref (ad (94)), .ref (ad (95)), .ref (ad (96)), .ref (ad (97)), .int (y1), .int (y2), .int (y3), .int (y4)] := (ho13 _ (by omega)).trans k88
      exact hret f11 (((cur s).2.2.1 (z.toNat * 64 + p.toNat) : Nat) : Int) _ _ dX4_change_53 (by unfold aChg; rw [if_pos (by omega), if_pos (by omega)]) (⟨by unfold nChg; rw [if_pos (by omega)]; exact M_now (s := knowS s) hK c15 c14 (fun q g1 g2 => (ho13 _ (by omega))), fun q hq => ((ho13 _ (by omega))).trans (hoK _ (by omega))⟩)
    · refine r_bipush C ((-2)) (by decide) dX4_change_21 ?_
      exact hret f ((-2)) _ _ dX4_change_23 (by unfold aChg; rw [if_pos (by omega), if_neg (by omega)]) (⟨by unfold nChg; rw [if_neg (by omega)]; exact hM, fun _ _ => rfl⟩)
  · refine r_iconst C ((-1)) (by decide) dX4_change_9 ?_
    exact hret f ((-1)) _ _ dX4_change_10 (by unfold aChg; rw [if_neg (by omega)]) (⟨by unfold nChg; rw [if_neg (by omega)]; exact hM, fun _ _ => rfl⟩)
set_option maxHeartbeats 4000000 in
set_option maxRecDepth 100000 in
/-- sign -/
theorem c_X4_sign (G : va_G) (tc : Nat → ClassId) (l : Launch) (ad : Nat → Nat) (N : Nat) (f : Nat → va_E) (s : SG) (hM : MI tc ad f s) (ho : okS s) (hN : 98 ≤ N) (z p : Int) (hz : inR z) (hp : inR p)   : Ct G tc l yX4_sign wsX4_sign { frames := 3, cells := 0, slots := 0, locals := 65 } 0 0 [.ref (ad (88)), .int (iI (z)), .int (iI (p))] ad N f (poI ad N (aSgn s z p) (fun f' => f' = f)) := by
  obtain ⟨⟨x1, x2, x3, x4, m88⟩, m89', ⟨bb, m90, hbb⟩, ⟨sb, m91, hsb⟩, ⟨ig, m92, hig⟩, m93, ⟨wc, wv, wo, wn, m94, m95, m96, m97⟩⟩ := id hM
  have m89 : f 89 = eI tc 655 (fun j => iI ((nwF ((cur s).1, (cur s).2.1, (cur s).2.2.1, (cur s).2.2.2) j : Nat) : Int)) := m89'
  obtain ⟨⟨⟨a1, a2⟩, ⟨a3, a4⟩, ⟨a5, a6⟩, a7, a8, a9, a10⟩, o2, o3, o4, o5, o6⟩ := id ho
  refine stI (cc := cX4_sign) (maxL := 3) (lv := [(0, .ref (ad (88))), (1, .int (iI (z))), (2, .int (iI (p)))]) (by decide) rfl (Nat.le_of_ble_eq_true rfl) rfl (fun X C hret => ?_)
  refine r_aload_n C dX4_sign_0 rfl rfl ?_
  refine r_iload_n C dX4_sign_1 rfl rfl ?_
  refine r_iload_n C dX4_sign_2 rfl rfl ?_
  refine r_callV (As := [.int (iI (z)), .int (iI (p))]) (rest := []) (na := 2) C (c_X4_isPlace G tc l ad N _ s hM ho hN z p hz hp) gX4_sign_X4_isPlace rfl rfl rfl (by decide +kernel) ⟨Nat.le_of_ble_eq_true rfl, Nat.le_of_ble_eq_true rfl⟩ (by omega) m88 (show vwCl[4]? = some (RX4, TX4, 15) from rfl) rfl rfl (Nat.le_of_ble_eq_true rfl) dX4_sign_3 ⟨Nat.le_of_ble_eq_true rfl, Nat.le_of_ble_eq_true rfl⟩ (aft_I (fun f1 hF2 => ?_))
  rw [hF2]
  refine r_if_eq (tgt := 18) C ⟨by omega, by omega⟩ dX4_sign_6 (by decide) (fun b3 => ?_) (fun b3 => ?_)
  · refine r_iconst C ((-1)) (by decide) dX4_sign_18 ?_
    exact hret f ((-1)) _ _ dX4_sign_19 (by unfold aSgn; rw [if_neg (by omega)]) rfl
  · have q9 := a9 z.toNat (by omega)
    refine r_aload_n C dX4_sign_9 rfl rfl ?_
    refine r_iload_n C dX4_sign_10 rfl rfl ?_
    rw [show (.int (iI (z)) : Value) = .int (iI ((z.toNat : Nat) : Int)) from by rw [Int.toNat_of_nonneg (by omega)]]
    refine r_iload_n C dX4_sign_11 rfl rfl ?_
    rw [show (.int (iI (p)) : Value) = .int (iI ((p.toNat : Nat) : Int)) from by rw [Int.toNat_of_nonneg (by omega)]]
    refine r_callV (As := [.int (iI ((z.toNat : Nat) : Int)), .int (iI ((p.toNat : Nat) : Int))]) (rest := []) (na := 2) C (c_X4_at G tc l ad N _ s hM ho hN z.toNat p.toNat (by omega) (by omega)) gX4_sign_X4_at rfl rfl rfl (by decide +kernel) ⟨Nat.le_of_ble_eq_true rfl, Nat.le_of_ble_eq_true rfl⟩ (by omega) m88 (show vwCl[4]? = some (RX4, TX4, 15) from rfl) rfl rfl (Nat.le_of_ble_eq_true rfl) dX4_sign_12 ⟨Nat.le_of_ble_eq_true rfl, Nat.le_of_ble_eq_true rfl⟩ (aft_I (fun f4 hF5 => ?_))
    rw [hF5]
    refine r_goto (tgt := 19) C dX4_sign_15 (by decide) ?_
    exact hret f (((cur s).2.2.1 (z.toNat * 64 + p.toNat) : Nat) : Int) _ _ dX4_sign_19 (by unfold aSgn; rw [if_pos (by omega)]) rfl
set_option maxHeartbeats 4000000 in
set_option maxRecDepth 100000 in
/-- remove -/
theorem c_X4_remove (G : va_G) (tc : Nat → ClassId) (l : Launch) (ad : Nat → Nat) (N : Nat) (f : Nat → va_E) (s : SG) (hM : MI tc ad f s) (ho : okS s) (hN : 98 ≤ N) (z : Int) (hz : inR z)   : Ct G tc l yX4_remove wsX4_remove { frames := 2, cells := 0, slots := 0, locals := 43 } 0 0 [.ref (ad (88)), .int (iI (z))] ad N f (poI ad N (aRem s z) (fun f' => MI tc ad f' (nRem s z) ∧ ∀ q, (q < 88 ∨ 98 ≤ q) → f' q = f q)) := by
  obtain ⟨⟨x1, x2, x3, x4, m88⟩, m89', ⟨bb, m90, hbb⟩, ⟨sb, m91, hsb⟩, ⟨ig, m92, hig⟩, m93, ⟨wc, wv, wo, wn, m94, m95, m96, m97⟩⟩ := id hM
  have m89 : f 89 = eI tc 655 (fun j => iI ((nwF ((cur s).1, (cur s).2.1, (cur s).2.2.1, (cur s).2.2.2) j : Nat) : Int)) := m89'
  obtain ⟨⟨⟨a1, a2⟩, ⟨a3, a4⟩, ⟨a5, a6⟩, a7, a8, a9, a10⟩, o2, o3, o4, o5, o6⟩ := id ho
  refine stI (cc := cX4_remove) (maxL := 4) (lv := [(0, .ref (ad (88))), (1, .int (iI (z)))]) (by decide) rfl (Nat.le_of_ble_eq_true rfl) rfl (fun X C hret => ?_)
  have m0 : Cond.fieldLink RX4 7 "WordSamplesModel" "now" "[I" ∈ wsX4_remove := by decide +kernel
  have m1 : ∀ w ∈ wsX40, w ∈ wsX4_remove := by decide +kernel
  refine r_aload_n C dX4_remove_0 rfl rfl ?_
  refine r_iload_n C dX4_remove_1 rfl rfl ?_
  refine r_callV (As := [.int (iI (z))]) (rest := []) (na := 1) C (c_X4_isRow G tc l ad N _ s hM ho hN z hz) gX4_remove_X4_isRow rfl rfl rfl (by decide +kernel) ⟨Nat.le_of_ble_eq_true rfl, Nat.le_of_ble_eq_true rfl⟩ (by omega) m88 (show vwCl[4]? = some (RX4, TX4, 15) from rfl) rfl rfl (Nat.le_of_ble_eq_true rfl) dX4_remove_2 ⟨Nat.le_of_ble_eq_true rfl, Nat.le_of_ble_eq_true rfl⟩ (aft_I (fun f1 hF2 => ?_))
  rw [hF2]
  refine r_if_ne (tgt := 10) C ⟨by omega, by omega⟩ dX4_remove_5 (by decide) (fun b3 => ?_) (fun b3 => ?_)
  · refine r_aload_n C dX4_remove_10 rfl rfl ?_
    refine r_callV (As := []) (rest := []) (na := 0) C (c_X4_know G tc l ad N _ s hM ho hN) gX4_remove_X4_know rfl rfl rfl (by decide +kernel) ⟨Nat.le_of_ble_eq_true rfl, Nat.le_of_ble_eq_true rfl⟩ (by omega) m88 (show vwCl[4]? = some (RX4, TX4, 15) from rfl) rfl rfl (Nat.le_of_ble_eq_true rfl) dX4_remove_11 ⟨Nat.le_of_ble_eq_true rfl, Nat.le_of_ble_eq_true rfl⟩ (aft_V (fun f4 hF5 => ?_))
    obtain ⟨hK, hoK⟩ := hF5
    obtain ⟨⟨y1, y2, y3, y4, k88⟩, k89', ⟨kb, k90, hkb⟩, ⟨ks, k91, hks⟩, ⟨kg, k92, hkg⟩, k93, kSc⟩ := id hK
    have k89 : f4 89 = eI tc 655 (fun j => iI ((nwF ((cur s).1, (cur s).2.1, (cur s).2.2.1, (cur s).2.2.2) j : Nat) : Int)) := k89'
    refine r_iload_n C dX4_remove_14 rfl rfl ?_
    rw [show (.int (iI (z)) : Value) = .int (iI ((z.toNat : Nat) : Int)) from by rw [Int.toNat_of_nonneg (by omega)]]
    refine r_istore_n (lv' := [(0, .ref (ad (88))), (1, .int (iI ((z.toNat : Nat) : Int))), (2, .int (iI ((z.toNat : Nat) : Int)))]) C dX4_remove_15 rfl (by decide) rfl ?_
    have hL9 : ∀ (m_10 : Nat) (r : Nat) (f6 : Nat → va_E) (hm7 : f6 (89) = eI tc 655 (fun j => iI ((nwF ((cur s).1, (shL (cur s).2.1 z.toNat r), (shG (cur s).2.2.1 (z.toNat * 64) (r * 64)), (cur s).2.2.2) j : Nat) : Int))) (ho8 : ∀ q, q ≠ 89 → f6 q = f4 q) (hr1 : z.toNat ≤ r) (hr2 : r < (cur s).2.2.2), (cur s).2.2.2 - r < m_10 → VV X ad N f6 0 0 16 [(0, .ref (ad (88))), (1, .int (iI ((z.toNat : Nat) : Int))), (2, .int (iI ((r : Nat) : Int)))] [] := by
      intro m_10
      induction m_10 with
      | zero => intros; omega
      | succ m_10 ih11 =>
        intro r f6 hm7 ho8 hr1 hr2 hm12
        refine r_iload_n C dX4_remove_16 rfl rfl ?_
        refine r_iconst C ((1 : Nat) : Int) (by decide) dX4_remove_17 ?_
        refine r_iadd C ((r + 1 : Nat) : Int) (by omega) dX4_remove_18 ?_
        refine r_aload_n C dX4_remove_19 rfl rfl ?_
        have c13 : f6 (88) = eO 4 [.ref (ad (89)), .ref (ad (90)), .int (iI ((kpush (kno s) : Nat) : Int)), .ref (ad (91)), .ref (ad (92)), .ref (ad (93)), .int (iI ((pln s : Nat) : Int)), .ref (ad (94)), .ref (ad (95)), .ref (ad (96)), .ref (ad (97)), .int (y1), .int (y2), .int (y3), .int (y4)] := (ho8 _ (by omega)).trans k88
        refine r_get (v := .ref (ad (89))) C (by omega) c13 (show vwCl[4]? = some (RX4, TX4, 15) from rfl) m1 0 (by decide) m0 rfl rfl dX4_remove_20 ?_
        refine r_iconst C ((4 : Nat) : Int) (by decide) dX4_remove_23 ?_
        refine r_iald (x := (iI (((cur s).2.2.2 : Nat) : Int))) C (by omega) hm7 (4) rfl (by omega) (Nat.le_of_ble_eq_true rfl) (rfl) dX4_remove_24 ?_
        refine r_icmp_ge (tgt := 96) C ⟨by omega, by omega⟩ ⟨by omega, by omega⟩ dX4_remove_25 (by decide) (fun b14 => ?_) (fun b14 => ?_)
        · have hre : r + 1 = (cur s).2.2.2 := by omega
          have c15 : f6 89 = eI tc 655 (fun j => iI ((nwF ((cur s).1, (outL (cur s).2.1 z.toNat ((cur s).2.2.2)), (outG (cur s).2.2.1 z.toNat ((cur s).2.2.2)), (cur s).2.2.2) j : Nat) : Int)) := hm7.trans (by rw [shL_e _ hre, shG_e _ hre])
          refine r_aload_n C dX4_remove_96 rfl rfl ?_
          refine r_get (v := .ref (ad (89))) C (by omega) c13 (show vwCl[4]? = some (RX4, TX4, 15) from rfl) m1 0 (by decide) m0 rfl rfl dX4_remove_97 ?_
          refine r_iconst C ((4 : Nat) : Int) (by decide) dX4_remove_100 ?_
          refine r_dup2 C dX4_remove_101 rfl rfl ?_
          refine r_iald (x := (iI (((cur s).2.2.2 : Nat) : Int))) C (by omega) c15 (4) rfl (by omega) (Nat.le_of_ble_eq_true rfl) (rfl) dX4_remove_102 ?_
          refine r_iconst C ((1 : Nat) : Int) (by decide) dX4_remove_103 ?_
          refine r_isub C (((cur s).2.2.2 - 1 : Nat) : Int) (by omega) dX4_remove_104 ?_
          refine r_iast C (by omega) c15 (4) rfl (by omega) (Nat.le_of_ble_eq_true rfl) dX4_remove_105 (fun f16 hs17 ho18 => ?_)
          have c19 : f16 (89) = eI tc 655 (fun j => iI ((nwF ((cur s).1, (outL (cur s).2.1 z.toNat ((cur s).2.2.2)), (outG (cur s).2.2.1 z.toNat ((cur s).2.2.2)), (cur s).2.2.2 - 1) j : Nat) : Int)) := hs17.trans (congrArg (fun g => eI tc 655 g) (nwU (nwU4 _ _)))
          refine r_aload_n C dX4_remove_106 rfl rfl ?_
          have c20 : f16 (88) = eO 4 [.ref (ad (89)), .ref (ad (90)), .int (iI ((kpush (kno s) : Nat) : Int)), .ref (ad (91)), .ref (ad (92)), .ref (ad (93)), .int (iI ((pln s : Nat) : Int)), .ref (ad (94)), .ref (ad (95)), .ref (ad (96)), .ref (ad (97)), .int (y1), .int (y2), .int (y3), .int (y4)] := (ho18 _ (by omega)).trans c13
          refine r_get (v := .ref (ad (89))) C (by omega) c20 (show vwCl[4]? = some (RX4, TX4, 15) from rfl) m1 0 (by decide) m0 rfl rfl dX4_remove_107 ?_
          refine r_iconst C ((4 : Nat) : Int) (by decide) dX4_remove_110 ?_
          refine r_iald (x := (iI (((cur s).2.2.2 - 1 : Nat) : Int))) C (by omega) c19 (4) rfl (by omega) (Nat.le_of_ble_eq_true rfl) (rfl) dX4_remove_111 ?_
          exact hret f16 (((cur s).2.2.2 - 1 : Nat) : Int) _ _ dX4_remove_112 (by unfold aRem; rw [if_pos (by omega)]) (⟨by unfold nRem; rw [if_pos (by omega)]; exact M_now (s := knowS s) hK c20 c19 (fun q g1 g2 => ((ho18 _ (by omega))).trans (ho8 _ (by omega))), fun q hq => (((ho18 _ (by omega))).trans (ho8 _ (by omega))).trans (hoK _ (by omega))⟩)
        · refine r_aload_n C dX4_remove_28 rfl rfl ?_
          refine r_get (v := .ref (ad (89))) C (by omega) c13 (show vwCl[4]? = some (RX4, TX4, 15) from rfl) m1 0 (by decide) m0 rfl rfl dX4_remove_29 ?_
          refine r_iconst C ((5 : Nat) : Int) (by decide) dX4_remove_32 ?_
          refine r_iload_n C dX4_remove_33 rfl rfl ?_
          refine r_iadd C ((5 + r : Nat) : Int) (by omega) dX4_remove_34 ?_
          refine r_aload_n C dX4_remove_35 rfl rfl ?_
          refine r_get (v := .ref (ad (89))) C (by omega) c13 (show vwCl[4]? = some (RX4, TX4, 15) from rfl) m1 0 (by decide) m0 rfl rfl dX4_remove_36 ?_
          refine r_iconst C ((5 : Nat) : Int) (by decide) dX4_remove_39 ?_
          refine r_iload_n C dX4_remove_40 rfl rfl ?_
          refine r_iadd C ((5 + r : Nat) : Int) (by omega) dX4_remove_41 ?_
          refine r_iconst C ((1 : Nat) : Int) (by decide) dX4_remove_42 ?_
          refine r_iadd C ((5 + r + 1 : Nat) : Int) (by omega) dX4_remove_43 ?_
          refine r_iald (x := (iI (((cur s).2.1 (r + 1) : Nat) : Int))) C (by omega) hm7 (5 + (r + 1)) (by omega) (by omega) (Nat.le_of_ble_eq_true rfl) (congrArg (fun q : Nat => iI ((q : Nat) : Int)) ((nwL (by omega)).trans shL_at)) dX4_remove_44 ?_
          refine r_iast C (by omega) hm7 (5 + r) rfl (by omega) (Nat.le_of_ble_eq_true rfl) dX4_remove_45 (fun f21 hs22 ho23 => ?_)
          have c24 : f21 (89) = eI tc 655 (fun j => iI ((nwF ((cur s).1, (upN ((shL (cur s).2.1 z.toNat r)) (r) ((cur s).2.1 (r + 1))), (shG (cur s).2.2.1 (z.toNat * 64) (r * 64)), (cur s).2.2.2) j : Nat) : Int)) := hs22.trans (congrArg (fun g => eI tc 655 g) (nwU (nwUL _ _ (by omega))))
          refine r_iconst C ((0 : Nat) : Int) (by decide) dX4_remove_46 ?_
          refine r_istore_n (lv' := [(0, .ref (ad (88))), (1, .int (iI ((z.toNat : Nat) : Int))), (2, .int (iI ((r : Nat) : Int))), (3, .int (iI ((0 : Nat) : Int)))]) C dX4_remove_47 rfl (by decide) rfl ?_
          have hL28 : ∀ (m_29 : Nat) (k : Nat) (f25 : Nat → va_E) (hm26 : f25 (89) = eI tc 655 (fun j => iI ((nwF ((cur s).1, (shL (cur s).2.1 z.toNat (r + 1)), (shG (cur s).2.2.1 (z.toNat * 64) (r * 64 + k)), (cur s).2.2.2) j : Nat) : Int))) (ho27 : ∀ q, q ≠ 89 → f25 q = f21 q) (hk : k ≤ 64), 64 - k < m_29 → VV X ad N f25 0 0 48 [(0, .ref (ad (88))), (1, .int (iI ((z.toNat : Nat) : Int))), (2, .int (iI ((r : Nat) : Int))), (3, .int (iI ((k : Nat) : Int)))] [] := by
            intro m_29
            induction m_29 with
            | zero => intros; omega
            | succ m_29 ih30 =>
              intro k f25 hm26 ho27 hk hm31
              refine r_iload_n C dX4_remove_48 rfl rfl ?_
              refine r_bipush C ((64 : Nat) : Int) (by decide) dX4_remove_49 ?_
              refine r_icmp_ge (tgt := 90) C ⟨by omega, by omega⟩ ⟨by omega, by omega⟩ dX4_remove_51 (by decide) (fun b32 => ?_) (fun b32 => ?_)
              · have c33 : f25 89 = eI tc 655 (fun j => iI ((nwF ((cur s).1, (shL (cur s).2.1 z.toNat (r + 1)), (shG (cur s).2.2.1 (z.toNat * 64) ((r + 1) * 64)), (cur s).2.2.2) j : Nat) : Int)) := hm26.trans (by rw [show (r + 1) * 64 = r * 64 + k from by omega])
                refine r_iinc (lv' := [(0, .ref (ad (88))), (1, .int (iI ((z.toNat : Nat) : Int))), (2, .int (iI ((r + 1 : Nat) : Int))), (3, .int (iI ((k : Nat) : Int)))]) C ((r + 1 : Nat) : Int) (by omega) dX4_remove_90 rfl (by decide) rfl ?_
                refine r_goto (tgt := 16) C dX4_remove_93 (by decide) ?_
                refine r_sub (ks := [0, 1, 2]) (lv' := [(0, .ref (ad (88))), (1, .int (iI ((z.toNat : Nat) : Int))), (2, .int (iI ((r + 1 : Nat) : Int)))]) rfl ?_
                exact ih11 (r + 1) f25 c33 (fun q hq => (((ho27 _ (by omega))).trans (ho23 _ (by omega))).trans (ho8 _ (by omega))) (by omega) (by omega) (by omega)
              · refine r_aload_n C dX4_remove_54 rfl rfl ?_
                have c34 : f21 (88) = eO 4 [.ref (ad (89)), .ref (ad (90)), .int (iI ((kpush (kno s) : Nat) : Int)), .ref (ad (91)), .ref (ad (92)), .ref (ad (93)), .int (iI ((pln s : Nat) : Int)), .ref (ad (94)), .ref (ad (95)), .ref (ad (96)), .ref (ad (97)), .int (y1), .int (y2), .int (y3), .int (y4)] := (ho23 _ (by omega)).trans c13
                have c35 : f25 (88) = eO 4 [.ref (ad (89)), .ref (ad (90)), .int (iI ((kpush (kno s) : Nat) : Int)), .ref (ad (91)), .ref (ad (92)), .ref (ad (93)), .int (iI ((pln s : Nat) : Int)), .ref (ad (94)), .ref (ad (95)), .ref (ad (96)), .ref (ad (97)), .int (y1), .int (y2), .int (y3), .int (y4)] := (ho27 _ (by omega)).trans c34
                refine r_get (v := .ref (ad (89))) C (by omega) c35 (show vwCl[4]? = some (RX4, TX4, 15) from rfl) m1 0 (by decide) m0 rfl rfl dX4_remove_55 ?_
                refine r_bipush C ((15 : Nat) : Int) (by decide) dX4_remove_58 ?_
                refine r_bipush C ((64 : Nat) : Int) (by decide) dX4_remove_60 ?_
                refine r_iload_n C dX4_remove_62 rfl rfl ?_
                refine r_imul C ((64 * r : Nat) : Int) (by omega) dX4_remove_63 ?_
                refine r_iadd C ((15 + (64 * r) : Nat) : Int) (by omega) dX4_remove_64 ?_
                refine r_iload_n C dX4_remove_65 rfl rfl ?_
                refine r_iadd C ((15 + (64 * r) + k : Nat) : Int) (by omega) dX4_remove_66 ?_
                refine r_aload_n C dX4_remove_67 rfl rfl ?_
                refine r_get (v := .ref (ad (89))) C (by omega) c35 (show vwCl[4]? = some (RX4, TX4, 15) from rfl) m1 0 (by decide) m0 rfl rfl dX4_remove_68 ?_
                refine r_bipush C ((15 : Nat) : Int) (by decide) dX4_remove_71 ?_
                refine r_bipush C ((64 : Nat) : Int) (by decide) dX4_remove_73 ?_
                refine r_iload_n C dX4_remove_75 rfl rfl ?_
                refine r_iconst C ((1 : Nat) : Int) (by decide) dX4_remove_76 ?_
                refine r_iadd C ((r + 1 : Nat) : Int) (by omega) dX4_remove_77 ?_
                refine r_imul C ((64 * (r + 1) : Nat) : Int) (by omega) dX4_remove_78 ?_
                refine r_iadd C ((15 + (64 * (r + 1)) : Nat) : Int) (by omega) dX4_remove_79 ?_
                refine r_iload_n C dX4_remove_80 rfl rfl ?_
                refine r_iadd C ((15 + (64 * (r + 1)) + k : Nat) : Int) (by omega) dX4_remove_81 ?_
                refine r_iald (x := (iI (((cur s).2.2.1 (r * 64 + k + 64) : Nat) : Int))) C (by omega) hm26 (15 + ((r * 64 + k) + 64)) (by omega) (by omega) (Nat.le_of_ble_eq_true rfl) (congrArg (fun q : Nat => iI ((q : Nat) : Int)) (nwG.trans shG_at)) dX4_remove_82 ?_
                refine r_iast C (by omega) hm26 (15 + (r * 64 + k)) (by omega) (by omega) (Nat.le_of_ble_eq_true rfl) dX4_remove_83 (fun f36 hs37 ho38 => ?_)
                have c39 : f36 (89) = eI tc 655 (fun j => iI ((nwF ((cur s).1, (shL (cur s).2.1 z.toNat (r + 1)), (upN ((shG (cur s).2.2.1 (z.toNat * 64) (r * 64 + k))) (r * 64 + k) ((cur s).2.2.1 (r * 64 + k + 64))), (cur s).2.2.2) j : Nat) : Int)) := hs37.trans (congrArg (fun g => eI tc 655 g) (nwU (nwUG _ _)))
                refine r_iinc (lv' := [(0, .ref (ad (88))), (1, .int (iI ((z.toNat : Nat) : Int))), (2, .int (iI ((r : Nat) : Int))), (3, .int (iI ((k + 1 : Nat) : Int)))]) C ((k + 1 : Nat) : Int) (by omega) dX4_remove_84 rfl (by decide) rfl ?_
                refine r_goto (tgt := 48) C dX4_remove_87 (by decide) ?_
                exact ih30 (k + 1) f36 (c39.trans (by rw [shG_s _ (by omega)]; rfl)) (fun q hq => ((ho38 _ (by omega))).trans (ho27 _ (by omega))) (by omega) (by omega)
          exact hL28 _ 0 f21 (c24.trans (by rw [shL_s _ hr1]; rfl)) (fun _ _ => rfl) (by omega) (Nat.lt_succ_self _)
    exact hL9 _ z.toNat f4 (by rw [shL_0, shG_0]; exact k89) (fun _ _ => rfl) (by omega) (by omega) (Nat.lt_succ_self _)
  · refine r_iconst C ((-1)) (by decide) dX4_remove_8 ?_
    exact hret f ((-1)) _ _ dX4_remove_9 (by unfold aRem; rw [if_neg (by omega)]) (⟨by unfold nRem; rw [if_neg (by omega)]; exact hM, fun _ _ => rfl⟩)
set_option maxHeartbeats 4000000 in
set_option maxRecDepth 100000 in
/-- put -/
theorem c_X4_put (G : va_G) (tc : Nat → ClassId) (l : Launch) (ad : Nat → Nat) (N : Nat) (f : Nat → va_E) (s : SG) (hM : MI tc ad f s) (ho : okS s) (hN : 98 ≤ N) (x : Int64)   : Ct G tc l yX4_put wsX4_put { frames := 1, cells := 0, slots := 0, locals := 22 } 0 0 [.ref (ad (88)), .long (x)] ad N f (poI ad N (aPut s x) (fun f' => MI tc ad f' (nPut s x) ∧ ∀ q, (q < 88 ∨ 98 ≤ q) → f' q = f q)) := by
  obtain ⟨⟨x1, x2, x3, x4, m88⟩, m89', ⟨bb, m90, hbb⟩, ⟨sb, m91, hsb⟩, ⟨ig, m92, hig⟩, m93, ⟨wc, wv, wo, wn, m94, m95, m96, m97⟩⟩ := id hM
  have m89 : f 89 = eI tc 655 (fun j => iI ((nwF ((cur s).1, (cur s).2.1, (cur s).2.2.1, (cur s).2.2.2) j : Nat) : Int)) := m89'
  obtain ⟨⟨⟨a1, a2⟩, ⟨a3, a4⟩, ⟨a5, a6⟩, a7, a8, a9, a10⟩, o2, o3, o4, o5, o6⟩ := id ho
  refine stI (cc := cX4_put) (maxL := 7) (lv := [(0, .ref (ad (88))), (1, .long (x))]) (by decide) rfl (Nat.le_of_ble_eq_true rfl) rfl (fun X C hret => ?_)
  have m0 : Cond.fieldLink RX4 62 "WordSamplesModel" "padded" "I" ∈ wsX4_put := by decide +kernel
  have m1 : ∀ w ∈ wsX40, w ∈ wsX4_put := by decide +kernel
  have m2 : Cond.fieldLink RX4 23 "WordSamplesModel" "pad" "[I" ∈ wsX4_put := by decide +kernel
  have m3 : Cond.constantLong RX4 143 (255) ∈ wsX4_put := by decide +kernel
  refine r_iconst C ((0 : Nat) : Int) (by decide) dX4_put_0 ?_
  refine r_istore_n (lv' := [(0, .ref (ad (88))), (1, .long (x)), (3, .int (iI ((0 : Nat) : Int)))]) C dX4_put_1 rfl (by decide) rfl ?_
  have hL1 : ∀ (m_2 : Nat) (n : Nat) (hn : n ≤ 8) (h0 : ∀ j, j < n → ¬ byt x j = 0), 8 - n < m_2 → VV X ad N f 0 0 2 [(0, .ref (ad (88))), (1, .long (x)), (3, .int (iI ((n : Nat) : Int)))] [] := by
    intro m_2
    induction m_2 with
    | zero => intros; omega
    | succ m_2 ih3 =>
      intro n hn h0 hm4
      refine r_iload_n C dX4_put_2 rfl rfl ?_
      refine r_bipush C ((8 : Nat) : Int) (by decide) dX4_put_3 ?_
      refine r_icmp_ge (tgt := 29) C ⟨by omega, by omega⟩ ⟨by omega, by omega⟩ dX4_put_5 (by decide) (fun b5 => ?_) (fun b5 => ?_)
      · have _hgap : gap x = n := frst_eq hn (fun j hj => decide_eq_false (h0 j hj)) (fun h => decide_eq_true (by omega))
        refine r_iload_n C dX4_put_29 rfl rfl ?_
        refine r_if_le (tgt := 37) C ⟨by omega, by omega⟩ dX4_put_30 (by decide) (fun b6 => ?_) (fun b6 => ?_)
        · refine r_iconst C ((0 : Nat) : Int) (by decide) dX4_put_37 ?_
          refine r_istore (lv' := [(0, .ref (ad (88))), (1, .long (x)), (3, .int (iI ((n : Nat) : Int))), (4, .int (iI ((0 : Nat) : Int)))]) C dX4_put_38 (by decide) rfl ?_
          refine r_iconst C ((0 : Nat) : Int) (by decide) dX4_put_40 ?_
          refine r_istore (lv' := [(0, .ref (ad (88))), (1, .long (x)), (3, .int (iI ((n : Nat) : Int))), (4, .int (iI ((0 : Nat) : Int))), (5, .int (iI ((0 : Nat) : Int)))]) C dX4_put_41 (by decide) rfl ?_
          have hL7 : ∀ (m_8 : Nat) (b : Nat) (k : Nat) (hk : k ≤ 8) (hps : PS x n k b), 8 - k < m_8 → VV X ad N f 0 0 43 [(0, .ref (ad (88))), (1, .long (x)), (3, .int (iI ((n : Nat) : Int))), (4, .int (iI ((b : Nat) : Int))), (5, .int (iI ((k : Nat) : Int)))] [] := by
            intro m_8
            induction m_8 with
            | zero => intros; omega
            | succ m_8 ih9 =>
              intro b k hk hps hm10
              refine r_iload C dX4_put_43 rfl ?_
              refine r_bipush C ((8 : Nat) : Int) (by decide) dX4_put_45 ?_
              refine r_icmp_ge (tgt := 108) C ⟨by omega, by omega⟩ ⟨by omega, by omega⟩ dX4_put_47 (by decide) (fun b11 => ?_) (fun b11 => ?_)
              · have hb1 := ps_le hps
                have hpe := ps_end (n := n) (k := k) (b := b) _hgap (by omega) hps
                refine r_iload C dX4_put_108 rfl ?_
                refine r_if_ne (tgt := 116) C ⟨by omega, by omega⟩ dX4_put_110 (by decide) (fun b12 => ?_) (fun b12 => ?_)
                · have hnc : nch x = n := by omega
                  refine r_aload_n C dX4_put_116 rfl rfl ?_
                  refine r_get (v := .int (iI ((pln s : Nat) : Int))) C (by omega) m88 (show vwCl[4]? = some (RX4, TX4, 15) from rfl) m1 6 (by decide) m0 rfl rfl dX4_put_117 ?_
                  refine r_iload_n C dX4_put_120 rfl rfl ?_
                  refine r_iadd C ((pln s + n : Nat) : Int) (by omega) dX4_put_121 ?_
                  refine r_bipush C ((64 : Nat) : Int) (by decide) dX4_put_122 ?_
                  refine r_icmp_le (tgt := 130) C ⟨by omega, by omega⟩ ⟨by omega, by omega⟩ dX4_put_124 (by decide) (fun b13 => ?_) (fun b13 => ?_)
                  · refine r_iload_n C dX4_put_130 rfl rfl ?_
                    refine r_iconst C ((1 : Nat) : Int) (by decide) dX4_put_131 ?_
                    refine r_isub C (((n : Nat) : Int) - 1 - ((0 : Nat) : Int)) (by omega) dX4_put_132 ?_
                    refine r_istore (lv' := [(0, .ref (ad (88))), (1, .long (x)), (3, .int (iI ((n : Nat) : Int))), (4, .int (iI ((b : Nat) : Int))), (5, .int (iI (((n : Nat) : Int) - 1 - ((0 : Nat) : Int))))]) C dX4_put_133 (by decide) rfl ?_
                    have hL18 : ∀ (m_19 : Nat) (m : Nat) (f14 : Nat → va_E) (hm15 : f14 (88) = eO 4 [.ref (ad (89)), .ref (ad (90)), .int (iI ((kno s : Nat) : Int)), .ref (ad (91)), .ref (ad (92)), .ref (ad (93)), .int (iI ((pln s + m : Nat) : Int)), .ref (ad (94)), .ref (ad (95)), .ref (ad (96)), .ref (ad (97)), .int (x1), .int (x2), .int (x3), .int (x4)]) (hm16 : f14 (93) = eI tc 64 (fun j => iI (((putF (pad s) (pln s) x n m) j : Nat) : Int))) (ho17 : ∀ q, (q ≠ 88 ∧ q ≠ 93) → f14 q = f q) (hm1 : m ≤ n), n - m < m_19 → VV X ad N f14 0 0 135 [(0, .ref (ad (88))), (1, .long (x)), (3, .int (iI ((n : Nat) : Int))), (5, .int (iI (((n : Nat) : Int) - 1 - ((m : Nat) : Int))))] [] := by
                      intro m_19
                      induction m_19 with
                      | zero => intros; omega
                      | succ m_19 ih20 =>
                        intro m f14 hm15 hm16 ho17 hm1 hm21
                        refine r_iload C dX4_put_135 rfl ?_
                        refine r_if_lt (tgt := 177) C ⟨by omega, by omega⟩ dX4_put_137 (by decide) (fun b22 => ?_) (fun b22 => ?_)
                        · refine r_aload_n C dX4_put_177 rfl rfl ?_
                          refine r_get (v := .int (iI ((pln s + m : Nat) : Int))) C (by omega) hm15 (show vwCl[4]? = some (RX4, TX4, 15) from rfl) m1 6 (by decide) m0 rfl rfl dX4_put_178 ?_
                          have hme : m = n := by omega
                          subst hme
                          exact hret f14 ((pln s + m : Nat) : Int) _ _ dX4_put_181 (by unfold aPut; rw [hnc, if_neg (by omega), if_pos (by omega)]) (⟨by unfold nPut; rw [hnc, if_pos ⟨by omega, by omega⟩]; exact M_pad hM hm15 hm16 (fun q g1 g2 g3 => (ho17 _ (by omega))), fun q hq => (ho17 _ (by omega))⟩)
                        · refine r_aload_n C dX4_put_140 rfl rfl ?_
                          refine r_get (v := .ref (ad (93))) C (by omega) hm15 (show vwCl[4]? = some (RX4, TX4, 15) from rfl) m1 5 (by decide) m2 rfl rfl dX4_put_141 ?_
                          refine r_aload_n C dX4_put_144 rfl rfl ?_
                          refine r_get (v := .int (iI ((pln s + m : Nat) : Int))) C (by omega) hm15 (show vwCl[4]? = some (RX4, TX4, 15) from rfl) m1 6 (by decide) m0 rfl rfl dX4_put_145 ?_
                          refine r_lload_n C dX4_put_148 rfl rfl ?_
                          refine r_bipush C ((8 : Nat) : Int) (by decide) dX4_put_149 ?_
                          refine r_iload C dX4_put_151 rfl ?_
                          refine r_imul C ((8 * (n - 1 - m) : Nat) : Int) (by omega) dX4_put_153 ?_
                          refine r_lshr C dX4_put_154 ?_
                          refine r_ldc2 C 255 (by decide) m3 dX4_put_155 ?_
                          refine r_land C dX4_put_158 ?_
                          rw [show (.long (((x) >>> (((iI ((8 * (n - 1 - m) : Nat) : Int))).toInt64 &&& 63)) &&& (jI 255)) : Value) = .long (jI ((byt x (n - 1 - m) : Nat) : Int)) from by rw [byt_s x (by omega)]]
                          have q3 := byt_lt x (n - 1 - m)
                          refine r_l2i C dX4_put_159 ?_
                          rw [show (.int ((jI ((byt x (n - 1 - m) : Nat) : Int)).toInt32) : Value) = .int (iI ((byt x (n - 1 - m) : Nat) : Int)) from by rw [jI_int (by omega)]]
                          refine r_iast C (by omega) hm16 (pln s + m) rfl (by omega) (Nat.le_of_ble_eq_true rfl) dX4_put_160 (fun f23 hs24 ho25 => ?_)
                          have c26 : f23 (93) = eI tc 64 (fun j => iI (((upN ((putF (pad s) (pln s) x n m)) (pln s + m) (byt x (n - 1 - m))) j : Nat) : Int)) := hs24.trans (congrArg (fun g => eI tc 64 g) (updN _ _ _))
                          refine r_aload_n C dX4_put_161 rfl rfl ?_
                          refine r_dup C dX4_put_162 rfl ?_
                          have c27 : f23 (88) = eO 4 [.ref (ad (89)), .ref (ad (90)), .int (iI ((kno s : Nat) : Int)), .ref (ad (91)), .ref (ad (92)), .ref (ad (93)), .int (iI ((pln s + m : Nat) : Int)), .ref (ad (94)), .ref (ad (95)), .ref (ad (96)), .ref (ad (97)), .int (x1), .int (x2), .int (x3), .int (x4)] := (ho25 _ (by omega)).trans hm15
                          refine r_get (v := .int (iI ((pln s + m : Nat) : Int))) C (by omega) c27 (show vwCl[4]? = some (RX4, TX4, 15) from rfl) m1 6 (by decide) m0 rfl rfl dX4_put_163 ?_
                          refine r_iconst C ((1 : Nat) : Int) (by decide) dX4_put_166 ?_
                          refine r_iadd C ((pln s + m + 1 : Nat) : Int) (by omega) dX4_put_167 ?_
                          refine r_put (ty := .int) C (by omega) c27 (show vwCl[4]? = some (RX4, TX4, 15) from rfl) m1 tyX4_ok nmX4 6 (by decide) m0 rfl rfl (by decide +kernel) rfl rfl (Nat.le_of_ble_eq_true rfl) dX4_put_168 (fun f28 hs29 ho30 => ?_)
                          have c31 : f28 (88) = eO 4 [.ref (ad (89)), .ref (ad (90)), .int (iI ((kno s : Nat) : Int)), .ref (ad (91)), .ref (ad (92)), .ref (ad (93)), .int (iI ((pln s + m + 1 : Nat) : Int)), .ref (ad (94)), .ref (ad (95)), .ref (ad (96)), .ref (ad (97)), .int (x1), .int (x2), .int (x3), .int (x4)] := hs29
                          refine r_iinc (lv' := [(0, .ref (ad (88))), (1, .long (x)), (3, .int (iI ((n : Nat) : Int))), (5, .int (iI (((n : Nat) : Int) - 1 - ((m + 1 : Nat) : Int))))]) C (((n : Nat) : Int) - 1 - ((m + 1 : Nat) : Int)) (by omega) dX4_put_171 rfl (by decide) rfl ?_
                          refine r_goto (tgt := 135) C dX4_put_174 (by decide) ?_
                          have c32 : f28 (93) = eI tc 64 (fun j => iI (((upN ((putF (pad s) (pln s) x n m)) (pln s + m) (byt x (n - 1 - m))) j : Nat) : Int)) := (ho30 _ (by omega)).trans c26
                          exact ih20 (m + 1) f28 c31 (c32.trans (by rw [putF_s])) (fun q hq => (((ho30 _ (by omega))).trans (ho25 _ (by omega))).trans (ho17 _ (by omega))) (by omega) (by omega)
                    refine r_sub (ks := [0, 1, 2, 4]) (lv' := [(0, .ref (ad (88))), (1, .long (x)), (3, .int (iI ((n : Nat) : Int))), (5, .int (iI (((n : Nat) : Int) - 1 - ((0 : Nat) : Int))))]) rfl ?_
                    exact hL18 _ 0 f m88 (by rw [putF_0]; exact m93) (fun _ _ => rfl) (by omega) (Nat.lt_succ_self _)
                  · refine r_bipush C ((-4)) (by decide) dX4_put_127 ?_
                    exact hret f ((-4)) _ _ dX4_put_129 (by unfold aPut; rw [if_neg (by omega), if_neg (by omega)]) (⟨by unfold nPut; rw [if_neg (by omega)]; exact hM, fun _ _ => rfl⟩)
                · refine r_bipush C ((-2)) (by decide) dX4_put_113 ?_
                  exact hret f ((-2)) _ _ dX4_put_115 (by unfold aPut; rw [if_pos (by omega)]) (⟨by unfold nPut; rw [if_neg (by omega)]; exact hM, fun _ _ => rfl⟩)
              · refine r_lload_n C dX4_put_50 rfl rfl ?_
                refine r_bipush C ((8 : Nat) : Int) (by decide) dX4_put_51 ?_
                refine r_iload C dX4_put_53 rfl ?_
                refine r_imul C ((8 * k : Nat) : Int) (by omega) dX4_put_55 ?_
                refine r_lshr C dX4_put_56 ?_
                refine r_ldc2 C 255 (by decide) m3 dX4_put_57 ?_
                refine r_land C dX4_put_60 ?_
                rw [show (.long (((x) >>> (((iI ((8 * k : Nat) : Int))).toInt64 &&& 63)) &&& (jI 255)) : Value) = .long (jI ((byt x k : Nat) : Int)) from by rw [byt_s x (by omega)]]
                have q2 := byt_lt x k
                refine r_l2i C dX4_put_61 ?_
                rw [show (.int ((jI ((byt x k : Nat) : Int)).toInt32) : Value) = .int (iI ((byt x k : Nat) : Int)) from by rw [jI_int (by omega)]]
                refine r_istore (lv' := [(0, .ref (ad (88))), (1, .long (x)), (3, .int (iI ((n : Nat) : Int))), (4, .int (iI ((b : Nat) : Int))), (5, .int (iI ((k : Nat) : Int))), (6, .int (iI ((byt x k : Nat) : Int)))]) C dX4_put_62 (by decide) rfl ?_
                have hb1 := ps_le hps
                refine r_iload C dX4_put_64 rfl ?_
                refine r_if_eq (tgt := 99) C ⟨by omega, by omega⟩ dX4_put_66 (by decide) (fun b33 => ?_) (fun b33 => ?_)
                · refine r_iconst C ((0 : Nat) : Int) (by decide) dX4_put_99 ?_
                  refine r_istore (lv' := [(0, .ref (ad (88))), (1, .long (x)), (3, .int (iI ((n : Nat) : Int))), (4, .int (iI ((0 : Nat) : Int))), (5, .int (iI ((k : Nat) : Int))), (6, .int (iI ((byt x k : Nat) : Int)))]) C dX4_put_100 (by decide) rfl ?_
                  refine r_iinc (lv' := [(0, .ref (ad (88))), (1, .long (x)), (3, .int (iI ((n : Nat) : Int))), (4, .int (iI ((0 : Nat) : Int))), (5, .int (iI ((k + 1 : Nat) : Int))), (6, .int (iI ((byt x k : Nat) : Int)))]) C ((k + 1 : Nat) : Int) (by omega) dX4_put_102 rfl (by decide) rfl ?_
                  refine r_goto (tgt := 43) C dX4_put_105 (by decide) ?_
                  refine r_sub (ks := [0, 1, 2, 3, 4]) (lv' := [(0, .ref (ad (88))), (1, .long (x)), (3, .int (iI ((n : Nat) : Int))), (4, .int (iI ((0 : Nat) : Int))), (5, .int (iI ((k + 1 : Nat) : Int)))]) rfl ?_
                  exact ih9 0 (k + 1) (by omega) (ps_0 hps (by unfold PC; omega)) (by omega)
                · refine r_iload C dX4_put_69 rfl ?_
                  refine r_iload_n C dX4_put_71 rfl rfl ?_
                  refine r_icmp_ge (tgt := 90) C ⟨by omega, by omega⟩ ⟨by omega, by omega⟩ dX4_put_72 (by decide) (fun b34 => ?_) (fun b34 => ?_)
                  · refine r_iload C dX4_put_90 rfl ?_
                    refine r_if_ne (tgt := 99) C ⟨by omega, by omega⟩ dX4_put_92 (by decide) (fun b35 => ?_) (fun b35 => ?_)
                    · refine r_iconst C ((0 : Nat) : Int) (by decide) dX4_put_99 ?_
                      refine r_istore (lv' := [(0, .ref (ad (88))), (1, .long (x)), (3, .int (iI ((n : Nat) : Int))), (4, .int (iI ((0 : Nat) : Int))), (5, .int (iI ((k : Nat) : Int))), (6, .int (iI ((byt x k : Nat) : Int)))]) C dX4_put_100 (by decide) rfl ?_
                      refine r_iinc (lv' := [(0, .ref (ad (88))), (1, .long (x)), (3, .int (iI ((n : Nat) : Int))), (4, .int (iI ((0 : Nat) : Int))), (5, .int (iI ((k + 1 : Nat) : Int))), (6, .int (iI ((byt x k : Nat) : Int)))]) C ((k + 1 : Nat) : Int) (by omega) dX4_put_102 rfl (by decide) rfl ?_
                      refine r_goto (tgt := 43) C dX4_put_105 (by decide) ?_
                      refine r_sub (ks := [0, 1, 2, 3, 4]) (lv' := [(0, .ref (ad (88))), (1, .long (x)), (3, .int (iI ((n : Nat) : Int))), (4, .int (iI ((0 : Nat) : Int))), (5, .int (iI ((k + 1 : Nat) : Int)))]) rfl ?_
                      exact ih9 0 (k + 1) (by omega) (ps_0 hps (by unfold PC; omega)) (by omega)
                    · refine r_iconst C ((1 : Nat) : Int) (by decide) dX4_put_95 ?_
                      refine r_goto (tgt := 100) C dX4_put_96 (by decide) ?_
                      refine r_istore (lv' := [(0, .ref (ad (88))), (1, .long (x)), (3, .int (iI ((n : Nat) : Int))), (4, .int (iI ((1 : Nat) : Int))), (5, .int (iI ((k : Nat) : Int))), (6, .int (iI ((byt x k : Nat) : Int)))]) C dX4_put_100 (by decide) rfl ?_
                      refine r_iinc (lv' := [(0, .ref (ad (88))), (1, .long (x)), (3, .int (iI ((n : Nat) : Int))), (4, .int (iI ((1 : Nat) : Int))), (5, .int (iI ((k + 1 : Nat) : Int))), (6, .int (iI ((byt x k : Nat) : Int)))]) C ((k + 1 : Nat) : Int) (by omega) dX4_put_102 rfl (by decide) rfl ?_
                      refine r_goto (tgt := 43) C dX4_put_105 (by decide) ?_
                      refine r_sub (ks := [0, 1, 2, 3, 4]) (lv' := [(0, .ref (ad (88))), (1, .long (x)), (3, .int (iI ((n : Nat) : Int))), (4, .int (iI ((1 : Nat) : Int))), (5, .int (iI ((k + 1 : Nat) : Int)))]) rfl ?_
                      exact ih9 1 (k + 1) (by omega) (ps_1 hps (by omega) (by unfold PC; omega)) (by omega)
                  · refine r_iload C dX4_put_75 rfl ?_
                    refine r_bipush C ((33 : Nat) : Int) (by decide) dX4_put_77 ?_
                    refine r_bipush C ((126 : Nat) : Int) (by decide) dX4_put_79 ?_
                    refine r_callS (As := [.int (iI ((byt x k : Nat) : Int)), .int (iI ((33 : Nat) : Int)), .int (iI ((126 : Nat) : Int))]) (rest := []) (na := 3) C (c_X4_in G tc l ad N _ ((byt x k : Nat) : Int) ((33 : Nat) : Int) ((126 : Nat) : Int) ⟨by omega, by omega⟩ ⟨by omega, by omega⟩ ⟨by omega, by omega⟩) gX4_put_X4_in rfl rfl rfl (by decide +kernel) ⟨Nat.le_of_ble_eq_true rfl, Nat.le_of_ble_eq_true rfl⟩ rfl rfl (Nat.le_of_ble_eq_true rfl) dX4_put_81 ⟨Nat.le_of_ble_eq_true rfl, Nat.le_of_ble_eq_true rfl⟩ (aft_I (fun f36 hF37 => ?_))
                    rw [hF37]
                    refine r_if_eq (tgt := 99) C ⟨by omega, by omega⟩ dX4_put_84 (by decide) (fun b38 => ?_) (fun b38 => ?_)
                    · refine r_iconst C ((0 : Nat) : Int) (by decide) dX4_put_99 ?_
                      refine r_istore (lv' := [(0, .ref (ad (88))), (1, .long (x)), (3, .int (iI ((n : Nat) : Int))), (4, .int (iI ((0 : Nat) : Int))), (5, .int (iI ((k : Nat) : Int))), (6, .int (iI ((byt x k : Nat) : Int)))]) C dX4_put_100 (by decide) rfl ?_
                      refine r_iinc (lv' := [(0, .ref (ad (88))), (1, .long (x)), (3, .int (iI ((n : Nat) : Int))), (4, .int (iI ((0 : Nat) : Int))), (5, .int (iI ((k + 1 : Nat) : Int))), (6, .int (iI ((byt x k : Nat) : Int)))]) C ((k + 1 : Nat) : Int) (by omega) dX4_put_102 rfl (by decide) rfl ?_
                      refine r_goto (tgt := 43) C dX4_put_105 (by decide) ?_
                      refine r_sub (ks := [0, 1, 2, 3, 4]) (lv' := [(0, .ref (ad (88))), (1, .long (x)), (3, .int (iI ((n : Nat) : Int))), (4, .int (iI ((0 : Nat) : Int))), (5, .int (iI ((k + 1 : Nat) : Int)))]) rfl ?_
                      exact ih9 0 (k + 1) (by omega) (ps_0 hps (by unfold PC; omega)) (by omega)
                    · refine r_goto (tgt := 95) C dX4_put_87 (by decide) ?_
                      refine r_iconst C ((1 : Nat) : Int) (by decide) dX4_put_95 ?_
                      refine r_goto (tgt := 100) C dX4_put_96 (by decide) ?_
                      refine r_istore (lv' := [(0, .ref (ad (88))), (1, .long (x)), (3, .int (iI ((n : Nat) : Int))), (4, .int (iI ((1 : Nat) : Int))), (5, .int (iI ((k : Nat) : Int))), (6, .int (iI ((byt x k : Nat) : Int)))]) C dX4_put_100 (by decide) rfl ?_
                      refine r_iinc (lv' := [(0, .ref (ad (88))), (1, .long (x)), (3, .int (iI ((n : Nat) : Int))), (4, .int (iI ((1 : Nat) : Int))), (5, .int (iI ((k + 1 : Nat) : Int))), (6, .int (iI ((byt x k : Nat) : Int)))]) C ((k + 1 : Nat) : Int) (by omega) dX4_put_102 rfl (by decide) rfl ?_
                      refine r_goto (tgt := 43) C dX4_put_105 (by decide) ?_
                      refine r_sub (ks := [0, 1, 2, 3, 4]) (lv' := [(0, .ref (ad (88))), (1, .long (x)), (3, .int (iI ((n : Nat) : Int))), (4, .int (iI ((1 : Nat) : Int))), (5, .int (iI ((k + 1 : Nat) : Int)))]) rfl ?_
                      exact ih9 1 (k + 1) (by omega) (ps_1 hps (by omega) (by unfold PC; omega)) (by omega)
          exact hL7 _ 0 0 (by omega) (Or.inr ⟨rfl, Or.inl (by omega)⟩) (Nat.lt_succ_self _)
        · refine r_iconst C ((1 : Nat) : Int) (by decide) dX4_put_33 ?_
          refine r_goto (tgt := 38) C dX4_put_34 (by decide) ?_
          refine r_istore (lv' := [(0, .ref (ad (88))), (1, .long (x)), (3, .int (iI ((n : Nat) : Int))), (4, .int (iI ((1 : Nat) : Int)))]) C dX4_put_38 (by decide) rfl ?_
          refine r_iconst C ((0 : Nat) : Int) (by decide) dX4_put_40 ?_
          refine r_istore (lv' := [(0, .ref (ad (88))), (1, .long (x)), (3, .int (iI ((n : Nat) : Int))), (4, .int (iI ((1 : Nat) : Int))), (5, .int (iI ((0 : Nat) : Int)))]) C dX4_put_41 (by decide) rfl ?_
          have hL39 : ∀ (m_40 : Nat) (b : Nat) (k : Nat) (hk : k ≤ 8) (hps : PS x n k b), 8 - k < m_40 → VV X ad N f 0 0 43 [(0, .ref (ad (88))), (1, .long (x)), (3, .int (iI ((n : Nat) : Int))), (4, .int (iI ((b : Nat) : Int))), (5, .int (iI ((k : Nat) : Int)))] [] := by
            intro m_40
            induction m_40 with
            | zero => intros; omega
            | succ m_40 ih41 =>
              intro b k hk hps hm42
              refine r_iload C dX4_put_43 rfl ?_
              refine r_bipush C ((8 : Nat) : Int) (by decide) dX4_put_45 ?_
              refine r_icmp_ge (tgt := 108) C ⟨by omega, by omega⟩ ⟨by omega, by omega⟩ dX4_put_47 (by decide) (fun b43 => ?_) (fun b43 => ?_)
              · have hb1 := ps_le hps
                have hpe := ps_end (n := n) (k := k) (b := b) _hgap (by omega) hps
                refine r_iload C dX4_put_108 rfl ?_
                refine r_if_ne (tgt := 116) C ⟨by omega, by omega⟩ dX4_put_110 (by decide) (fun b44 => ?_) (fun b44 => ?_)
                · have hnc : nch x = n := by omega
                  refine r_aload_n C dX4_put_116 rfl rfl ?_
                  refine r_get (v := .int (iI ((pln s : Nat) : Int))) C (by omega) m88 (show vwCl[4]? = some (RX4, TX4, 15) from rfl) m1 6 (by decide) m0 rfl rfl dX4_put_117 ?_
                  refine r_iload_n C dX4_put_120 rfl rfl ?_
                  refine r_iadd C ((pln s + n : Nat) : Int) (by omega) dX4_put_121 ?_
                  refine r_bipush C ((64 : Nat) : Int) (by decide) dX4_put_122 ?_
                  refine r_icmp_le (tgt := 130) C ⟨by omega, by omega⟩ ⟨by omega, by omega⟩ dX4_put_124 (by decide) (fun b45 => ?_) (fun b45 => ?_)
                  · refine r_iload_n C dX4_put_130 rfl rfl ?_
                    refine r_iconst C ((1 : Nat) : Int) (by decide) dX4_put_131 ?_
                    refine r_isub C (((n : Nat) : Int) - 1 - ((0 : Nat) : Int)) (by omega) dX4_put_132 ?_
                    refine r_istore (lv' := [(0, .ref (ad (88))), (1, .long (x)), (3, .int (iI ((n : Nat) : Int))), (4, .int (iI ((b : Nat) : Int))), (5, .int (iI (((n : Nat) : Int) - 1 - ((0 : Nat) : Int))))]) C dX4_put_133 (by decide) rfl ?_
                    have hL50 : ∀ (m_51 : Nat) (m : Nat) (f46 : Nat → va_E) (hm47 : f46 (88) = eO 4 [.ref (ad (89)), .ref (ad (90)), .int (iI ((kno s : Nat) : Int)), .ref (ad (91)), .ref (ad (92)), .ref (ad (93)), .int (iI ((pln s + m : Nat) : Int)), .ref (ad (94)), .ref (ad (95)), .ref (ad (96)), .ref (ad (97)), .int (x1), .int (x2), .int (x3), .int (x4)]) (hm48 : f46 (93) = eI tc 64 (fun j => iI (((putF (pad s) (pln s) x n m) j : Nat) : Int))) (ho49 : ∀ q, (q ≠ 88 ∧ q ≠ 93) → f46 q = f q) (hm1 : m ≤ n), n - m < m_51 → VV X ad N f46 0 0 135 [(0, .ref (ad (88))), (1, .long (x)), (3, .int (iI ((n : Nat) : Int))), (5, .int (iI (((n : Nat) : Int) - 1 - ((m : Nat) : Int))))] [] := by
                      intro m_51
                      induction m_51 with
                      | zero => intros; omega
                      | succ m_51 ih52 =>
                        intro m f46 hm47 hm48 ho49 hm1 hm53
                        refine r_iload C dX4_put_135 rfl ?_
                        refine r_if_lt (tgt := 177) C ⟨by omega, by omega⟩ dX4_put_137 (by decide) (fun b54 => ?_) (fun b54 => ?_)
                        · refine r_aload_n C dX4_put_177 rfl rfl ?_
                          refine r_get (v := .int (iI ((pln s + m : Nat) : Int))) C (by omega) hm47 (show vwCl[4]? = some (RX4, TX4, 15) from rfl) m1 6 (by decide) m0 rfl rfl dX4_put_178 ?_
                          have hme : m = n := by omega
                          subst hme
                          exact hret f46 ((pln s + m : Nat) : Int) _ _ dX4_put_181 (by unfold aPut; rw [hnc, if_neg (by omega), if_pos (by omega)]) (⟨by unfold nPut; rw [hnc, if_pos ⟨by omega, by omega⟩]; exact M_pad hM hm47 hm48 (fun q g1 g2 g3 => (ho49 _ (by omega))), fun q hq => (ho49 _ (by omega))⟩)
                        · refine r_aload_n C dX4_put_140 rfl rfl ?_
                          refine r_get (v := .ref (ad (93))) C (by omega) hm47 (show vwCl[4]? = some (RX4, TX4, 15) from rfl) m1 5 (by decide) m2 rfl rfl dX4_put_141 ?_
                          refine r_aload_n C dX4_put_144 rfl rfl ?_
                          refine r_get (v := .int (iI ((pln s + m : Nat) : Int))) C (by omega) hm47 (show vwCl[4]? = some (RX4, TX4, 15) from rfl) m1 6 (by decide) m0 rfl rfl dX4_put_145 ?_
                          refine r_lload_n C dX4_put_148 rfl rfl ?_
                          refine r_bipush C ((8 : Nat) : Int) (by decide) dX4_put_149 ?_
                          refine r_iload C dX4_put_151 rfl ?_
                          refine r_imul C ((8 * (n - 1 - m) : Nat) : Int) (by omega) dX4_put_153 ?_
                          refine r_lshr C dX4_put_154 ?_
                          refine r_ldc2 C 255 (by decide) m3 dX4_put_155 ?_
                          refine r_land C dX4_put_158 ?_
                          rw [show (.long (((x) >>> (((iI ((8 * (n - 1 - m) : Nat) : Int))).toInt64 &&& 63)) &&& (jI 255)) : Value) = .long (jI ((byt x (n - 1 - m) : Nat) : Int)) from by rw [byt_s x (by omega)]]
                          have q3 := byt_lt x (n - 1 - m)
                          refine r_l2i C dX4_put_159 ?_
                          rw [show (.int ((jI ((byt x (n - 1 - m) : Nat) : Int)).toInt32) : Value) = .int (iI ((byt x (n - 1 - m) : Nat) : Int)) from by rw [jI_int (by omega)]]
                          refine r_iast C (by omega) hm48 (pln s + m) rfl (by omega) (Nat.le_of_ble_eq_true rfl) dX4_put_160 (fun f55 hs56 ho57 => ?_)
                          have c58 : f55 (93) = eI tc 64 (fun j => iI (((upN ((putF (pad s) (pln s) x n m)) (pln s + m) (byt x (n - 1 - m))) j : Nat) : Int)) := hs56.trans (congrArg (fun g => eI tc 64 g) (updN _ _ _))
                          refine r_aload_n C dX4_put_161 rfl rfl ?_
                          refine r_dup C dX4_put_162 rfl ?_
                          have c59 : f55 (88) = eO 4 [.ref (ad (89)), .ref (ad (90)), .int (iI ((kno s : Nat) : Int)), .ref (ad (91)), .ref (ad (92)), .ref (ad (93)), .int (iI ((pln s + m : Nat) : Int)), .ref (ad (94)), .ref (ad (95)), .ref (ad (96)), .ref (ad (97)), .int (x1), .int (x2), .int (x3), .int (x4)] := (ho57 _ (by omega)).trans hm47
                          refine r_get (v := .int (iI ((pln s + m : Nat) : Int))) C (by omega) c59 (show vwCl[4]? = some (RX4, TX4, 15) from rfl) m1 6 (by decide) m0 rfl rfl dX4_put_163 ?_
                          refine r_iconst C ((1 : Nat) : Int) (by decide) dX4_put_166 ?_
                          refine r_iadd C ((pln s + m + 1 : Nat) : Int) (by omega) dX4_put_167 ?_
                          refine r_put (ty := .int) C (by omega) c59 (show vwCl[4]? = some (RX4, TX4, 15) from rfl) m1 tyX4_ok nmX4 6 (by decide) m0 rfl rfl (by decide +kernel) rfl rfl (Nat.le_of_ble_eq_true rfl) dX4_put_168 (fun f60 hs61 ho62 => ?_)
                          have c63 : f60 (88) = eO 4 [.ref (ad (89)), .ref (ad (90)), .int (iI ((kno s : Nat) : Int)), .ref (ad (91)), .ref (ad (92)), .ref (ad (93)), .int (iI ((pln s + m + 1 : Nat) : Int)), .ref (ad (94)), .ref (ad (95)), .ref (ad (96)), .ref (ad (97)), .int (x1), .int (x2), .int (x3), .int (x4)] := hs61
                          refine r_iinc (lv' := [(0, .ref (ad (88))), (1, .long (x)), (3, .int (iI ((n : Nat) : Int))), (5, .int (iI (((n : Nat) : Int) - 1 - ((m + 1 : Nat) : Int))))]) C (((n : Nat) : Int) - 1 - ((m + 1 : Nat) : Int)) (by omega) dX4_put_171 rfl (by decide) rfl ?_
                          refine r_goto (tgt := 135) C dX4_put_174 (by decide) ?_
                          have c64 : f60 (93) = eI tc 64 (fun j => iI (((upN ((putF (pad s) (pln s) x n m)) (pln s + m) (byt x (n - 1 - m))) j : Nat) : Int)) := (ho62 _ (by omega)).trans c58
                          exact ih52 (m + 1) f60 c63 (c64.trans (by rw [putF_s])) (fun q hq => (((ho62 _ (by omega))).trans (ho57 _ (by omega))).trans (ho49 _ (by omega))) (by omega) (by omega)
                    refine r_sub (ks := [0, 1, 2, 4]) (lv' := [(0, .ref (ad (88))), (1, .long (x)), (3, .int (iI ((n : Nat) : Int))), (5, .int (iI (((n : Nat) : Int) - 1 - ((0 : Nat) : Int))))]) rfl ?_
                    exact hL50 _ 0 f m88 (by rw [putF_0]; exact m93) (fun _ _ => rfl) (by omega) (Nat.lt_succ_self _)
                  · refine r_bipush C ((-4)) (by decide) dX4_put_127 ?_
                    exact hret f ((-4)) _ _ dX4_put_129 (by unfold aPut; rw [if_neg (by omega), if_neg (by omega)]) (⟨by unfold nPut; rw [if_neg (by omega)]; exact hM, fun _ _ => rfl⟩)
                · refine r_bipush C ((-2)) (by decide) dX4_put_113 ?_
                  exact hret f ((-2)) _ _ dX4_put_115 (by unfold aPut; rw [if_pos (by omega)]) (⟨by unfold nPut; rw [if_neg (by omega)]; exact hM, fun _ _ => rfl⟩)
              · refine r_lload_n C dX4_put_50 rfl rfl ?_
                refine r_bipush C ((8 : Nat) : Int) (by decide) dX4_put_51 ?_
                refine r_iload C dX4_put_53 rfl ?_
                refine r_imul C ((8 * k : Nat) : Int) (by omega) dX4_put_55 ?_
                refine r_lshr C dX4_put_56 ?_
                refine r_ldc2 C 255 (by decide) m3 dX4_put_57 ?_
                refine r_land C dX4_put_60 ?_
                rw [show (.long (((x) >>> (((iI ((8 * k : Nat) : Int))).toInt64 &&& 63)) &&& (jI 255)) : Value) = .long (jI ((byt x k : Nat) : Int)) from by rw [byt_s x (by omega)]]
                have q2 := byt_lt x k
                refine r_l2i C dX4_put_61 ?_
                rw [show (.int ((jI ((byt x k : Nat) : Int)).toInt32) : Value) = .int (iI ((byt x k : Nat) : Int)) from by rw [jI_int (by omega)]]
                refine r_istore (lv' := [(0, .ref (ad (88))), (1, .long (x)), (3, .int (iI ((n : Nat) : Int))), (4, .int (iI ((b : Nat) : Int))), (5, .int (iI ((k : Nat) : Int))), (6, .int (iI ((byt x k : Nat) : Int)))]) C dX4_put_62 (by decide) rfl ?_
                have hb1 := ps_le hps
                refine r_iload C dX4_put_64 rfl ?_
                refine r_if_eq (tgt := 99) C ⟨by omega, by omega⟩ dX4_put_66 (by decide) (fun b65 => ?_) (fun b65 => ?_)
                · refine r_iconst C ((0 : Nat) : Int) (by decide) dX4_put_99 ?_
                  refine r_istore (lv' := [(0, .ref (ad (88))), (1, .long (x)), (3, .int (iI ((n : Nat) : Int))), (4, .int (iI ((0 : Nat) : Int))), (5, .int (iI ((k : Nat) : Int))), (6, .int (iI ((byt x k : Nat) : Int)))]) C dX4_put_100 (by decide) rfl ?_
                  refine r_iinc (lv' := [(0, .ref (ad (88))), (1, .long (x)), (3, .int (iI ((n : Nat) : Int))), (4, .int (iI ((0 : Nat) : Int))), (5, .int (iI ((k + 1 : Nat) : Int))), (6, .int (iI ((byt x k : Nat) : Int)))]) C ((k + 1 : Nat) : Int) (by omega) dX4_put_102 rfl (by decide) rfl ?_
                  refine r_goto (tgt := 43) C dX4_put_105 (by decide) ?_
                  refine r_sub (ks := [0, 1, 2, 3, 4]) (lv' := [(0, .ref (ad (88))), (1, .long (x)), (3, .int (iI ((n : Nat) : Int))), (4, .int (iI ((0 : Nat) : Int))), (5, .int (iI ((k + 1 : Nat) : Int)))]) rfl ?_
                  exact ih41 0 (k + 1) (by omega) (ps_0 hps (by unfold PC; omega)) (by omega)
                · refine r_iload C dX4_put_69 rfl ?_
                  refine r_iload_n C dX4_put_71 rfl rfl ?_
                  refine r_icmp_ge (tgt := 90) C ⟨by omega, by omega⟩ ⟨by omega, by omega⟩ dX4_put_72 (by decide) (fun b66 => ?_) (fun b66 => ?_)
                  · refine r_iload C dX4_put_90 rfl ?_
                    refine r_if_ne (tgt := 99) C ⟨by omega, by omega⟩ dX4_put_92 (by decide) (fun b67 => ?_) (fun b67 => ?_)
                    · refine r_iconst C ((0 : Nat) : Int) (by decide) dX4_put_99 ?_
                      refine r_istore (lv' := [(0, .ref (ad (88))), (1, .long (x)), (3, .int (iI ((n : Nat) : Int))), (4, .int (iI ((0 : Nat) : Int))), (5, .int (iI ((k : Nat) : Int))), (6, .int (iI ((byt x k : Nat) : Int)))]) C dX4_put_100 (by decide) rfl ?_
                      refine r_iinc (lv' := [(0, .ref (ad (88))), (1, .long (x)), (3, .int (iI ((n : Nat) : Int))), (4, .int (iI ((0 : Nat) : Int))), (5, .int (iI ((k + 1 : Nat) : Int))), (6, .int (iI ((byt x k : Nat) : Int)))]) C ((k + 1 : Nat) : Int) (by omega) dX4_put_102 rfl (by decide) rfl ?_
                      refine r_goto (tgt := 43) C dX4_put_105 (by decide) ?_
                      refine r_sub (ks := [0, 1, 2, 3, 4]) (lv' := [(0, .ref (ad (88))), (1, .long (x)), (3, .int (iI ((n : Nat) : Int))), (4, .int (iI ((0 : Nat) : Int))), (5, .int (iI ((k + 1 : Nat) : Int)))]) rfl ?_
                      exact ih41 0 (k + 1) (by omega) (ps_0 hps (by unfold PC; omega)) (by omega)
                    · refine r_iconst C ((1 : Nat) : Int) (by decide) dX4_put_95 ?_
                      refine r_goto (tgt := 100) C dX4_put_96 (by decide) ?_
                      refine r_istore (lv' := [(0, .ref (ad (88))), (1, .long (x)), (3, .int (iI ((n : Nat) : Int))), (4, .int (iI ((1 : Nat) : Int))), (5, .int (iI ((k : Nat) : Int))), (6, .int (iI ((byt x k : Nat) : Int)))]) C dX4_put_100 (by decide) rfl ?_
                      refine r_iinc (lv' := [(0, .ref (ad (88))), (1, .long (x)), (3, .int (iI ((n : Nat) : Int))), (4, .int (iI ((1 : Nat) : Int))), (5, .int (iI ((k + 1 : Nat) : Int))), (6, .int (iI ((byt x k : Nat) : Int)))]) C ((k + 1 : Nat) : Int) (by omega) dX4_put_102 rfl (by decide) rfl ?_
                      refine r_goto (tgt := 43) C dX4_put_105 (by decide) ?_
                      refine r_sub (ks := [0, 1, 2, 3, 4]) (lv' := [(0, .ref (ad (88))), (1, .long (x)), (3, .int (iI ((n : Nat) : Int))), (4, .int (iI ((1 : Nat) : Int))), (5, .int (iI ((k + 1 : Nat) : Int)))]) rfl ?_
                      exact ih41 1 (k + 1) (by omega) (ps_1 hps (by omega) (by unfold PC; omega)) (by omega)
                  · refine r_iload C dX4_put_75 rfl ?_
                    refine r_bipush C ((33 : Nat) : Int) (by decide) dX4_put_77 ?_
                    refine r_bipush C ((126 : Nat) : Int) (by decide) dX4_put_79 ?_
                    refine r_callS (As := [.int (iI ((byt x k : Nat) : Int)), .int (iI ((33 : Nat) : Int)), .int (iI ((126 : Nat) : Int))]) (rest := []) (na := 3) C (c_X4_in G tc l ad N _ ((byt x k : Nat) : Int) ((33 : Nat) : Int) ((126 : Nat) : Int) ⟨by omega, by omega⟩ ⟨by omega, by omega⟩ ⟨by omega, by omega⟩) gX4_put_X4_in rfl rfl rfl (by decide +kernel) ⟨Nat.le_of_ble_eq_true rfl, Nat.le_of_ble_eq_true rfl⟩ rfl rfl (Nat.le_of_ble_eq_true rfl) dX4_put_81 ⟨Nat.le_of_ble_eq_true rfl, Nat.le_of_ble_eq_true rfl⟩ (aft_I (fun f68 hF69 => ?_))
                    rw [hF69]
                    refine r_if_eq (tgt := 99) C ⟨by omega, by omega⟩ dX4_put_84 (by decide) (fun b70 => ?_) (fun b70 => ?_)
                    · refine r_iconst C ((0 : Nat) : Int) (by decide) dX4_put_99 ?_
                      refine r_istore (lv' := [(0, .ref (ad (88))), (1, .long (x)), (3, .int (iI ((n : Nat) : Int))), (4, .int (iI ((0 : Nat) : Int))), (5, .int (iI ((k : Nat) : Int))), (6, .int (iI ((byt x k : Nat) : Int)))]) C dX4_put_100 (by decide) rfl ?_
                      refine r_iinc (lv' := [(0, .ref (ad (88))), (1, .long (x)), (3, .int (iI ((n : Nat) : Int))), (4, .int (iI ((0 : Nat) : Int))), (5, .int (iI ((k + 1 : Nat) : Int))), (6, .int (iI ((byt x k : Nat) : Int)))]) C ((k + 1 : Nat) : Int) (by omega) dX4_put_102 rfl (by decide) rfl ?_
                      refine r_goto (tgt := 43) C dX4_put_105 (by decide) ?_
                      refine r_sub (ks := [0, 1, 2, 3, 4]) (lv' := [(0, .ref (ad (88))), (1, .long (x)), (3, .int (iI ((n : Nat) : Int))), (4, .int (iI ((0 : Nat) : Int))), (5, .int (iI ((k + 1 : Nat) : Int)))]) rfl ?_
                      exact ih41 0 (k + 1) (by omega) (ps_0 hps (by unfold PC; omega)) (by omega)
                    · refine r_goto (tgt := 95) C dX4_put_87 (by decide) ?_
                      refine r_iconst C ((1 : Nat) : Int) (by decide) dX4_put_95 ?_
                      refine r_goto (tgt := 100) C dX4_put_96 (by decide) ?_
                      refine r_istore (lv' := [(0, .ref (ad (88))), (1, .long (x)), (3, .int (iI ((n : Nat) : Int))), (4, .int (iI ((1 : Nat) : Int))), (5, .int (iI ((k : Nat) : Int))), (6, .int (iI ((byt x k : Nat) : Int)))]) C dX4_put_100 (by decide) rfl ?_
                      refine r_iinc (lv' := [(0, .ref (ad (88))), (1, .long (x)), (3, .int (iI ((n : Nat) : Int))), (4, .int (iI ((1 : Nat) : Int))), (5, .int (iI ((k + 1 : Nat) : Int))), (6, .int (iI ((byt x k : Nat) : Int)))]) C ((k + 1 : Nat) : Int) (by omega) dX4_put_102 rfl (by decide) rfl ?_
                      refine r_goto (tgt := 43) C dX4_put_105 (by decide) ?_
                      refine r_sub (ks := [0, 1, 2, 3, 4]) (lv' := [(0, .ref (ad (88))), (1, .long (x)), (3, .int (iI ((n : Nat) : Int))), (4, .int (iI ((1 : Nat) : Int))), (5, .int (iI ((k + 1 : Nat) : Int)))]) rfl ?_
                      exact ih41 1 (k + 1) (by omega) (ps_1 hps (by omega) (by unfold PC; omega)) (by omega)
          exact hL39 _ 1 0 (by omega) (Or.inl ⟨rfl, by omega, fun j hj => absurd hj (Nat.not_lt_zero _)⟩) (Nat.lt_succ_self _)
      · refine r_lload_n C dX4_put_8 rfl rfl ?_
        refine r_bipush C ((8 : Nat) : Int) (by decide) dX4_put_9 ?_
        refine r_iload_n C dX4_put_11 rfl rfl ?_
        refine r_imul C ((8 * n : Nat) : Int) (by omega) dX4_put_12 ?_
        refine r_lshr C dX4_put_13 ?_
        refine r_ldc2 C 255 (by decide) m3 dX4_put_14 ?_
        have q1 := byt_lt x n
        refine r_land C dX4_put_17 ?_
        rw [show (.long (((x) >>> (((iI ((8 * n : Nat) : Int))).toInt64 &&& 63)) &&& (jI 255)) : Value) = .long (jI ((byt x n : Nat) : Int)) from by rw [byt_s x (by omega)]]
        refine r_lconst C 0 (by decide) dX4_put_18 ?_
        refine r_lcmp C dX4_put_19 ?_
        rw [show (.int (lg_cmp (jI ((byt x n : Nat) : Int)) (jI 0)) : Value) = .int (iI (if ((byt x n : Nat) : Int) = 0 then 0 else 1)) from congrArg Value.int (lcmp_b (byt_lt x n))]
        refine r_if_eq (tgt := 29) C ⟨by omega, by omega⟩ dX4_put_20 (by decide) (fun b71 => ?_) (fun b71 => ?_)
        · have _hgap : gap x = n := frst_eq hn (fun j hj => decide_eq_false (h0 j hj)) (fun h => decide_eq_true (by omega))
          refine r_iload_n C dX4_put_29 rfl rfl ?_
          refine r_if_le (tgt := 37) C ⟨by omega, by omega⟩ dX4_put_30 (by decide) (fun b72 => ?_) (fun b72 => ?_)
          · refine r_iconst C ((0 : Nat) : Int) (by decide) dX4_put_37 ?_
            refine r_istore (lv' := [(0, .ref (ad (88))), (1, .long (x)), (3, .int (iI ((n : Nat) : Int))), (4, .int (iI ((0 : Nat) : Int)))]) C dX4_put_38 (by decide) rfl ?_
            refine r_iconst C ((0 : Nat) : Int) (by decide) dX4_put_40 ?_
            refine r_istore (lv' := [(0, .ref (ad (88))), (1, .long (x)), (3, .int (iI ((n : Nat) : Int))), (4, .int (iI ((0 : Nat) : Int))), (5, .int (iI ((0 : Nat) : Int)))]) C dX4_put_41 (by decide) rfl ?_
            have hL73 : ∀ (m_74 : Nat) (b : Nat) (k : Nat) (hk : k ≤ 8) (hps : PS x n k b), 8 - k < m_74 → VV X ad N f 0 0 43 [(0, .ref (ad (88))), (1, .long (x)), (3, .int (iI ((n : Nat) : Int))), (4, .int (iI ((b : Nat) : Int))), (5, .int (iI ((k : Nat) : Int)))] [] := by
              intro m_74
              induction m_74 with
              | zero => intros; omega
              | succ m_74 ih75 =>
                intro b k hk hps hm76
                refine r_iload C dX4_put_43 rfl ?_
                refine r_bipush C ((8 : Nat) : Int) (by decide) dX4_put_45 ?_
                refine r_icmp_ge (tgt := 108) C ⟨by omega, by omega⟩ ⟨by omega, by omega⟩ dX4_put_47 (by decide) (fun b77 => ?_) (fun b77 => ?_)
                · have hb1 := ps_le hps
                  have hpe := ps_end (n := n) (k := k) (b := b) _hgap (by omega) hps
                  refine r_iload C dX4_put_108 rfl ?_
                  refine r_if_ne (tgt := 116) C ⟨by omega, by omega⟩ dX4_put_110 (by decide) (fun b78 => ?_) (fun b78 => ?_)
                  · have hnc : nch x = n := by omega
                    refine r_aload_n C dX4_put_116 rfl rfl ?_
                    refine r_get (v := .int (iI ((pln s : Nat) : Int))) C (by omega) m88 (show vwCl[4]? = some (RX4, TX4, 15) from rfl) m1 6 (by decide) m0 rfl rfl dX4_put_117 ?_
                    refine r_iload_n C dX4_put_120 rfl rfl ?_
                    refine r_iadd C ((pln s + n : Nat) : Int) (by omega) dX4_put_121 ?_
                    refine r_bipush C ((64 : Nat) : Int) (by decide) dX4_put_122 ?_
                    refine r_icmp_le (tgt := 130) C ⟨by omega, by omega⟩ ⟨by omega, by omega⟩ dX4_put_124 (by decide) (fun b79 => ?_) (fun b79 => ?_)
                    · refine r_iload_n C dX4_put_130 rfl rfl ?_
                      refine r_iconst C ((1 : Nat) : Int) (by decide) dX4_put_131 ?_
                      refine r_isub C (((n : Nat) : Int) - 1 - ((0 : Nat) : Int)) (by omega) dX4_put_132 ?_
                      refine r_istore (lv' := [(0, .ref (ad (88))), (1, .long (x)), (3, .int (iI ((n : Nat) : Int))), (4, .int (iI ((b : Nat) : Int))), (5, .int (iI (((n : Nat) : Int) - 1 - ((0 : Nat) : Int))))]) C dX4_put_133 (by decide) rfl ?_
                      have hL84 : ∀ (m_85 : Nat) (m : Nat) (f80 : Nat → va_E) (hm81 : f80 (88) = eO 4 [.ref (ad (89)), .ref (ad (90)), .int (iI ((kno s : Nat) : Int)), .ref (ad (91)), .ref (ad (92)), .ref (ad (93)), .int (iI ((pln s + m : Nat) : Int)), .ref (ad (94)), .ref (ad (95)), .ref (ad (96)), .ref (ad (97)), .int (x1), .int (x2), .int (x3), .int (x4)]) (hm82 : f80 (93) = eI tc 64 (fun j => iI (((putF (pad s) (pln s) x n m) j : Nat) : Int))) (ho83 : ∀ q, (q ≠ 88 ∧ q ≠ 93) → f80 q = f q) (hm1 : m ≤ n), n - m < m_85 → VV X ad N f80 0 0 135 [(0, .ref (ad (88))), (1, .long (x)), (3, .int (iI ((n : Nat) : Int))), (5, .int (iI (((n : Nat) : Int) - 1 - ((m : Nat) : Int))))] [] := by
                        intro m_85
                        induction m_85 with
                        | zero => intros; omega
                        | succ m_85 ih86 =>
                          intro m f80 hm81 hm82 ho83 hm1 hm87
                          refine r_iload C dX4_put_135 rfl ?_
                          refine r_if_lt (tgt := 177) C ⟨by omega, by omega⟩ dX4_put_137 (by decide) (fun b88 => ?_) (fun b88 => ?_)
                          · refine r_aload_n C dX4_put_177 rfl rfl ?_
                            refine r_get (v := .int (iI ((pln s + m : Nat) : Int))) C (by omega) hm81 (show vwCl[4]? = some (RX4, TX4, 15) from rfl) m1 6 (by decide) m0 rfl rfl dX4_put_178 ?_
                            have hme : m = n := by omega
                            subst hme
                            exact hret f80 ((pln s + m : Nat) : Int) _ _ dX4_put_181 (by unfold aPut; rw [hnc, if_neg (by omega), if_pos (by omega)]) (⟨by unfold nPut; rw [hnc, if_pos ⟨by omega, by omega⟩]; exact M_pad hM hm81 hm82 (fun q g1 g2 g3 => (ho83 _ (by omega))), fun q hq => (ho83 _ (by omega))⟩)
                          · refine r_aload_n C dX4_put_140 rfl rfl ?_
                            refine r_get (v := .ref (ad (93))) C (by omega) hm81 (show vwCl[4]? = some (RX4, TX4, 15) from rfl) m1 5 (by decide) m2 rfl rfl dX4_put_141 ?_
                            refine r_aload_n C dX4_put_144 rfl rfl ?_
                            refine r_get (v := .int (iI ((pln s + m : Nat) : Int))) C (by omega) hm81 (show vwCl[4]? = some (RX4, TX4, 15) from rfl) m1 6 (by decide) m0 rfl rfl dX4_put_145 ?_
                            refine r_lload_n C dX4_put_148 rfl rfl ?_
                            refine r_bipush C ((8 : Nat) : Int) (by decide) dX4_put_149 ?_
                            refine r_iload C dX4_put_151 rfl ?_
                            refine r_imul C ((8 * (n - 1 - m) : Nat) : Int) (by omega) dX4_put_153 ?_
                            refine r_lshr C dX4_put_154 ?_
                            refine r_ldc2 C 255 (by decide) m3 dX4_put_155 ?_
                            refine r_land C dX4_put_158 ?_
                            rw [show (.long (((x) >>> (((iI ((8 * (n - 1 - m) : Nat) : Int))).toInt64 &&& 63)) &&& (jI 255)) : Value) = .long (jI ((byt x (n - 1 - m) : Nat) : Int)) from by rw [byt_s x (by omega)]]
                            have q3 := byt_lt x (n - 1 - m)
                            refine r_l2i C dX4_put_159 ?_
                            rw [show (.int ((jI ((byt x (n - 1 - m) : Nat) : Int)).toInt32) : Value) = .int (iI ((byt x (n - 1 - m) : Nat) : Int)) from by rw [jI_int (by omega)]]
                            refine r_iast C (by omega) hm82 (pln s + m) rfl (by omega) (Nat.le_of_ble_eq_true rfl) dX4_put_160 (fun f89 hs90 ho91 => ?_)
                            have c92 : f89 (93) = eI tc 64 (fun j => iI (((upN ((putF (pad s) (pln s) x n m)) (pln s + m) (byt x (n - 1 - m))) j : Nat) : Int)) := hs90.trans (congrArg (fun g => eI tc 64 g) (updN _ _ _))
                            refine r_aload_n C dX4_put_161 rfl rfl ?_
                            refine r_dup C dX4_put_162 rfl ?_
                            have c93 : f89 (88) = eO 4 [.ref (ad (89)), .ref (ad (90)), .int (iI ((kno s : Nat) : Int)), .ref (ad (91)), .ref (ad (92)), .ref (ad (93)), .int (iI ((pln s + m : Nat) : Int)), .ref (ad (94)), .ref (ad (95)), .ref (ad (96)), .ref (ad (97)), .int (x1), .int (x2), .int (x3), .int (x4)] := (ho91 _ (by omega)).trans hm81
                            refine r_get (v := .int (iI ((pln s + m : Nat) : Int))) C (by omega) c93 (show vwCl[4]? = some (RX4, TX4, 15) from rfl) m1 6 (by decide) m0 rfl rfl dX4_put_163 ?_
                            refine r_iconst C ((1 : Nat) : Int) (by decide) dX4_put_166 ?_
                            refine r_iadd C ((pln s + m + 1 : Nat) : Int) (by omega) dX4_put_167 ?_
                            refine r_put (ty := .int) C (by omega) c93 (show vwCl[4]? = some (RX4, TX4, 15) from rfl) m1 tyX4_ok nmX4 6 (by decide) m0 rfl rfl (by decide +kernel) rfl rfl (Nat.le_of_ble_eq_true rfl) dX4_put_168 (fun f94 hs95 ho96 => ?_)
                            have c97 : f94 (88) = eO 4 [.ref (ad (89)), .ref (ad (90)), .int (iI ((kno s : Nat) : Int)), .ref (ad (91)), .ref (ad (92)), .ref (ad (93)), .int (iI ((pln s + m + 1 : Nat) : Int)), .ref (ad (94)), .ref (ad (95)), .ref (ad (96)), .ref (ad (97)), .int (x1), .int (x2), .int (x3), .int (x4)] := hs95
                            refine r_iinc (lv' := [(0, .ref (ad (88))), (1, .long (x)), (3, .int (iI ((n : Nat) : Int))), (5, .int (iI (((n : Nat) : Int) - 1 - ((m + 1 : Nat) : Int))))]) C (((n : Nat) : Int) - 1 - ((m + 1 : Nat) : Int)) (by omega) dX4_put_171 rfl (by decide) rfl ?_
                            refine r_goto (tgt := 135) C dX4_put_174 (by decide) ?_
                            have c98 : f94 (93) = eI tc 64 (fun j => iI (((upN ((putF (pad s) (pln s) x n m)) (pln s + m) (byt x (n - 1 - m))) j : Nat) : Int)) := (ho96 _ (by omega)).trans c92
                            exact ih86 (m + 1) f94 c97 (c98.trans (by rw [putF_s])) (fun q hq => (((ho96 _ (by omega))).trans (ho91 _ (by omega))).trans (ho83 _ (by omega))) (by omega) (by omega)
                      refine r_sub (ks := [0, 1, 2, 4]) (lv' := [(0, .ref (ad (88))), (1, .long (x)), (3, .int (iI ((n : Nat) : Int))), (5, .int (iI (((n : Nat) : Int) - 1 - ((0 : Nat) : Int))))]) rfl ?_
                      exact hL84 _ 0 f m88 (by rw [putF_0]; exact m93) (fun _ _ => rfl) (by omega) (Nat.lt_succ_self _)
                    · refine r_bipush C ((-4)) (by decide) dX4_put_127 ?_
                      exact hret f ((-4)) _ _ dX4_put_129 (by unfold aPut; rw [if_neg (by omega), if_neg (by omega)]) (⟨by unfold nPut; rw [if_neg (by omega)]; exact hM, fun _ _ => rfl⟩)
                  · refine r_bipush C ((-2)) (by decide) dX4_put_113 ?_
                    exact hret f ((-2)) _ _ dX4_put_115 (by unfold aPut; rw [if_pos (by omega)]) (⟨by unfold nPut; rw [if_neg (by omega)]; exact hM, fun _ _ => rfl⟩)
                · refine r_lload_n C dX4_put_50 rfl rfl ?_
                  refine r_bipush C ((8 : Nat) : Int) (by decide) dX4_put_51 ?_
                  refine r_iload C dX4_put_53 rfl ?_
                  refine r_imul C ((8 * k : Nat) : Int) (by omega) dX4_put_55 ?_
                  refine r_lshr C dX4_put_56 ?_
                  refine r_ldc2 C 255 (by decide) m3 dX4_put_57 ?_
                  refine r_land C dX4_put_60 ?_
                  rw [show (.long (((x) >>> (((iI ((8 * k : Nat) : Int))).toInt64 &&& 63)) &&& (jI 255)) : Value) = .long (jI ((byt x k : Nat) : Int)) from by rw [byt_s x (by omega)]]
                  have q2 := byt_lt x k
                  refine r_l2i C dX4_put_61 ?_
                  rw [show (.int ((jI ((byt x k : Nat) : Int)).toInt32) : Value) = .int (iI ((byt x k : Nat) : Int)) from by rw [jI_int (by omega)]]
                  refine r_istore (lv' := [(0, .ref (ad (88))), (1, .long (x)), (3, .int (iI ((n : Nat) : Int))), (4, .int (iI ((b : Nat) : Int))), (5, .int (iI ((k : Nat) : Int))), (6, .int (iI ((byt x k : Nat) : Int)))]) C dX4_put_62 (by decide) rfl ?_
                  have hb1 := ps_le hps
                  refine r_iload C dX4_put_64 rfl ?_
                  refine r_if_eq (tgt := 99) C ⟨by omega, by omega⟩ dX4_put_66 (by decide) (fun b99 => ?_) (fun b99 => ?_)
                  · refine r_iconst C ((0 : Nat) : Int) (by decide) dX4_put_99 ?_
                    refine r_istore (lv' := [(0, .ref (ad (88))), (1, .long (x)), (3, .int (iI ((n : Nat) : Int))), (4, .int (iI ((0 : Nat) : Int))), (5, .int (iI ((k : Nat) : Int))), (6, .int (iI ((byt x k : Nat) : Int)))]) C dX4_put_100 (by decide) rfl ?_
                    refine r_iinc (lv' := [(0, .ref (ad (88))), (1, .long (x)), (3, .int (iI ((n : Nat) : Int))), (4, .int (iI ((0 : Nat) : Int))), (5, .int (iI ((k + 1 : Nat) : Int))), (6, .int (iI ((byt x k : Nat) : Int)))]) C ((k + 1 : Nat) : Int) (by omega) dX4_put_102 rfl (by decide) rfl ?_
                    refine r_goto (tgt := 43) C dX4_put_105 (by decide) ?_
                    refine r_sub (ks := [0, 1, 2, 3, 4]) (lv' := [(0, .ref (ad (88))), (1, .long (x)), (3, .int (iI ((n : Nat) : Int))), (4, .int (iI ((0 : Nat) : Int))), (5, .int (iI ((k + 1 : Nat) : Int)))]) rfl ?_
                    exact ih75 0 (k + 1) (by omega) (ps_0 hps (by unfold PC; omega)) (by omega)
                  · refine r_iload C dX4_put_69 rfl ?_
                    refine r_iload_n C dX4_put_71 rfl rfl ?_
                    refine r_icmp_ge (tgt := 90) C ⟨by omega, by omega⟩ ⟨by omega, by omega⟩ dX4_put_72 (by decide) (fun b100 => ?_) (fun b100 => ?_)
                    · refine r_iload C dX4_put_90 rfl ?_
                      refine r_if_ne (tgt := 99) C ⟨by omega, by omega⟩ dX4_put_92 (by decide) (fun b101 => ?_) (fun b101 => ?_)
                      · refine r_iconst C ((0 : Nat) : Int) (by decide) dX4_put_99 ?_
                        refine r_istore (lv' := [(0, .ref (ad (88))), (1, .long (x)), (3, .int (iI ((n : Nat) : Int))), (4, .int (iI ((0 : Nat) : Int))), (5, .int (iI ((k : Nat) : Int))), (6, .int (iI ((byt x k : Nat) : Int)))]) C dX4_put_100 (by decide) rfl ?_
                        refine r_iinc (lv' := [(0, .ref (ad (88))), (1, .long (x)), (3, .int (iI ((n : Nat) : Int))), (4, .int (iI ((0 : Nat) : Int))), (5, .int (iI ((k + 1 : Nat) : Int))), (6, .int (iI ((byt x k : Nat) : Int)))]) C ((k + 1 : Nat) : Int) (by omega) dX4_put_102 rfl (by decide) rfl ?_
                        refine r_goto (tgt := 43) C dX4_put_105 (by decide) ?_
                        refine r_sub (ks := [0, 1, 2, 3, 4]) (lv' := [(0, .ref (ad (88))), (1, .long (x)), (3, .int (iI ((n : Nat) : Int))), (4, .int (iI ((0 : Nat) : Int))), (5, .int (iI ((k + 1 : Nat) : Int)))]) rfl ?_
                        exact ih75 0 (k + 1) (by omega) (ps_0 hps (by unfold PC; omega)) (by omega)
                      · refine r_iconst C ((1 : Nat) : Int) (by decide) dX4_put_95 ?_
                        refine r_goto (tgt := 100) C dX4_put_96 (by decide) ?_
                        refine r_istore (lv' := [(0, .ref (ad (88))), (1, .long (x)), (3, .int (iI ((n : Nat) : Int))), (4, .int (iI ((1 : Nat) : Int))), (5, .int (iI ((k : Nat) : Int))), (6, .int (iI ((byt x k : Nat) : Int)))]) C dX4_put_100 (by decide) rfl ?_
                        refine r_iinc (lv' := [(0, .ref (ad (88))), (1, .long (x)), (3, .int (iI ((n : Nat) : Int))), (4, .int (iI ((1 : Nat) : Int))), (5, .int (iI ((k + 1 : Nat) : Int))), (6, .int (iI ((byt x k : Nat) : Int)))]) C ((k + 1 : Nat) : Int) (by omega) dX4_put_102 rfl (by decide) rfl ?_
                        refine r_goto (tgt := 43) C dX4_put_105 (by decide) ?_
                        refine r_sub (ks := [0, 1, 2, 3, 4]) (lv' := [(0, .ref (ad (88))), (1, .long (x)), (3, .int (iI ((n : Nat) : Int))), (4, .int (iI ((1 : Nat) : Int))), (5, .int (iI ((k + 1 : Nat) : Int)))]) rfl ?_
                        exact ih75 1 (k + 1) (by omega) (ps_1 hps (by omega) (by unfold PC; omega)) (by omega)
                    · refine r_iload C dX4_put_75 rfl ?_
                      refine r_bipush C ((33 : Nat) : Int) (by decide) dX4_put_77 ?_
                      refine r_bipush C ((126 : Nat) : Int) (by decide) dX4_put_79 ?_
                      refine r_callS (As := [.int (iI ((byt x k : Nat) : Int)), .int (iI ((33 : Nat) : Int)), .int (iI ((126 : Nat) : Int))]) (rest := []) (na := 3) C (c_X4_in G tc l ad N _ ((byt x k : Nat) : Int) ((33 : Nat) : Int) ((126 : Nat) : Int) ⟨by omega, by omega⟩ ⟨by omega, by omega⟩ ⟨by omega, by omega⟩) gX4_put_X4_in rfl rfl rfl (by decide +kernel) ⟨Nat.le_of_ble_eq_true rfl, Nat.le_of_ble_eq_true rfl⟩ rfl rfl (Nat.le_of_ble_eq_true rfl) dX4_put_81 ⟨Nat.le_of_ble_eq_true rfl, Nat.le_of_ble_eq_true rfl⟩ (aft_I (fun f102 hF103 => ?_))
                      rw [hF103]
                      refine r_if_eq (tgt := 99) C ⟨by omega, by omega⟩ dX4_put_84 (by decide) (fun b104 => ?_) (fun b104 => ?_)
                      · refine r_iconst C ((0 : Nat) : Int) (by decide) dX4_put_99 ?_
                        refine r_istore (lv' := [(0, .ref (ad (88))), (1, .long (x)), (3, .int (iI ((n : Nat) : Int))), (4, .int (iI ((0 : Nat) : Int))), (5, .int (iI ((k : Nat) : Int))), (6, .int (iI ((byt x k : Nat) : Int)))]) C dX4_put_100 (by decide) rfl ?_
                        refine r_iinc (lv' := [(0, .ref (ad (88))), (1, .long (x)), (3, .int (iI ((n : Nat) : Int))), (4, .int (iI ((0 : Nat) : Int))), (5, .int (iI ((k + 1 : Nat) : Int))), (6, .int (iI ((byt x k : Nat) : Int)))]) C ((k + 1 : Nat) : Int) (by omega) dX4_put_102 rfl (by decide) rfl ?_
                        refine r_goto (tgt := 43) C dX4_put_105 (by decide) ?_
                        refine r_sub (ks := [0, 1, 2, 3, 4]) (lv' := [(0, .ref (ad (88))), (1, .long (x)), (3, .int (iI ((n : Nat) : Int))), (4, .int (iI ((0 : Nat) : Int))), (5, .int (iI ((k + 1 : Nat) : Int)))]) rfl ?_
                        exact ih75 0 (k + 1) (by omega) (ps_0 hps (by unfold PC; omega)) (by omega)
                      · refine r_goto (tgt := 95) C dX4_put_87 (by decide) ?_
                        refine r_iconst C ((1 : Nat) : Int) (by decide) dX4_put_95 ?_
                        refine r_goto (tgt := 100) C dX4_put_96 (by decide) ?_
                        refine r_istore (lv' := [(0, .ref (ad (88))), (1, .long (x)), (3, .int (iI ((n : Nat) : Int))), (4, .int (iI ((1 : Nat) : Int))), (5, .int (iI ((k : Nat) : Int))), (6, .int (iI ((byt x k : Nat) : Int)))]) C dX4_put_100 (by decide) rfl ?_
                        refine r_iinc (lv' := [(0, .ref (ad (88))), (1, .long (x)), (3, .int (iI ((n : Nat) : Int))), (4, .int (iI ((1 : Nat) : Int))), (5, .int (iI ((k + 1 : Nat) : Int))), (6, .int (iI ((byt x k : Nat) : Int)))]) C ((k + 1 : Nat) : Int) (by omega) dX4_put_102 rfl (by decide) rfl ?_
                        refine r_goto (tgt := 43) C dX4_put_105 (by decide) ?_
                        refine r_sub (ks := [0, 1, 2, 3, 4]) (lv' := [(0, .ref (ad (88))), (1, .long (x)), (3, .int (iI ((n : Nat) : Int))), (4, .int (iI ((1 : Nat) : Int))), (5, .int (iI ((k + 1 : Nat) : Int)))]) rfl ?_
                        exact ih75 1 (k + 1) (by omega) (ps_1 hps (by omega) (by unfold PC; omega)) (by omega)
            exact hL73 _ 0 0 (by omega) (Or.inr ⟨rfl, Or.inl (by omega)⟩) (Nat.lt_succ_self _)
          · refine r_iconst C ((1 : Nat) : Int) (by decide) dX4_put_33 ?_
            refine r_goto (tgt := 38) C dX4_put_34 (by decide) ?_
            refine r_istore (lv' := [(0, .ref (ad (88))), (1, .long (x)), (3, .int (iI ((n : Nat) : Int))), (4, .int (iI ((1 : Nat) : Int)))]) C dX4_put_38 (by decide) rfl ?_
            refine r_iconst C ((0 : Nat) : Int) (by decide) dX4_put_40 ?_
            refine r_istore (lv' := [(0, .ref (ad (88))), (1, .long (x)), (3, .int (iI ((n : Nat) : Int))), (4, .int (iI ((1 : Nat) : Int))), (5, .int (iI ((0 : Nat) : Int)))]) C dX4_put_41 (by decide) rfl ?_
            have hL105 : ∀ (m_106 : Nat) (b : Nat) (k : Nat) (hk : k ≤ 8) (hps : PS x n k b), 8 - k < m_106 → VV X ad N f 0 0 43 [(0, .ref (ad (88))), (1, .long (x)), (3, .int (iI ((n : Nat) : Int))), (4, .int (iI ((b : Nat) : Int))), (5, .int (iI ((k : Nat) : Int)))] [] := by
              intro m_106
              induction m_106 with
              | zero => intros; omega
              | succ m_106 ih107 =>
                intro b k hk hps hm108
                refine r_iload C dX4_put_43 rfl ?_
                refine r_bipush C ((8 : Nat) : Int) (by decide) dX4_put_45 ?_
                refine r_icmp_ge (tgt := 108) C ⟨by omega, by omega⟩ ⟨by omega, by omega⟩ dX4_put_47 (by decide) (fun b109 => ?_) (fun b109 => ?_)
                · have hb1 := ps_le hps
                  have hpe := ps_end (n := n) (k := k) (b := b) _hgap (by omega) hps
                  refine r_iload C dX4_put_108 rfl ?_
                  refine r_if_ne (tgt := 116) C ⟨by omega, by omega⟩ dX4_put_110 (by decide) (fun b110 => ?_) (fun b110 => ?_)
                  · have hnc : nch x = n := by omega
                    refine r_aload_n C dX4_put_116 rfl rfl ?_
                    refine r_get (v := .int (iI ((pln s : Nat) : Int))) C (by omega) m88 (show vwCl[4]? = some (RX4, TX4, 15) from rfl) m1 6 (by decide) m0 rfl rfl dX4_put_117 ?_
                    refine r_iload_n C dX4_put_120 rfl rfl ?_
                    refine r_iadd C ((pln s + n : Nat) : Int) (by omega) dX4_put_121 ?_
                    refine r_bipush C ((64 : Nat) : Int) (by decide) dX4_put_122 ?_
                    refine r_icmp_le (tgt := 130) C ⟨by omega, by omega⟩ ⟨by omega, by omega⟩ dX4_put_124 (by decide) (fun b111 => ?_) (fun b111 => ?_)
                    · refine r_iload_n C dX4_put_130 rfl rfl ?_
                      refine r_iconst C ((1 : Nat) : Int) (by decide) dX4_put_131 ?_
                      refine r_isub C (((n : Nat) : Int) - 1 - ((0 : Nat) : Int)) (by omega) dX4_put_132 ?_
                      refine r_istore (lv' := [(0, .ref (ad (88))), (1, .long (x)), (3, .int (iI ((n : Nat) : Int))), (4, .int (iI ((b : Nat) : Int))), (5, .int (iI (((n : Nat) : Int) - 1 - ((0 : Nat) : Int))))]) C dX4_put_133 (by decide) rfl ?_
                      have hL116 : ∀ (m_117 : Nat) (m : Nat) (f112 : Nat → va_E) (hm113 : f112 (88) = eO 4 [.ref (ad (89)), .ref (ad (90)), .int (iI ((kno s : Nat) : Int)), .ref (ad (91)), .ref (ad (92)), .ref (ad (93)), .int (iI ((pln s + m : Nat) : Int)), .ref (ad (94)), .ref (ad (95)), .ref (ad (96)), .ref (ad (97)), .int (x1), .int (x2), .int (x3), .int (x4)]) (hm114 : f112 (93) = eI tc 64 (fun j => iI (((putF (pad s) (pln s) x n m) j : Nat) : Int))) (ho115 : ∀ q, (q ≠ 88 ∧ q ≠ 93) → f112 q = f q) (hm1 : m ≤ n), n - m < m_117 → VV X ad N f112 0 0 135 [(0, .ref (ad (88))), (1, .long (x)), (3, .int (iI ((n : Nat) : Int))), (5, .int (iI (((n : Nat) : Int) - 1 - ((m : Nat) : Int))))] [] := by
                        intro m_117
                        induction m_117 with
                        | zero => intros; omega
                        | succ m_117 ih118 =>
                          intro m f112 hm113 hm114 ho115 hm1 hm119
                          refine r_iload C dX4_put_135 rfl ?_
                          refine r_if_lt (tgt := 177) C ⟨by omega, by omega⟩ dX4_put_137 (by decide) (fun b120 => ?_) (fun b120 => ?_)
                          · refine r_aload_n C dX4_put_177 rfl rfl ?_
                            refine r_get (v := .int (iI ((pln s + m : Nat) : Int))) C (by omega) hm113 (show vwCl[4]? = some (RX4, TX4, 15) from rfl) m1 6 (by decide) m0 rfl rfl dX4_put_178 ?_
                            have hme : m = n := by omega
                            subst hme
                            exact hret f112 ((pln s + m : Nat) : Int) _ _ dX4_put_181 (by unfold aPut; rw [hnc, if_neg (by omega), if_pos (by omega)]) (⟨by unfold nPut; rw [hnc, if_pos ⟨by omega, by omega⟩]; exact M_pad hM hm113 hm114 (fun q g1 g2 g3 => (ho115 _ (by omega))), fun q hq => (ho115 _ (by omega))⟩)
                          · refine r_aload_n C dX4_put_140 rfl rfl ?_
                            refine r_get (v := .ref (ad (93))) C (by omega) hm113 (show vwCl[4]? = some (RX4, TX4, 15) from rfl) m1 5 (by decide) m2 rfl rfl dX4_put_141 ?_
                            refine r_aload_n C dX4_put_144 rfl rfl ?_
                            refine r_get (v := .int (iI ((pln s + m : Nat) : Int))) C (by omega) hm113 (show vwCl[4]? = some (RX4, TX4, 15) from rfl) m1 6 (by decide) m0 rfl rfl dX4_put_145 ?_
                            refine r_lload_n C dX4_put_148 rfl rfl ?_
                            refine r_bipush C ((8 : Nat) : Int) (by decide) dX4_put_149 ?_
                            refine r_iload C dX4_put_151 rfl ?_
                            refine r_imul C ((8 * (n - 1 - m) : Nat) : Int) (by omega) dX4_put_153 ?_
                            refine r_lshr C dX4_put_154 ?_
                            refine r_ldc2 C 255 (by decide) m3 dX4_put_155 ?_
                            refine r_land C dX4_put_158 ?_
                            rw [show (.long (((x) >>> (((iI ((8 * (n - 1 - m) : Nat) : Int))).toInt64 &&& 63)) &&& (jI 255)) : Value) = .long (jI ((byt x (n - 1 - m) : Nat) : Int)) from by rw [byt_s x (by omega)]]
                            have q3 := byt_lt x (n - 1 - m)
                            refine r_l2i C dX4_put_159 ?_
                            rw [show (.int ((jI ((byt x (n - 1 - m) : Nat) : Int)).toInt32) : Value) = .int (iI ((byt x (n - 1 - m) : Nat) : Int)) from by rw [jI_int (by omega)]]
                            refine r_iast C (by omega) hm114 (pln s + m) rfl (by omega) (Nat.le_of_ble_eq_true rfl) dX4_put_160 (fun f121 hs122 ho123 => ?_)
                            have c124 : f121 (93) = eI tc 64 (fun j => iI (((upN ((putF (pad s) (pln s) x n m)) (pln s + m) (byt x (n - 1 - m))) j : Nat) : Int)) := hs122.trans (congrArg (fun g => eI tc 64 g) (updN _ _ _))
                            refine r_aload_n C dX4_put_161 rfl rfl ?_
                            refine r_dup C dX4_put_162 rfl ?_
                            have c125 : f121 (88) = eO 4 [.ref (ad (89)), .ref (ad (90)), .int (iI ((kno s : Nat) : Int)), .ref (ad (91)), .ref (ad (92)), .ref (ad (93)), .int (iI ((pln s + m : Nat) : Int)), .ref (ad (94)), .ref (ad (95)), .ref (ad (96)), .ref (ad (97)), .int (x1), .int (x2), .int (x3), .int (x4)] := (ho123 _ (by omega)).trans hm113
                            refine r_get (v := .int (iI ((pln s + m : Nat) : Int))) C (by omega) c125 (show vwCl[4]? = some (RX4, TX4, 15) from rfl) m1 6 (by decide) m0 rfl rfl dX4_put_163 ?_
                            refine r_iconst C ((1 : Nat) : Int) (by decide) dX4_put_166 ?_
                            refine r_iadd C ((pln s + m + 1 : Nat) : Int) (by omega) dX4_put_167 ?_
                            refine r_put (ty := .int) C (by omega) c125 (show vwCl[4]? = some (RX4, TX4, 15) from rfl) m1 tyX4_ok nmX4 6 (by decide) m0 rfl rfl (by decide +kernel) rfl rfl (Nat.le_of_ble_eq_true rfl) dX4_put_168 (fun f126 hs127 ho128 => ?_)
                            have c129 : f126 (88) = eO 4 [.ref (ad (89)), .ref (ad (90)), .int (iI ((kno s : Nat) : Int)), .ref (ad (91)), .ref (ad (92)), .ref (ad (93)), .int (iI ((pln s + m + 1 : Nat) : Int)), .ref (ad (94)), .ref (ad (95)), .ref (ad (96)), .ref (ad (97)), .int (x1), .int (x2), .int (x3), .int (x4)] := hs127
                            refine r_iinc (lv' := [(0, .ref (ad (88))), (1, .long (x)), (3, .int (iI ((n : Nat) : Int))), (5, .int (iI (((n : Nat) : Int) - 1 - ((m + 1 : Nat) : Int))))]) C (((n : Nat) : Int) - 1 - ((m + 1 : Nat) : Int)) (by omega) dX4_put_171 rfl (by decide) rfl ?_
                            refine r_goto (tgt := 135) C dX4_put_174 (by decide) ?_
                            have c130 : f126 (93) = eI tc 64 (fun j => iI (((upN ((putF (pad s) (pln s) x n m)) (pln s + m) (byt x (n - 1 - m))) j : Nat) : Int)) := (ho128 _ (by omega)).trans c124
                            exact ih118 (m + 1) f126 c129 (c130.trans (by rw [putF_s])) (fun q hq => (((ho128 _ (by omega))).trans (ho123 _ (by omega))).trans (ho115 _ (by omega))) (by omega) (by omega)
                      refine r_sub (ks := [0, 1, 2, 4]) (lv' := [(0, .ref (ad (88))), (1, .long (x)), (3, .int (iI ((n : Nat) : Int))), (5, .int (iI (((n : Nat) : Int) - 1 - ((0 : Nat) : Int))))]) rfl ?_
                      exact hL116 _ 0 f m88 (by rw [putF_0]; exact m93) (fun _ _ => rfl) (by omega) (Nat.lt_succ_self _)
                    · refine r_bipush C ((-4)) (by decide) dX4_put_127 ?_
                      exact hret f ((-4)) _ _ dX4_put_129 (by unfold aPut; rw [if_neg (by omega), if_neg (by omega)]) (⟨by unfold nPut; rw [if_neg (by omega)]; exact hM, fun _ _ => rfl⟩)
                  · refine r_bipush C ((-2)) (by decide) dX4_put_113 ?_
                    exact hret f ((-2)) _ _ dX4_put_115 (by unfold aPut; rw [if_pos (by omega)]) (⟨by unfold nPut; rw [if_neg (by omega)]; exact hM, fun _ _ => rfl⟩)
                · refine r_lload_n C dX4_put_50 rfl rfl ?_
                  refine r_bipush C ((8 : Nat) : Int) (by decide) dX4_put_51 ?_
                  refine r_iload C dX4_put_53 rfl ?_
                  refine r_imul C ((8 * k : Nat) : Int) (by omega) dX4_put_55 ?_
                  refine r_lshr C dX4_put_56 ?_
                  refine r_ldc2 C 255 (by decide) m3 dX4_put_57 ?_
                  refine r_land C dX4_put_60 ?_
                  rw [show (.long (((x) >>> (((iI ((8 * k : Nat) : Int))).toInt64 &&& 63)) &&& (jI 255)) : Value) = .long (jI ((byt x k : Nat) : Int)) from by rw [byt_s x (by omega)]]
                  have q2 := byt_lt x k
                  refine r_l2i C dX4_put_61 ?_
                  rw [show (.int ((jI ((byt x k : Nat) : Int)).toInt32) : Value) = .int (iI ((byt x k : Nat) : Int)) from by rw [jI_int (by omega)]]
                  refine r_istore (lv' := [(0, .ref (ad (88))), (1, .long (x)), (3, .int (iI ((n : Nat) : Int))), (4, .int (iI ((b : Nat) : Int))), (5, .int (iI ((k : Nat) : Int))), (6, .int (iI ((byt x k : Nat) : Int)))]) C dX4_put_62 (by decide) rfl ?_
                  have hb1 := ps_le hps
                  refine r_iload C dX4_put_64 rfl ?_
                  refine r_if_eq (tgt := 99) C ⟨by omega, by omega⟩ dX4_put_66 (by decide) (fun b131 => ?_) (fun b131 => ?_)
                  · refine r_iconst C ((0 : Nat) : Int) (by decide) dX4_put_99 ?_
                    refine r_istore (lv' := [(0, .ref (ad (88))), (1, .long (x)), (3, .int (iI ((n : Nat) : Int))), (4, .int (iI ((0 : Nat) : Int))), (5, .int (iI ((k : Nat) : Int))), (6, .int (iI ((byt x k : Nat) : Int)))]) C dX4_put_100 (by decide) rfl ?_
                    refine r_iinc (lv' := [(0, .ref (ad (88))), (1, .long (x)), (3, .int (iI ((n : Nat) : Int))), (4, .int (iI ((0 : Nat) : Int))), (5, .int (iI ((k + 1 : Nat) : Int))), (6, .int (iI ((byt x k : Nat) : Int)))]) C ((k + 1 : Nat) : Int) (by omega) dX4_put_102 rfl (by decide) rfl ?_
                    refine r_goto (tgt := 43) C dX4_put_105 (by decide) ?_
                    refine r_sub (ks := [0, 1, 2, 3, 4]) (lv' := [(0, .ref (ad (88))), (1, .long (x)), (3, .int (iI ((n : Nat) : Int))), (4, .int (iI ((0 : Nat) : Int))), (5, .int (iI ((k + 1 : Nat) : Int)))]) rfl ?_
                    exact ih107 0 (k + 1) (by omega) (ps_0 hps (by unfold PC; omega)) (by omega)
                  · refine r_iload C dX4_put_69 rfl ?_
                    refine r_iload_n C dX4_put_71 rfl rfl ?_
                    refine r_icmp_ge (tgt := 90) C ⟨by omega, by omega⟩ ⟨by omega, by omega⟩ dX4_put_72 (by decide) (fun b132 => ?_) (fun b132 => ?_)
                    · refine r_iload C dX4_put_90 rfl ?_
                      refine r_if_ne (tgt := 99) C ⟨by omega, by omega⟩ dX4_put_92 (by decide) (fun b133 => ?_) (fun b133 => ?_)
                      · refine r_iconst C ((0 : Nat) : Int) (by decide) dX4_put_99 ?_
                        refine r_istore (lv' := [(0, .ref (ad (88))), (1, .long (x)), (3, .int (iI ((n : Nat) : Int))), (4, .int (iI ((0 : Nat) : Int))), (5, .int (iI ((k : Nat) : Int))), (6, .int (iI ((byt x k : Nat) : Int)))]) C dX4_put_100 (by decide) rfl ?_
                        refine r_iinc (lv' := [(0, .ref (ad (88))), (1, .long (x)), (3, .int (iI ((n : Nat) : Int))), (4, .int (iI ((0 : Nat) : Int))), (5, .int (iI ((k + 1 : Nat) : Int))), (6, .int (iI ((byt x k : Nat) : Int)))]) C ((k + 1 : Nat) : Int) (by omega) dX4_put_102 rfl (by decide) rfl ?_
                        refine r_goto (tgt := 43) C dX4_put_105 (by decide) ?_
                        refine r_sub (ks := [0, 1, 2, 3, 4]) (lv' := [(0, .ref (ad (88))), (1, .long (x)), (3, .int (iI ((n : Nat) : Int))), (4, .int (iI ((0 : Nat) : Int))), (5, .int (iI ((k + 1 : Nat) : Int)))]) rfl ?_
                        exact ih107 0 (k + 1) (by omega) (ps_0 hps (by unfold PC; omega)) (by omega)
                      · refine r_iconst C ((1 : Nat) : Int) (by decide) dX4_put_95 ?_
                        refine r_goto (tgt := 100) C dX4_put_96 (by decide) ?_
                        refine r_istore (lv' := [(0, .ref (ad (88))), (1, .long (x)), (3, .int (iI ((n : Nat) : Int))), (4, .int (iI ((1 : Nat) : Int))), (5, .int (iI ((k : Nat) : Int))), (6, .int (iI ((byt x k : Nat) : Int)))]) C dX4_put_100 (by decide) rfl ?_
                        refine r_iinc (lv' := [(0, .ref (ad (88))), (1, .long (x)), (3, .int (iI ((n : Nat) : Int))), (4, .int (iI ((1 : Nat) : Int))), (5, .int (iI ((k + 1 : Nat) : Int))), (6, .int (iI ((byt x k : Nat) : Int)))]) C ((k + 1 : Nat) : Int) (by omega) dX4_put_102 rfl (by decide) rfl ?_
                        refine r_goto (tgt := 43) C dX4_put_105 (by decide) ?_
                        refine r_sub (ks := [0, 1, 2, 3, 4]) (lv' := [(0, .ref (ad (88))), (1, .long (x)), (3, .int (iI ((n : Nat) : Int))), (4, .int (iI ((1 : Nat) : Int))), (5, .int (iI ((k + 1 : Nat) : Int)))]) rfl ?_
                        exact ih107 1 (k + 1) (by omega) (ps_1 hps (by omega) (by unfold PC; omega)) (by omega)
                    · refine r_iload C dX4_put_75 rfl ?_
                      refine r_bipush C ((33 : Nat) : Int) (by decide) dX4_put_77 ?_
                      refine r_bipush C ((126 : Nat) : Int) (by decide) dX4_put_79 ?_
                      refine r_callS (As := [.int (iI ((byt x k : Nat) : Int)), .int (iI ((33 : Nat) : Int)), .int (iI ((126 : Nat) : Int))]) (rest := []) (na := 3) C (c_X4_in G tc l ad N _ ((byt x k : Nat) : Int) ((33 : Nat) : Int) ((126 : Nat) : Int) ⟨by omega, by omega⟩ ⟨by omega, by omega⟩ ⟨by omega, by omega⟩) gX4_put_X4_in rfl rfl rfl (by decide +kernel) ⟨Nat.le_of_ble_eq_true rfl, Nat.le_of_ble_eq_true rfl⟩ rfl rfl (Nat.le_of_ble_eq_true rfl) dX4_put_81 ⟨Nat.le_of_ble_eq_true rfl, Nat.le_of_ble_eq_true rfl⟩ (aft_I (fun f134 hF135 => ?_))
                      rw [hF135]
                      refine r_if_eq (tgt := 99) C ⟨by omega, by omega⟩ dX4_put_84 (by decide) (fun b136 => ?_) (fun b136 => ?_)
                      · refine r_iconst C ((0 : Nat) : Int) (by decide) dX4_put_99 ?_
                        refine r_istore (lv' := [(0, .ref (ad (88))), (1, .long (x)), (3, .int (iI ((n : Nat) : Int))), (4, .int (iI ((0 : Nat) : Int))), (5, .int (iI ((k : Nat) : Int))), (6, .int (iI ((byt x k : Nat) : Int)))]) C dX4_put_100 (by decide) rfl ?_
                        refine r_iinc (lv' := [(0, .ref (ad (88))), (1, .long (x)), (3, .int (iI ((n : Nat) : Int))), (4, .int (iI ((0 : Nat) : Int))), (5, .int (iI ((k + 1 : Nat) : Int))), (6, .int (iI ((byt x k : Nat) : Int)))]) C ((k + 1 : Nat) : Int) (by omega) dX4_put_102 rfl (by decide) rfl ?_
                        refine r_goto (tgt := 43) C dX4_put_105 (by decide) ?_
                        refine r_sub (ks := [0, 1, 2, 3, 4]) (lv' := [(0, .ref (ad (88))), (1, .long (x)), (3, .int (iI ((n : Nat) : Int))), (4, .int (iI ((0 : Nat) : Int))), (5, .int (iI ((k + 1 : Nat) : Int)))]) rfl ?_
                        exact ih107 0 (k + 1) (by omega) (ps_0 hps (by unfold PC; omega)) (by omega)
                      · refine r_goto (tgt := 95) C dX4_put_87 (by decide) ?_
                        refine r_iconst C ((1 : Nat) : Int) (by decide) dX4_put_95 ?_
                        refine r_goto (tgt := 100) C dX4_put_96 (by decide) ?_
                        refine r_istore (lv' := [(0, .ref (ad (88))), (1, .long (x)), (3, .int (iI ((n : Nat) : Int))), (4, .int (iI ((1 : Nat) : Int))), (5, .int (iI ((k : Nat) : Int))), (6, .int (iI ((byt x k : Nat) : Int)))]) C dX4_put_100 (by decide) rfl ?_
                        refine r_iinc (lv' := [(0, .ref (ad (88))), (1, .long (x)), (3, .int (iI ((n : Nat) : Int))), (4, .int (iI ((1 : Nat) : Int))), (5, .int (iI ((k + 1 : Nat) : Int))), (6, .int (iI ((byt x k : Nat) : Int)))]) C ((k + 1 : Nat) : Int) (by omega) dX4_put_102 rfl (by decide) rfl ?_
                        refine r_goto (tgt := 43) C dX4_put_105 (by decide) ?_
                        refine r_sub (ks := [0, 1, 2, 3, 4]) (lv' := [(0, .ref (ad (88))), (1, .long (x)), (3, .int (iI ((n : Nat) : Int))), (4, .int (iI ((1 : Nat) : Int))), (5, .int (iI ((k + 1 : Nat) : Int)))]) rfl ?_
                        exact ih107 1 (k + 1) (by omega) (ps_1 hps (by omega) (by unfold PC; omega)) (by omega)
            exact hL105 _ 1 0 (by omega) (Or.inl ⟨rfl, by omega, fun j hj => absurd hj (Nat.not_lt_zero _)⟩) (Nat.lt_succ_self _)
        · refine r_iinc (lv' := [(0, .ref (ad (88))), (1, .long (x)), (3, .int (iI ((n + 1 : Nat) : Int)))]) C ((n + 1 : Nat) : Int) (by omega) dX4_put_23 rfl (by decide) rfl ?_
          refine r_goto (tgt := 2) C dX4_put_26 (by decide) ?_
          exact ih3 (n + 1) (by omega) (fun j hj => if h : j < n then h0 j h else (by have e : j = n := (by omega); rw [e]; omega)) (by omega)
  exact hL1 _ 0 (by omega) (fun j hj => absurd hj (Nat.not_lt_zero _)) (Nat.lt_succ_self _)
set_option maxHeartbeats 4000000 in
set_option maxRecDepth 100000 in
/-- wipe -/
theorem c_X4_wipe (G : va_G) (tc : Nat → ClassId) (l : Launch) (ad : Nat → Nat) (N : Nat) (f : Nat → va_E) (s : SG) (hM : MI tc ad f s) (ho : okS s) (hN : 98 ≤ N)    : Ct G tc l yX4_wipe wsX4_wipe { frames := 0, cells := 0, slots := 0, locals := 0 } 0 0 [.ref (ad (88))] ad N f (poI ad N (((pln s : Nat) : Int)) (fun f' => MI tc ad f' (nWip s) ∧ ∀ q, (q < 88 ∨ 98 ≤ q) → f' q = f q)) := by
  obtain ⟨⟨x1, x2, x3, x4, m88⟩, m89', ⟨bb, m90, hbb⟩, ⟨sb, m91, hsb⟩, ⟨ig, m92, hig⟩, m93, ⟨wc, wv, wo, wn, m94, m95, m96, m97⟩⟩ := id hM
  have m89 : f 89 = eI tc 655 (fun j => iI ((nwF ((cur s).1, (cur s).2.1, (cur s).2.2.1, (cur s).2.2.2) j : Nat) : Int)) := m89'
  obtain ⟨⟨⟨a1, a2⟩, ⟨a3, a4⟩, ⟨a5, a6⟩, a7, a8, a9, a10⟩, o2, o3, o4, o5, o6⟩ := id ho
  refine stI (cc := cX4_wipe) (maxL := 2) (lv := [(0, .ref (ad (88)))]) (by decide) rfl (Nat.le_of_ble_eq_true rfl) rfl (fun X C hret => ?_)
  have m0 : Cond.fieldLink RX4 62 "WordSamplesModel" "padded" "I" ∈ wsX4_wipe := by decide +kernel
  have m1 : ∀ w ∈ wsX40, w ∈ wsX4_wipe := by decide +kernel
  refine r_aload_n C dX4_wipe_0 rfl rfl ?_
  refine r_get (v := .int (iI ((pln s : Nat) : Int))) C (by omega) m88 (show vwCl[4]? = some (RX4, TX4, 15) from rfl) m1 6 (by decide) m0 rfl rfl dX4_wipe_1 ?_
  refine r_istore_n (lv' := [(0, .ref (ad (88))), (1, .int (iI ((pln s : Nat) : Int)))]) C dX4_wipe_4 rfl (by decide) rfl ?_
  refine r_aload_n C dX4_wipe_5 rfl rfl ?_
  refine r_iconst C ((0 : Nat) : Int) (by decide) dX4_wipe_6 ?_
  refine r_put (ty := .int) C (by omega) m88 (show vwCl[4]? = some (RX4, TX4, 15) from rfl) m1 tyX4_ok nmX4 6 (by decide) m0 rfl rfl (by decide +kernel) rfl rfl (Nat.le_of_ble_eq_true rfl) dX4_wipe_7 (fun f1 hs2 ho3 => ?_)
  have c4 : f1 (88) = eO 4 [.ref (ad (89)), .ref (ad (90)), .int (iI ((kno s : Nat) : Int)), .ref (ad (91)), .ref (ad (92)), .ref (ad (93)), .int (iI ((0 : Nat) : Int)), .ref (ad (94)), .ref (ad (95)), .ref (ad (96)), .ref (ad (97)), .int (x1), .int (x2), .int (x3), .int (x4)] := hs2
  refine r_iload_n C dX4_wipe_10 rfl rfl ?_
  have c5 : f1 (93) = eI tc 64 (fun j => iI ((pad s j : Nat) : Int)) := (ho3 _ (by omega)).trans m93
  exact hret f1 ((pln s : Nat) : Int) _ _ dX4_wipe_11 rfl (⟨M_pad hM c4 c5 (fun q g1 g2 g3 => (ho3 _ (by omega))), fun q hq => (ho3 _ (by omega))⟩)
set_option maxHeartbeats 4000000 in
set_option maxRecDepth 100000 in
/-- undo -/
theorem c_X4_undo (G : va_G) (tc : Nat → ClassId) (l : Launch) (ad : Nat → Nat) (N : Nat) (f : Nat → va_E) (s : SG) (hM : MI tc ad f s) (ho : okS s) (hN : 98 ≤ N)    : Ct G tc l yX4_undo wsX4_undo { frames := 0, cells := 0, slots := 0, locals := 0 } 0 0 [.ref (ad (88))] ad N f (poI ad N (aUnd s) (fun f' => MI tc ad f' (nUnd s) ∧ ∀ q, (q < 88 ∨ 98 ≤ q) → f' q = f q)) := by
  obtain ⟨⟨x1, x2, x3, x4, m88⟩, m89', ⟨bb, m90, hbb⟩, ⟨sb, m91, hsb⟩, ⟨ig, m92, hig⟩, m93, ⟨wc, wv, wo, wn, m94, m95, m96, m97⟩⟩ := id hM
  have m89 : f 89 = eI tc 655 (fun j => iI ((nwF ((cur s).1, (cur s).2.1, (cur s).2.2.1, (cur s).2.2.2) j : Nat) : Int)) := m89'
  obtain ⟨⟨⟨a1, a2⟩, ⟨a3, a4⟩, ⟨a5, a6⟩, a7, a8, a9, a10⟩, o2, o3, o4, o5, o6⟩ := id ho
  refine stI (cc := cX4_undo) (maxL := 2) (lv := [(0, .ref (ad (88)))]) (by decide) rfl (Nat.le_of_ble_eq_true rfl) rfl (fun X C hret => ?_)
  have m0 : Cond.fieldLink RX4 47 "WordSamplesModel" "known" "I" ∈ wsX4_undo := by decide +kernel
  have m1 : ∀ w ∈ wsX40, w ∈ wsX4_undo := by decide +kernel
  have m2 : Cond.fieldLink RX4 7 "WordSamplesModel" "now" "[I" ∈ wsX4_undo := by decide +kernel
  have m3 : Cond.fieldLink RX4 13 "WordSamplesModel" "before" "[I" ∈ wsX4_undo := by decide +kernel
  refine r_aload_n C dX4_undo_0 rfl rfl ?_
  refine r_get (v := .int (iI ((kno s : Nat) : Int))) C (by omega) m88 (show vwCl[4]? = some (RX4, TX4, 15) from rfl) m1 2 (by decide) m0 rfl rfl dX4_undo_1 ?_
  refine r_if_ne (tgt := 10) C ⟨by omega, by omega⟩ dX4_undo_4 (by decide) (fun b1 => ?_) (fun b1 => ?_)
  · refine r_aload_n C dX4_undo_10 rfl rfl ?_
    refine r_dup C dX4_undo_11 rfl ?_
    refine r_get (v := .int (iI ((kno s : Nat) : Int))) C (by omega) m88 (show vwCl[4]? = some (RX4, TX4, 15) from rfl) m1 2 (by decide) m0 rfl rfl dX4_undo_12 ?_
    refine r_iconst C ((1 : Nat) : Int) (by decide) dX4_undo_15 ?_
    refine r_isub C ((kno s - 1 : Nat) : Int) (by omega) dX4_undo_16 ?_
    refine r_put (ty := .int) C (by omega) m88 (show vwCl[4]? = some (RX4, TX4, 15) from rfl) m1 tyX4_ok nmX4 2 (by decide) m0 rfl rfl (by decide +kernel) rfl rfl (Nat.le_of_ble_eq_true rfl) dX4_undo_17 (fun f2 hs3 ho4 => ?_)
    have c5 : f2 (88) = eO 4 [.ref (ad (89)), .ref (ad (90)), .int (iI ((kno s - 1 : Nat) : Int)), .ref (ad (91)), .ref (ad (92)), .ref (ad (93)), .int (iI ((pln s : Nat) : Int)), .ref (ad (94)), .ref (ad (95)), .ref (ad (96)), .ref (ad (97)), .int (x1), .int (x2), .int (x3), .int (x4)] := hs3
    refine r_iconst C ((0 : Nat) : Int) (by decide) dX4_undo_20 ?_
    refine r_istore_n (lv' := [(0, .ref (ad (88))), (1, .int (iI ((0 : Nat) : Int)))]) C dX4_undo_21 rfl (by decide) rfl ?_
    have hL9 : ∀ (m_10 : Nat) (k : Nat) (f6 : Nat → va_E) (hm7 : f6 (89) = eI tc 655 (fun j => iI (((mixN (nwF ((hst s (kno s - 1)).1, (hst s (kno s - 1)).2.1, (hst s (kno s - 1)).2.2.1, (hst s (kno s - 1)).2.2.2)) (nwF ((cur s).1, (cur s).2.1, (cur s).2.2.1, (cur s).2.2.2)) k) j : Nat) : Int))) (ho8 : ∀ q, q ≠ 89 → f6 q = f2 q) (hk : k ≤ 655), 655 - k < m_10 → VV X ad N f6 0 0 22 [(0, .ref (ad (88))), (1, .int (iI ((k : Nat) : Int)))] [] := by
      intro m_10
      induction m_10 with
      | zero => intros; omega
      | succ m_10 ih11 =>
        intro k f6 hm7 ho8 hk hm12
        refine r_iload_n C dX4_undo_22 rfl rfl ?_
        refine r_sipush C ((655 : Nat) : Int) (by decide) dX4_undo_23 ?_
        refine r_icmp_ge (tgt := 56) C ⟨by omega, by omega⟩ ⟨by omega, by omega⟩ dX4_undo_26 (by decide) (fun b13 => ?_) (fun b13 => ?_)
        · have hke : k = 655 := by omega
          rw [hke] at hm7
          refine r_cv1 hm7 (fun j => iI ((nwF ((hst s (kno s - 1)).1, (hst s (kno s - 1)).2.1, (hst s (kno s - 1)).2.2.1, (hst s (kno s - 1)).2.2.2) j : Nat) : Int)) (fun j hj => by unfold mixN; rw [if_pos hj]) (fun f14 hs15 ho16 => ?_)
          refine r_aload_n C dX4_undo_56 rfl rfl ?_
          have c17 : f6 (88) = eO 4 [.ref (ad (89)), .ref (ad (90)), .int (iI ((kno s - 1 : Nat) : Int)), .ref (ad (91)), .ref (ad (92)), .ref (ad (93)), .int (iI ((pln s : Nat) : Int)), .ref (ad (94)), .ref (ad (95)), .ref (ad (96)), .ref (ad (97)), .int (x1), .int (x2), .int (x3), .int (x4)] := (ho8 _ (by omega)).trans c5
          have c18 : f14 (88) = eO 4 [.ref (ad (89)), .ref (ad (90)), .int (iI ((kno s - 1 : Nat) : Int)), .ref (ad (91)), .ref (ad (92)), .ref (ad (93)), .int (iI ((pln s : Nat) : Int)), .ref (ad (94)), .ref (ad (95)), .ref (ad (96)), .ref (ad (97)), .int (x1), .int (x2), .int (x3), .int (x4)] := (ho16 _ (by omega)).trans c17
          refine r_get (v := .int (iI ((kno s - 1 : Nat) : Int))) C (by omega) c18 (show vwCl[4]? = some (RX4, TX4, 15) from rfl) m1 2 (by decide) m0 rfl rfl dX4_undo_57 ?_
          exact hret f14 ((kno s - 1 : Nat) : Int) _ _ dX4_undo_60 (by unfold aUnd; rw [if_pos (by omega)]) (⟨by unfold nUnd; rw [if_pos (by omega)]; exact M_undo (n := hst s (kno s - 1)) hM (by omega) c18 hs15 (fun q g1 g2 => (((ho16 _ (by omega))).trans (ho8 _ (by omega))).trans (ho4 _ (by omega))), fun q hq => (((ho16 _ (by omega))).trans (ho8 _ (by omega))).trans (ho4 _ (by omega))⟩)
        · refine r_aload_n C dX4_undo_29 rfl rfl ?_
          have c19 : f6 (88) = eO 4 [.ref (ad (89)), .ref (ad (90)), .int (iI ((kno s - 1 : Nat) : Int)), .ref (ad (91)), .ref (ad (92)), .ref (ad (93)), .int (iI ((pln s : Nat) : Int)), .ref (ad (94)), .ref (ad (95)), .ref (ad (96)), .ref (ad (97)), .int (x1), .int (x2), .int (x3), .int (x4)] := (ho8 _ (by omega)).trans c5
          refine r_get (v := .ref (ad (89))) C (by omega) c19 (show vwCl[4]? = some (RX4, TX4, 15) from rfl) m1 0 (by decide) m2 rfl rfl dX4_undo_30 ?_
          refine r_iload_n C dX4_undo_33 rfl rfl ?_
          refine r_aload_n C dX4_undo_34 rfl rfl ?_
          refine r_get (v := .ref (ad (90))) C (by omega) c19 (show vwCl[4]? = some (RX4, TX4, 15) from rfl) m1 1 (by decide) m3 rfl rfl dX4_undo_35 ?_
          refine r_sipush C ((655 : Nat) : Int) (by decide) dX4_undo_38 ?_
          refine r_aload_n C dX4_undo_41 rfl rfl ?_
          refine r_get (v := .int (iI ((kno s - 1 : Nat) : Int))) C (by omega) c19 (show vwCl[4]? = some (RX4, TX4, 15) from rfl) m1 2 (by decide) m0 rfl rfl dX4_undo_42 ?_
          refine r_imul C ((655 * (kno s - 1) : Nat) : Int) (by omega) dX4_undo_45 ?_
          refine r_iload_n C dX4_undo_46 rfl rfl ?_
          refine r_iadd C ((655 * (kno s - 1) + k : Nat) : Int) (by omega) dX4_undo_47 ?_
          have c20 : f2 (90) = eI tc 3930 (bb) := (ho4 _ (by omega)).trans m90
          have c21 : f6 (90) = eI tc 3930 (bb) := (ho8 _ (by omega)).trans c20
          refine r_iald (x := (iI ((nwF ((hst s (kno s - 1)).1, (hst s (kno s - 1)).2.1, (hst s (kno s - 1)).2.2.1, (hst s (kno s - 1)).2.2.2) k : Nat) : Int))) C (by omega) c21 (655 * (kno s - 1) + k) rfl (by omega) (Nat.le_of_ble_eq_true rfl) (hbb _ (by omega) _ (by omega)) dX4_undo_48 ?_
          refine r_iast C (by omega) hm7 (k) rfl (by omega) (Nat.le_of_ble_eq_true rfl) dX4_undo_49 (fun f22 hs23 ho24 => ?_)
          have c25 : f22 (89) = eI tc 655 (fun j => iI (((upN ((mixN (nwF ((hst s (kno s - 1)).1, (hst s (kno s - 1)).2.1, (hst s (kno s - 1)).2.2.1, (hst s (kno s - 1)).2.2.2)) (nwF ((cur s).1, (cur s).2.1, (cur s).2.2.1, (cur s).2.2.2)) k)) (k) (nwF ((hst s (kno s - 1)).1, (hst s (kno s - 1)).2.1, (hst s (kno s - 1)).2.2.1, (hst s (kno s - 1)).2.2.2) k)) j : Nat) : Int)) := hs23.trans (congrArg (fun g => eI tc 655 g) (updN _ _ _))
          refine r_iinc (lv' := [(0, .ref (ad (88))), (1, .int (iI ((k + 1 : Nat) : Int)))]) C ((k + 1 : Nat) : Int) (by omega) dX4_undo_50 rfl (by decide) rfl ?_
          refine r_goto (tgt := 22) C dX4_undo_53 (by decide) ?_
          exact ih11 (k + 1) f22 (c25.trans (by rw [mixN_s])) (fun q hq => ((ho24 _ (by omega))).trans (ho8 _ (by omega))) (by omega) (by omega)
    have c26 : f2 (89) = eI tc 655 (fun j => iI ((nwF ((cur s).1, (cur s).2.1, (cur s).2.2.1, (cur s).2.2.2) j : Nat) : Int)) := (ho4 _ (by omega)).trans m89
    exact hL9 _ 0 f2 (by rw [mixN_0]; exact c26) (fun _ _ => rfl) (by omega) (Nat.lt_succ_self _)
  · refine r_bipush C ((-5)) (by decide) dX4_undo_7 ?_
    exact hret f ((-5)) _ _ dX4_undo_9 (by unfold aUnd; rw [if_neg (by omega)]) (⟨by unfold nUnd; rw [if_neg (by omega)]; exact hM, fun _ _ => rfl⟩)
set_option maxHeartbeats 4000000 in
set_option maxRecDepth 100000 in
/-- save -/
theorem c_X4_save (G : va_G) (tc : Nat → ClassId) (l : Launch) (ad : Nat → Nat) (N : Nat) (f : Nat → va_E) (s : SG) (hM : MI tc ad f s) (ho : okS s) (hN : 98 ≤ N) (z : Int) (hz : inR z)   : Ct G tc l yX4_save wsX4_save { frames := 1, cells := 0, slots := 0, locals := 22 } 0 0 [.ref (ad (88)), .int (iI (z))] ad N f (poI ad N (aSav s z) (fun f' => MI tc ad f' (nSav s z) ∧ ∀ q, (q < 88 ∨ 98 ≤ q) → f' q = f q)) := by
  obtain ⟨⟨x1, x2, x3, x4, m88⟩, m89', ⟨bb, m90, hbb⟩, ⟨sb, m91, hsb⟩, ⟨ig, m92, hig⟩, m93, ⟨wc, wv, wo, wn, m94, m95, m96, m97⟩⟩ := id hM
  have m89 : f 89 = eI tc 655 (fun j => iI ((nwF ((cur s).1, (cur s).2.1, (cur s).2.2.1, (cur s).2.2.2) j : Nat) : Int)) := m89'
  obtain ⟨⟨⟨a1, a2⟩, ⟨a3, a4⟩, ⟨a5, a6⟩, a7, a8, a9, a10⟩, o2, o3, o4, o5, o6⟩ := id ho
  refine stI (cc := cX4_save) (maxL := 3) (lv := [(0, .ref (ad (88))), (1, .int (iI (z)))]) (by decide) rfl (Nat.le_of_ble_eq_true rfl) rfl (fun X C hret => ?_)
  have m0 : Cond.fieldLink RX4 19 "WordSamplesModel" "isStored" "[Z" ∈ wsX4_save := by decide +kernel
  have m1 : ∀ w ∈ wsX40, w ∈ wsX4_save := by decide +kernel
  have m2 : Cond.fieldLink RX4 7 "WordSamplesModel" "now" "[I" ∈ wsX4_save := by decide +kernel
  have m3 : Cond.fieldLink RX4 16 "WordSamplesModel" "stored" "[I" ∈ wsX4_save := by decide +kernel
  refine r_iload_n C dX4_save_0 rfl rfl ?_
  refine r_iconst C ((0 : Nat) : Int) (by decide) dX4_save_1 ?_
  refine r_iconst C ((1 : Nat) : Int) (by decide) dX4_save_2 ?_
  refine r_callS (As := [.int (iI (z)), .int (iI ((0 : Nat) : Int)), .int (iI ((1 : Nat) : Int))]) (rest := []) (na := 3) C (c_X4_in G tc l ad N _ (z) ((0 : Nat) : Int) ((1 : Nat) : Int) ⟨by omega, by omega⟩ ⟨by omega, by omega⟩ ⟨by omega, by omega⟩) gX4_save_X4_in rfl rfl rfl (by decide +kernel) ⟨Nat.le_of_ble_eq_true rfl, Nat.le_of_ble_eq_true rfl⟩ rfl rfl (Nat.le_of_ble_eq_true rfl) dX4_save_3 ⟨Nat.le_of_ble_eq_true rfl, Nat.le_of_ble_eq_true rfl⟩ (aft_I (fun f1 hF2 => ?_))
  rw [hF2]
  refine r_if_ne (tgt := 12) C ⟨by omega, by omega⟩ dX4_save_6 (by decide) (fun b3 => ?_) (fun b3 => ?_)
  · rw [show (.int (iI (z)) : Value) = .int (iI ((z.toNat : Nat) : Int)) from by rw [Int.toNat_of_nonneg (by omega)]]
    refine r_iconst C ((0 : Nat) : Int) (by decide) dX4_save_12 ?_
    refine r_istore_n (lv' := [(0, .ref (ad (88))), (1, .int (iI ((z.toNat : Nat) : Int))), (2, .int (iI ((0 : Nat) : Int)))]) C dX4_save_13 rfl (by decide) rfl ?_
    have hL7 : ∀ (m_8 : Nat) (k : Nat) (f4 : Nat → va_E) (hm5 : f4 (91) = eI tc 1310 ((bw sb ((cur s).1, (cur s).2.1, (cur s).2.2.1, (cur s).2.2.2) z.toNat k))) (ho6 : ∀ q, q ≠ 91 → f4 q = f q) (hk : k ≤ 655), 655 - k < m_8 → VV X ad N f4 0 0 14 [(0, .ref (ad (88))), (1, .int (iI ((z.toNat : Nat) : Int))), (2, .int (iI ((k : Nat) : Int)))] [] := by
      intro m_8
      induction m_8 with
      | zero => intros; omega
      | succ m_8 ih9 =>
        intro k f4 hm5 ho6 hk hm10
        refine r_iload_n C dX4_save_14 rfl rfl ?_
        refine r_sipush C ((655 : Nat) : Int) (by decide) dX4_save_15 ?_
        refine r_icmp_ge (tgt := 45) C ⟨by omega, by omega⟩ ⟨by omega, by omega⟩ dX4_save_18 (by decide) (fun b11 => ?_) (fun b11 => ?_)
        · have hke : k = 655 := by omega
          rw [hke] at hm5
          refine r_aload_n C dX4_save_45 rfl rfl ?_
          have c12 : f4 (88) = eO 4 [.ref (ad (89)), .ref (ad (90)), .int (iI ((kno s : Nat) : Int)), .ref (ad (91)), .ref (ad (92)), .ref (ad (93)), .int (iI ((pln s : Nat) : Int)), .ref (ad (94)), .ref (ad (95)), .ref (ad (96)), .ref (ad (97)), .int (x1), .int (x2), .int (x3), .int (x4)] := (ho6 _ (by omega)).trans m88
          refine r_get (v := .ref (ad (92))) C (by omega) c12 (show vwCl[4]? = some (RX4, TX4, 15) from rfl) m1 4 (by decide) m0 rfl rfl dX4_save_46 ?_
          refine r_iload_n C dX4_save_49 rfl rfl ?_
          refine r_iconst C ((1 : Nat) : Int) (by decide) dX4_save_50 ?_
          have c13 : f4 (92) = eB tc 2 (ig) := (ho6 _ (by omega)).trans m92
          refine r_zast C (by omega) c13 (z.toNat) rfl (by omega) (Nat.le_of_ble_eq_true rfl) rfl dX4_save_51 (fun f14 hs15 ho16 => ?_)
          refine r_aload_n C dX4_save_52 rfl rfl ?_
          have c17 : f14 (88) = eO 4 [.ref (ad (89)), .ref (ad (90)), .int (iI ((kno s : Nat) : Int)), .ref (ad (91)), .ref (ad (92)), .ref (ad (93)), .int (iI ((pln s : Nat) : Int)), .ref (ad (94)), .ref (ad (95)), .ref (ad (96)), .ref (ad (97)), .int (x1), .int (x2), .int (x3), .int (x4)] := (ho16 _ (by omega)).trans c12
          refine r_get (v := .ref (ad (89))) C (by omega) c17 (show vwCl[4]? = some (RX4, TX4, 15) from rfl) m1 0 (by decide) m2 rfl rfl dX4_save_53 ?_
          refine r_iconst C ((4 : Nat) : Int) (by decide) dX4_save_56 ?_
          have c18 : f4 (89) = eI tc 655 (fun j => iI ((nwF ((cur s).1, (cur s).2.1, (cur s).2.2.1, (cur s).2.2.2) j : Nat) : Int)) := (ho6 _ (by omega)).trans m89
          have c19 : f14 (89) = eI tc 655 (fun j => iI ((nwF ((cur s).1, (cur s).2.1, (cur s).2.2.1, (cur s).2.2.2) j : Nat) : Int)) := (ho16 _ (by omega)).trans c18
          refine r_iald (x := (iI (((cur s).2.2.2 : Nat) : Int))) C (by omega) c19 (4) rfl (by omega) (Nat.le_of_ble_eq_true rfl) (rfl) dX4_save_57 ?_
          have c20 : f14 (91) = eI tc 1310 ((bw sb ((cur s).1, (cur s).2.1, (cur s).2.2.1, (cur s).2.2.2) z.toNat 655)) := (ho16 _ (by omega)).trans hm5
          exact hret f14 (((cur s).2.2.2 : Nat) : Int) _ _ dX4_save_58 (by unfold aSav; rw [if_pos (by omega)]) (⟨by unfold nSav; rw [if_pos (by omega)]; exact M_save hM c20 hs15 hsb hig (fun q g1 g2 g3 => ((ho16 _ (by omega))).trans (ho6 _ (by omega))), fun q hq => ((ho16 _ (by omega))).trans (ho6 _ (by omega))⟩)
        · refine r_aload_n C dX4_save_21 rfl rfl ?_
          have c21 : f4 (88) = eO 4 [.ref (ad (89)), .ref (ad (90)), .int (iI ((kno s : Nat) : Int)), .ref (ad (91)), .ref (ad (92)), .ref (ad (93)), .int (iI ((pln s : Nat) : Int)), .ref (ad (94)), .ref (ad (95)), .ref (ad (96)), .ref (ad (97)), .int (x1), .int (x2), .int (x3), .int (x4)] := (ho6 _ (by omega)).trans m88
          refine r_get (v := .ref (ad (91))) C (by omega) c21 (show vwCl[4]? = some (RX4, TX4, 15) from rfl) m1 3 (by decide) m3 rfl rfl dX4_save_22 ?_
          refine r_sipush C ((655 : Nat) : Int) (by decide) dX4_save_25 ?_
          refine r_iload_n C dX4_save_28 rfl rfl ?_
          refine r_imul C ((655 * z.toNat : Nat) : Int) (by omega) dX4_save_29 ?_
          refine r_iload_n C dX4_save_30 rfl rfl ?_
          refine r_iadd C ((655 * z.toNat + k : Nat) : Int) (by omega) dX4_save_31 ?_
          refine r_aload_n C dX4_save_32 rfl rfl ?_
          refine r_get (v := .ref (ad (89))) C (by omega) c21 (show vwCl[4]? = some (RX4, TX4, 15) from rfl) m1 0 (by decide) m2 rfl rfl dX4_save_33 ?_
          refine r_iload_n C dX4_save_36 rfl rfl ?_
          have c22 : f4 (89) = eI tc 655 (fun j => iI ((nwF ((cur s).1, (cur s).2.1, (cur s).2.2.1, (cur s).2.2.2) j : Nat) : Int)) := (ho6 _ (by omega)).trans m89
          refine r_iald (x := (iI ((nwF ((cur s).1, (cur s).2.1, (cur s).2.2.1, (cur s).2.2.2) k : Nat) : Int))) C (by omega) c22 (k) rfl (by omega) (Nat.le_of_ble_eq_true rfl) (rfl) dX4_save_37 ?_
          refine r_iast C (by omega) hm5 (655 * z.toNat + k) rfl (by omega) (Nat.le_of_ble_eq_true rfl) dX4_save_38 (fun f23 hs24 ho25 => ?_)
          have c26 : f23 (91) = eI tc 1310 ((bw sb ((cur s).1, (cur s).2.1, (cur s).2.2.1, (cur s).2.2.2) z.toNat (k + 1))) := hs24.trans (congrArg (fun g => eI tc 1310 g) (bw_s _ _ _ _))
          refine r_iinc (lv' := [(0, .ref (ad (88))), (1, .int (iI ((z.toNat : Nat) : Int))), (2, .int (iI ((k + 1 : Nat) : Int)))]) C ((k + 1 : Nat) : Int) (by omega) dX4_save_39 rfl (by decide) rfl ?_
          refine r_goto (tgt := 14) C dX4_save_42 (by decide) ?_
          exact ih9 (k + 1) f23 c26 (fun q hq => ((ho25 _ (by omega))).trans (ho6 _ (by omega))) (by omega) (by omega)
    exact hL7 _ 0 f (by rw [bw_0]; exact m91) (fun _ _ => rfl) (by omega) (Nat.lt_succ_self _)
  · refine r_bipush C ((-2)) (by decide) dX4_save_9 ?_
    exact hret f ((-2)) _ _ dX4_save_11 (by unfold aSav; rw [if_neg (by omega)]) (⟨by unfold nSav; rw [if_neg (by omega)]; exact hM, fun _ _ => rfl⟩)
set_option maxHeartbeats 4000000 in
set_option maxRecDepth 100000 in
/-- restore -/
theorem c_X4_restore (G : va_G) (tc : Nat → ClassId) (l : Launch) (ad : Nat → Nat) (N : Nat) (f : Nat → va_E) (s : SG) (hM : MI tc ad f s) (ho : okS s) (hN : 98 ≤ N) (z : Int) (hz : inR z)   : Ct G tc l yX4_restore wsX4_restore { frames := 1, cells := 0, slots := 0, locals := 22 } 0 0 [.ref (ad (88)), .int (iI (z))] ad N f (poI ad N (aRes s z) (fun f' => MI tc ad f' (nRes s z) ∧ ∀ q, (q < 88 ∨ 98 ≤ q) → f' q = f q)) := by
  obtain ⟨⟨x1, x2, x3, x4, m88⟩, m89', ⟨bb, m90, hbb⟩, ⟨sb, m91, hsb⟩, ⟨ig, m92, hig⟩, m93, ⟨wc, wv, wo, wn, m94, m95, m96, m97⟩⟩ := id hM
  have m89 : f 89 = eI tc 655 (fun j => iI ((nwF ((cur s).1, (cur s).2.1, (cur s).2.2.1, (cur s).2.2.2) j : Nat) : Int)) := m89'
  obtain ⟨⟨⟨a1, a2⟩, ⟨a3, a4⟩, ⟨a5, a6⟩, a7, a8, a9, a10⟩, o2, o3, o4, o5, o6⟩ := id ho
  refine stI (cc := cX4_restore) (maxL := 3) (lv := [(0, .ref (ad (88))), (1, .int (iI (z)))]) (by decide) rfl (Nat.le_of_ble_eq_true rfl) rfl (fun X C hret => ?_)
  have m0 : Cond.fieldLink RX4 19 "WordSamplesModel" "isStored" "[Z" ∈ wsX4_restore := by decide +kernel
  have m1 : ∀ w ∈ wsX40, w ∈ wsX4_restore := by decide +kernel
  have m2 : Cond.fieldLink RX4 7 "WordSamplesModel" "now" "[I" ∈ wsX4_restore := by decide +kernel
  have m3 : Cond.fieldLink RX4 16 "WordSamplesModel" "stored" "[I" ∈ wsX4_restore := by decide +kernel
  refine r_iload_n C dX4_restore_0 rfl rfl ?_
  refine r_iconst C ((0 : Nat) : Int) (by decide) dX4_restore_1 ?_
  refine r_iconst C ((1 : Nat) : Int) (by decide) dX4_restore_2 ?_
  refine r_callS (As := [.int (iI (z)), .int (iI ((0 : Nat) : Int)), .int (iI ((1 : Nat) : Int))]) (rest := []) (na := 3) C (c_X4_in G tc l ad N _ (z) ((0 : Nat) : Int) ((1 : Nat) : Int) ⟨by omega, by omega⟩ ⟨by omega, by omega⟩ ⟨by omega, by omega⟩) gX4_restore_X4_in rfl rfl rfl (by decide +kernel) ⟨Nat.le_of_ble_eq_true rfl, Nat.le_of_ble_eq_true rfl⟩ rfl rfl (Nat.le_of_ble_eq_true rfl) dX4_restore_3 ⟨Nat.le_of_ble_eq_true rfl, Nat.le_of_ble_eq_true rfl⟩ (aft_I (fun f1 hF2 => ?_))
  rw [hF2]
  refine r_if_ne (tgt := 12) C ⟨by omega, by omega⟩ dX4_restore_6 (by decide) (fun b3 => ?_) (fun b3 => ?_)
  · rw [show (.int (iI (z)) : Value) = .int (iI ((z.toNat : Nat) : Int)) from by rw [Int.toNat_of_nonneg (by omega)]]
    refine r_aload_n C dX4_restore_12 rfl rfl ?_
    refine r_get (v := .ref (ad (92))) C (by omega) m88 (show vwCl[4]? = some (RX4, TX4, 15) from rfl) m1 4 (by decide) m0 rfl rfl dX4_restore_13 ?_
    refine r_iload_n C dX4_restore_16 rfl rfl ?_
    refine r_zald (x := (iI ((if sav s z.toNat = true then 1 else 0 : Nat) : Int))) C (by omega) m92 (z.toNat) rfl (by omega) (Nat.le_of_ble_eq_true rfl) (hig z.toNat (by omega)) dX4_restore_17 ?_
    have q4 := if_le1 (sav s z.toNat)
    refine r_if_ne (tgt := 24) C ⟨by omega, by omega⟩ dX4_restore_18 (by decide) (fun b_sv => ?_) (fun b_sv => ?_)
    · have q5 := if_1 b_sv
      refine r_aload_n C dX4_restore_24 rfl rfl ?_
      refine r_callV (As := []) (rest := []) (na := 0) C (c_X4_know G tc l ad N _ s hM ho hN) gX4_restore_X4_know rfl rfl rfl (by decide +kernel) ⟨Nat.le_of_ble_eq_true rfl, Nat.le_of_ble_eq_true rfl⟩ (by omega) m88 (show vwCl[4]? = some (RX4, TX4, 15) from rfl) rfl rfl (Nat.le_of_ble_eq_true rfl) dX4_restore_25 ⟨Nat.le_of_ble_eq_true rfl, Nat.le_of_ble_eq_true rfl⟩ (aft_V (fun f4 hF5 => ?_))
      obtain ⟨hK, hoK⟩ := hF5
      obtain ⟨⟨y1, y2, y3, y4, k88⟩, k89', ⟨kb, k90, hkb⟩, ⟨ks, k91, hks⟩, ⟨kg, k92, hkg⟩, k93, kSc⟩ := id hK
      have k89 : f4 89 = eI tc 655 (fun j => iI ((nwF ((cur s).1, (cur s).2.1, (cur s).2.2.1, (cur s).2.2.2) j : Nat) : Int)) := k89'
      refine r_iconst C ((0 : Nat) : Int) (by decide) dX4_restore_28 ?_
      refine r_istore_n (lv' := [(0, .ref (ad (88))), (1, .int (iI ((z.toNat : Nat) : Int))), (2, .int (iI ((0 : Nat) : Int)))]) C dX4_restore_29 rfl (by decide) rfl ?_
      have hL9 : ∀ (m_10 : Nat) (k : Nat) (f6 : Nat → va_E) (hm7 : f6 (89) = eI tc 655 (fun j => iI (((mixN (nwF ((slo s z.toNat).1, (slo s z.toNat).2.1, (slo s z.toNat).2.2.1, (slo s z.toNat).2.2.2)) (nwF ((cur s).1, (cur s).2.1, (cur s).2.2.1, (cur s).2.2.2)) k) j : Nat) : Int))) (ho8 : ∀ q, q ≠ 89 → f6 q = f4 q) (hk : k ≤ 655), 655 - k < m_10 → VV X ad N f6 0 0 30 [(0, .ref (ad (88))), (1, .int (iI ((z.toNat : Nat) : Int))), (2, .int (iI ((k : Nat) : Int)))] [] := by
        intro m_10
        induction m_10 with
        | zero => intros; omega
        | succ m_10 ih11 =>
          intro k f6 hm7 ho8 hk hm12
          refine r_iload_n C dX4_restore_30 rfl rfl ?_
          refine r_sipush C ((655 : Nat) : Int) (by decide) dX4_restore_31 ?_
          refine r_icmp_ge (tgt := 61) C ⟨by omega, by omega⟩ ⟨by omega, by omega⟩ dX4_restore_34 (by decide) (fun b13 => ?_) (fun b13 => ?_)
          · have hke : k = 655 := by omega
            rw [hke] at hm7
            refine r_cv1 hm7 (fun j => iI ((nwF ((slo s z.toNat).1, (slo s z.toNat).2.1, (slo s z.toNat).2.2.1, (slo s z.toNat).2.2.2) j : Nat) : Int)) (fun j hj => by unfold mixN; rw [if_pos hj]) (fun f14 hs15 ho16 => ?_)
            refine r_aload_n C dX4_restore_61 rfl rfl ?_
            have c17 : f6 (88) = eO 4 [.ref (ad (89)), .ref (ad (90)), .int (iI ((kpush (kno s) : Nat) : Int)), .ref (ad (91)), .ref (ad (92)), .ref (ad (93)), .int (iI ((pln s : Nat) : Int)), .ref (ad (94)), .ref (ad (95)), .ref (ad (96)), .ref (ad (97)), .int (y1), .int (y2), .int (y3), .int (y4)] := (ho8 _ (by omega)).trans k88
            have c18 : f14 (88) = eO 4 [.ref (ad (89)), .ref (ad (90)), .int (iI ((kpush (kno s) : Nat) : Int)), .ref (ad (91)), .ref (ad (92)), .ref (ad (93)), .int (iI ((pln s : Nat) : Int)), .ref (ad (94)), .ref (ad (95)), .ref (ad (96)), .ref (ad (97)), .int (y1), .int (y2), .int (y3), .int (y4)] := (ho16 _ (by omega)).trans c17
            refine r_get (v := .ref (ad (89))) C (by omega) c18 (show vwCl[4]? = some (RX4, TX4, 15) from rfl) m1 0 (by decide) m2 rfl rfl dX4_restore_62 ?_
            refine r_iconst C ((4 : Nat) : Int) (by decide) dX4_restore_65 ?_
            refine r_iald (x := (iI (((slo s z.toNat).2.2.2 : Nat) : Int))) C (by omega) hs15 (4) rfl (by omega) (Nat.le_of_ble_eq_true rfl) (rfl) dX4_restore_66 ?_
            exact hret f14 (((slo s z.toNat).2.2.2 : Nat) : Int) _ _ dX4_restore_67 (by unfold aRes; rw [if_pos (by omega), if_pos q5]) (⟨by unfold nRes; rw [if_pos ⟨by omega, q5⟩]; exact M_now (s := knowS s) hK c18 hs15 (fun q g1 g2 => ((ho16 _ (by omega))).trans (ho8 _ (by omega))), fun q hq => (((ho16 _ (by omega))).trans (ho8 _ (by omega))).trans (hoK _ (by omega))⟩)
          · refine r_aload_n C dX4_restore_37 rfl rfl ?_
            have c19 : f6 (88) = eO 4 [.ref (ad (89)), .ref (ad (90)), .int (iI ((kpush (kno s) : Nat) : Int)), .ref (ad (91)), .ref (ad (92)), .ref (ad (93)), .int (iI ((pln s : Nat) : Int)), .ref (ad (94)), .ref (ad (95)), .ref (ad (96)), .ref (ad (97)), .int (y1), .int (y2), .int (y3), .int (y4)] := (ho8 _ (by omega)).trans k88
            refine r_get (v := .ref (ad (89))) C (by omega) c19 (show vwCl[4]? = some (RX4, TX4, 15) from rfl) m1 0 (by decide) m2 rfl rfl dX4_restore_38 ?_
            refine r_iload_n C dX4_restore_41 rfl rfl ?_
            refine r_aload_n C dX4_restore_42 rfl rfl ?_
            refine r_get (v := .ref (ad (91))) C (by omega) c19 (show vwCl[4]? = some (RX4, TX4, 15) from rfl) m1 3 (by decide) m3 rfl rfl dX4_restore_43 ?_
            refine r_sipush C ((655 : Nat) : Int) (by decide) dX4_restore_46 ?_
            refine r_iload_n C dX4_restore_49 rfl rfl ?_
            refine r_imul C ((655 * z.toNat : Nat) : Int) (by omega) dX4_restore_50 ?_
            refine r_iload_n C dX4_restore_51 rfl rfl ?_
            refine r_iadd C ((655 * z.toNat + k : Nat) : Int) (by omega) dX4_restore_52 ?_
            have c20 : f6 (91) = eI tc 1310 (ks) := (ho8 _ (by omega)).trans k91
            refine r_iald (x := (iI ((nwF ((slo s z.toNat).1, (slo s z.toNat).2.1, (slo s z.toNat).2.2.1, (slo s z.toNat).2.2.2) k : Nat) : Int))) C (by omega) c20 (655 * z.toNat + k) rfl (by omega) (Nat.le_of_ble_eq_true rfl) (hks _ (by omega) q5 _ (by omega)) dX4_restore_53 ?_
            refine r_iast C (by omega) hm7 (k) rfl (by omega) (Nat.le_of_ble_eq_true rfl) dX4_restore_54 (fun f21 hs22 ho23 => ?_)
            have c24 : f21 (89) = eI tc 655 (fun j => iI (((upN ((mixN (nwF ((slo s z.toNat).1, (slo s z.toNat).2.1, (slo s z.toNat).2.2.1, (slo s z.toNat).2.2.2)) (nwF ((cur s).1, (cur s).2.1, (cur s).2.2.1, (cur s).2.2.2)) k)) (k) (nwF ((slo s z.toNat).1, (slo s z.toNat).2.1, (slo s z.toNat).2.2.1, (slo s z.toNat).2.2.2) k)) j : Nat) : Int)) := hs22.trans (congrArg (fun g => eI tc 655 g) (updN _ _ _))
            refine r_iinc (lv' := [(0, .ref (ad (88))), (1, .int (iI ((z.toNat : Nat) : Int))), (2, .int (iI ((k + 1 : Nat) : Int)))]) C ((k + 1 : Nat) : Int) (by omega) dX4_restore_55 rfl (by decide) rfl ?_
            refine r_goto (tgt := 30) C dX4_restore_58 (by decide) ?_
            exact ih11 (k + 1) f21 (c24.trans (by rw [mixN_s])) (fun q hq => ((ho23 _ (by omega))).trans (ho8 _ (by omega))) (by omega) (by omega)
      exact hL9 _ 0 f4 (by rw [mixN_0]; exact k89) (fun _ _ => rfl) (by omega) (Nat.lt_succ_self _)
    · have q5 := if_0 b_sv
      refine r_bipush C ((-5)) (by decide) dX4_restore_21 ?_
      exact hret f ((-5)) _ _ dX4_restore_23 (by unfold aRes; rw [if_pos (by omega), if_neg (by rw [q5]; decide)]) (⟨by unfold nRes; rw [if_neg (fun h => by rw [q5] at h; cases h.2)]; exact hM, fun _ _ => rfl⟩)
  · refine r_bipush C ((-2)) (by decide) dX4_restore_9 ?_
    exact hret f ((-2)) _ _ dX4_restore_11 (by unfold aRes; rw [if_neg (by omega)]) (⟨by unfold nRes; rw [if_neg (by omega)]; exact hM, fun _ _ => rfl⟩)
end MA1
