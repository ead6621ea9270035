section OPS
/-! what each call on the state answers and leaves -/
abbrev isR (s : SG) (z : Int) : Prop := 0 ≤ z ∧ z < (((cur s).2.2.2 : Nat) : Int)
abbrev isP (s : SG) (z p : Int) : Prop := 0 ≤ z ∧ z < (((cur s).2.2.2 : Nat) : Int) ∧ 0 ≤ p ∧ p < (((cur s).2.1 z.toNat : Nat) : Int)
abbrev okSet (z v : Int) : Prop := (0 ≤ z ∧ z ≤ 3) ∧ lS z.toNat ≤ v ∧ v ≤ mS z.toNat
def aSet (s : SG) (z v : Int) : Int := if okSet z v then (((cur s).1 z.toNat : Nat) : Int) else -2
def nSet (s : SG) (z v : Int) : SG := if okSet z v then setC (knowS s) (upN (cur s).1 z.toNat v.toNat, (cur s).2) else s
def aAdd (s : SG) : Int := if fau (pad s) (pln s) = -6 then (if (cur s).2.2.2 < 10 then (((cur s).2.2.2 : Nat) : Int) else -4) else -3
def nAdd (s : SG) : SG := if fau (pad s) (pln s) = -6 ∧ (cur s).2.2.2 < 10 then
  setP (setC (knowS s) (pour ((cur s).1, upN (cur s).2.1 (cur s).2.2.2 0, (cur s).2.2.1, (cur s).2.2.2 + 1) (cur s).2.2.2 (pad s) (pln s))) (pad s) 0 else s
def aApp (s : SG) (z : Int) : Int := if isR s z then (if fau (pad s) (pln s) = -6 then (if (cur s).2.1 z.toNat + pln s ≤ 64 then (((cur s).2.1 z.toNat + pln s : Nat) : Int) else -4) else -3) else -1
def nApp (s : SG) (z : Int) : SG := if isR s z ∧ fau (pad s) (pln s) = -6 ∧ (cur s).2.1 z.toNat + pln s ≤ 64 then setP (setC (knowS s) (pour (cur s) z.toNat (pad s) (pln s))) (pad s) 0 else s
abbrev ok26 (v : Int) : Prop := 0 ≤ v ∧ v ≤ 26
def aChg (s : SG) (z p v : Int) : Int := if isP s z p then (if ok26 v then (((cur s).2.2.1 (z.toNat * 64 + p.toNat) : Nat) : Int) else -2) else -1
def nChg (s : SG) (z p v : Int) : SG := if isP s z p ∧ ok26 v then setC (knowS s) ((cur s).1, (cur s).2.1, upN (cur s).2.2.1 (z.toNat * 64 + p.toNat) v.toNat, (cur s).2.2.2) else s
def outL (L : Nat → Nat) (r R : Nat) : Nat → Nat := fun j => if r ≤ j ∧ j + 1 < R then L (j + 1) else L j
def outG (g : Nat → Nat) (r R : Nat) : Nat → Nat := fun j => if r * 64 ≤ j ∧ j + 64 < R * 64 then g (j + 64) else g j
def aRem (s : SG) (z : Int) : Int := if isR s z then (((cur s).2.2.2 - 1 : Nat) : Int) else -1
def nRem (s : SG) (z : Int) : SG := if isR s z then setC (knowS s) ((cur s).1, outL (cur s).2.1 z.toNat (cur s).2.2.2, outG (cur s).2.2.1 z.toNat (cur s).2.2.2, (cur s).2.2.2 - 1) else s
def aSgn (s : SG) (z p : Int) : Int := if isP s z p then (((cur s).2.2.1 (z.toNat * 64 + p.toNat) : Nat) : Int) else -1
def byt (x : Int64) (p : Nat) : Nat := (x.toBitVec.toNat / 2 ^ (8 * p)) % 256
def gap (x : Int64) : Nat := frst (fun j => decide (byt x j = 0)) 8
abbrev okCh (x : Int64) : Prop := ∀ j, j < 8 → (j < gap x → 33 ≤ byt x j ∧ byt x j ≤ 126) ∧ (¬ j < gap x → byt x j = 0)
def nch (x : Int64) : Nat := if okCh x then gap x else 0
def putF (p : Nat → Nat) (pl : Nat) (x : Int64) (n k : Nat) : Nat → Nat := fun j => if pl ≤ j ∧ j < pl + k then byt x (n - 1 - (j - pl)) else p j
def aPut (s : SG) (x : Int64) : Int := if nch x = 0 then -2 else if pln s + nch x ≤ 64 then ((pln s + nch x : Nat) : Int) else -4
def nPut (s : SG) (x : Int64) : SG := if nch x ≠ 0 ∧ pln s + nch x ≤ 64 then setP s (putF (pad s) (pln s) x (nch x) (nch x)) (pln s + nch x) else s
def nWip (s : SG) : SG := setP s (pad s) 0
def aUnd (s : SG) : Int := if 0 < kno s then ((kno s - 1 : Nat) : Int) else -5
def nUnd (s : SG) : SG := if 0 < kno s then (hst s (kno s - 1), hst s, kno s - 1, slo s, sav s, pad s, pln s) else s
abbrev ok2 (z : Int) : Prop := 0 ≤ z ∧ z ≤ 1
def aSav (s : SG) (z : Int) : Int := if ok2 z then (((cur s).2.2.2 : Nat) : Int) else -2
def nSav (s : SG) (z : Int) : SG := if ok2 z then (cur s, hst s, kno s, (fun k => if k = z.toNat then cur s else slo s k), (fun k => if k = z.toNat then true else sav s k), pad s, pln s) else s
def aRes (s : SG) (z : Int) : Int := if ok2 z then (if sav s z.toNat = true then (((slo s z.toNat).2.2.2 : Nat) : Int) else -5) else -2
def nRes (s : SG) (z : Int) : SG := if ok2 z ∧ sav s z.toNat = true then setC (knowS s) (slo s z.toNat) else s
/-! lemmas -/
theorem cpyL (L : Nat → Nat) {r R : Nat} (h : r < R) : va_cpy (fun j => iI ((L j : Nat) : Int)) (fun j => iI ((L j : Nat) : Int)) (r + 1) r (R - 1 - r) = fun j => iI ((outL L r R j : Nat) : Int) := by
  funext j
  unfold va_cpy outL
  by_cases h2 : r ≤ j ∧ j + 1 < R
  · rw [if_pos (by omega), if_pos h2, show r + 1 + (j - r) = j + 1 from by omega]
  · rw [if_neg (by omega), if_neg h2]
theorem cpyG (g : Nat → Nat) {r R : Nat} (h : r < R) : va_cpy (fun j => iI ((g j : Nat) : Int)) (fun j => iI ((g j : Nat) : Int)) ((r + 1) * 64) (r * 64) ((R - 1 - r) * 64) = fun j => iI ((outG g r R j : Nat) : Int) := by
  funext j
  unfold va_cpy outG
  by_cases h2 : r * 64 ≤ j ∧ j + 64 < R * 64
  · rw [if_pos (by omega), if_pos h2, show (r + 1) * 64 + (j - r * 64) = j + 64 from by omega]
  · rw [if_neg (by omega), if_neg h2]
theorem byt_lt (x : Int64) (p : Nat) : byt x p < 256 := Nat.mod_lt _ (by decide)
theorem iI_tb {m : Nat} (h : m < 2147483648) : (iI ((m : Nat) : Int)).toBitVec.toNat = m := by
  show (BitVec.ofInt 32 ((m : Nat) : Int)).toNat = m
  rw [BitVec.toNat_ofInt]
  omega
theorem and255 (n : Nat) : n &&& 255 = n % 256 := Nat.and_two_pow_sub_one_eq_mod n 8
theorem jI_255 : (jI 255).toBitVec = 255#64 := by decide
theorem byt_lo (y : BitVec 64) : ((Int64.ofBitVec (y &&& 255#64)).toInt32) = iI ((y.toNat % 256 : Nat) : Int) := by
  apply Int32.toBitVec.inj
  apply BitVec.eq_of_toNat_eq
  rw [iI_tb (by omega)]
  show ((y &&& 255#64).signExtend 32).toNat = _
  rw [BitVec.signExtend_eq_setWidth_of_le _ (by decide), BitVec.toNat_setWidth, BitVec.toNat_and]
  show (y.toNat &&& 255) % 2 ^ 32 = _
  rw [and255]
  omega
theorem sh_u : ∀ p, p < 8 → ((iI ((8 * p : Nat) : Int)).toInt64.toUInt64 &&& Int64.toUInt64 63) = UInt64.ofNat (8 * p) := by decide
theorem sh_s : ∀ p, p < 8 → ((iI ((8 * p : Nat) : Int)).toInt64 &&& 63) = Int64.ofNat (8 * p) := by decide
theorem byt_u (x : Int64) {p : Nat} (hp : p < 8) : ((x.toUInt64 >>> ((iI ((8 * p : Nat) : Int)).toInt64.toUInt64 &&& Int64.toUInt64 63)).toInt64 &&& jI 255).toInt32 = iI ((byt x p : Nat) : Int) := by
  rw [sh_u p hp]
  have e : ((x.toUInt64 >>> UInt64.ofNat (8 * p)).toInt64 &&& jI 255) = Int64.ofBitVec ((x.toBitVec >>> (8 * p)) &&& 255#64) := by
    apply Int64.toBitVec.inj
    show (x.toBitVec >>> ((BitVec.ofNat 64 (8 * p)).toNat % 64 : Nat)) &&& (jI 255).toBitVec = (x.toBitVec >>> (8 * p)) &&& 255#64
    rw [jI_255, BitVec.toNat_ofNat, show 8 * p % 2 ^ 64 % 64 = 8 * p from by omega]
  rw [e, byt_lo, BitVec.toNat_ushiftRight, Nat.shiftRight_eq_div_pow]
  rfl
theorem nch_le (x : Int64) : nch x ≤ 8 := by
  unfold nch
  split
  · exact frst_le _ _
  · omega
theorem nch_chr {x : Int64} {j : Nat} (h : j < nch x) : byt x j ≤ 126 := by
  unfold nch at h
  split at h
  · rename_i h1
    exact ((h1 j (by have := frst_le (fun j => decide (byt x j = 0)) 8; unfold gap at h; omega)).1 h).2
  · omega
theorem nch_bad1 {x : Int64} {n p : Nat} (hp : p < 8) (hn : n < p) (h1 : ∀ j, j < n → 33 ≤ byt x j ∧ byt x j ≤ 126) (h2 : ∀ j, n ≤ j → j < p → byt x j = 0) (h3 : ¬ byt x p = 0) : nch x = 0 := by
  have e : gap x = n := frst_eq (by omega) (fun j hj => by have := h1 j hj; simp; omega) (fun _ => by simp; exact h2 n (Nat.le_refl _) hn)
  unfold nch
  rw [if_neg (fun h => h3 ((h p hp).2 (by omega)))]
theorem nch_bad2 {x : Int64} {p : Nat} (hp : p < 8) (h1 : ∀ j, j < p → 33 ≤ byt x j ∧ byt x j ≤ 126) (h3 : ¬ byt x p = 0) (h4 : ¬ (33 ≤ byt x p ∧ byt x p ≤ 126)) : nch x = 0 := by
  have e : p < gap x := by
    rcases Nat.lt_or_ge p (gap x) with q | q
    · exact q
    · have h5 : gap x < 8 := by omega
      have h6 := frst_yes (fun j => decide (byt x j = 0)) 8 h5
      simp at h6
      rcases Nat.lt_or_ge (gap x) p with q2 | q2
      · have := h1 _ q2
        unfold gap at this
        omega
      · exact absurd (show byt x p = 0 by have e : p = gap x := by omega
                                          rw [e]; exact h6) h3
  unfold nch
  rw [if_neg (fun h => h4 ((h p hp).1 e))]
theorem nch_good {x : Int64} {n : Nat} (hn : n ≤ 8) (h1 : ∀ j, j < n → 33 ≤ byt x j ∧ byt x j ≤ 126) (h2 : ∀ j, n ≤ j → j < 8 → byt x j = 0) : nch x = n := by
  have e : gap x = n := frst_eq (by omega) (fun j hj => by have := h1 j hj; simp; omega) (fun h => by simp; exact h2 n (Nat.le_refl _) h)
  unfold nch
  rw [if_pos (fun j hj => ⟨fun h => h1 j (by omega), fun h => h2 j (by omega) hj⟩), e]
theorem putF_0 (p : Nat → Nat) (pl : Nat) (x : Int64) (n : Nat) : putF p pl x n 0 = p := by
  funext j
  unfold putF
  rw [if_neg (by omega)]
theorem putF_s (p : Nat → Nat) (pl : Nat) (x : Int64) (n k : Nat) : upN (putF p pl x n k) (pl + k) (byt x (n - 1 - k)) = putF p pl x n (k + 1) := by
  funext j
  unfold upN putF
  by_cases h : j = pl + k
  · rw [if_pos h, if_pos (by omega), h, Nat.add_sub_cancel_left]
  · rw [if_neg h]
    by_cases h2 : pl ≤ j ∧ j < pl + k
    · rw [if_pos h2, if_pos (by omega)]
    · rw [if_neg h2, if_neg (by omega)]
theorem begin_XJ {tc : Nat → ClassId} {ad : Nat → Nat} {s : SG} {f f' : Nat → va_E} (hX : XI tc ad f s) (c0 : f' 0 = oX ad (kpush (kno s)) (pln s)) (hH : iHis tc ad f' (kpush (kno s)) (hpush (hst s) (kno s) (cur s))) (h82 : ∃ g : Nat → Int32, f' 82 = eB tc 10 g ∧ ∀ j, j < 10 → g j = iI ((0 : Nat) : Int)) (hfr : ∀ q, q ≠ 0 → (q < 5 ∨ 30 ≤ q) → q ≠ 82 → f' q = f q) : XJ tc ad f' (knowS s) := by
  obtain ⟨h0, hst, hHis, hSlo, h40, ⟨gt, wd, w1, w2, w3, w4⟩, hPr, hHd⟩ := hX
  obtain ⟨g, g1, g2⟩ := h82
  exact ⟨c0, hst.fr (fun q _ _ => hfr q (by omega) (by omega) (by omega)), hH, hSlo.fr (fun q _ _ => hfr q (by omega) (by omega) (by omega)), h40.fr (hfr _ (by omega) (by omega) (by omega)),
    fun n => ⟨g, wd, (hfr _ (by omega) (by omega) (by omega)).trans w1, g1, fun k hk => (w3 k hk).fr (fun q _ _ => hfr q (by omega) (by omega) (by omega)), fun k hk => Or.inl (g2 k hk)⟩,
    hPr.fr (fun q _ _ => hfr q (by omega) (by omega) (by omega)), hHd.fr (hfr _ (by omega) (by omega) (by omega))⟩
variable {X : XT} {G : va_G} {tc : Nat → ClassId} {l : Launch} {cc : ByteArray} {own : String} {Ts : List Cond} {nL : Nat} {R : Room} {ad : Nat → Nat} {N : Nat} {f : Nat → va_E} {k n pc : Nat} {lv : List (Nat × Value)} {st : List Value}
theorem r_gets (C : CC X G tc l cc own Ts nL R) {nm : String} {t index : Nat} (hZ : va_Z RX3 nm "[I" (.ref t) X.2.2.2.1 X.2.1.2.2.2.1 X.2.1.2.2.2.1.heap) (hlk : Cond.fieldLink own index RX3 nm "[I" ∈ Ts) (hdg : decode cc pc = .ok (.getstatic index, 3)) (kk : VV X ad N f k n (pc + 3) lv (.ref t :: st)) : VV X ad N f k n pc lv st :=
  fun H locs ls hP hD hS hl => va_gets C.2.1.1 C.2.1.2.1 hZ hS C.2.1.2.2.2.1 (C.2.1.2.2.2.2 _ hlk) (fun _ h => h) hdg (kk H locs ls hP hD hS hl)
theorem r_tld (C : CC X G tc l cc own Ts nL R) {t : Nat} {g : Nat → Int} {z : Int} (hX : va_T .int t 4 (fun j => .int (iI (g j))) X.2.2.2.1 X.2.1.2.2.2.1 X.2.1.2.2.2.1.heap) (ht : t < X.2.1.2.2.2.1.heap.size) (hA : ¬ X.2.2.2.1 t) (j : Nat) (hz : z = (j : Int)) (hj : j < 4) (hdg : decode cc pc = .ok (.iaload, 1)) (kk : VV X ad N f k n (pc + 1) lv (.int (iI (g j)) :: st)) : VV X ad N f k n pc lv (.int (iI z) :: .ref t :: st) :=
  fun H locs ls hP hD hS hl => va_ti C.2.1.1 C.2.1.2.1 hX hS (iI_vin hz hj (by omega)) (v := .int (iI (g j))) (by rw [iI_ix hz (by omega)]) hdg (kk H locs ls hP hD hS hl)
end OPS
