section OKP
/-! every call keeps a right state right -/
theorem fau_chr {s : SG} (h : okS s) (hf : fau (pad s) (pln s) = -6) : ∀ j, j < pln s → okc (pad s j) = true := (fau_ok hf).2
theorem pour_ok {n : NS} {r k : Nat} {p : Nat → Nat} (h : okN n) (hl : n.2.1 r + k ≤ 64) (hp : ∀ j, j < k → okc (p j) = true) : okN (pour n r p k) := by
  obtain ⟨h1, h2, h3, h4, h5, h6, h7⟩ := h
  refine ⟨h1, h2, h3, h4, h5, fun q hq => ?_, fun j hj => ?_⟩
  · show upN n.2.1 r (n.2.1 r + k) q ≤ 64
    unfold upN
    split
    · exact hl
    · exact h6 q hq
  · show powr n.2.2.1 (r * 64 + n.2.1 r) p k j ≤ 26
    unfold powr
    split
    · rename_i e
      exact sgn_le (hp _ (by omega))
    · exact h7 j hj
theorem setC_ok {s : SG} {n : NS} (h : okS s) (hn : okN n) : okS (setC s n) := ⟨hn, h.2⟩
theorem ok_set {s : SG} (h : okS s) (z v : Int) : okS (nSet s z v) := by
  unfold nSet
  split
  · rename_i e
    have hK := know_ok h
    obtain ⟨⟨h1, h2⟩, ⟨h3, h4⟩, ⟨h5, h6⟩, h7, h8, h9, h10⟩ := h.1
    refine setC_ok hK ?_
    have q1 : lS z.toNat = if z.toNat = 3 then 0 else 1 := rfl
    have q2 : mS z.toNat = if z.toNat = 0 then 4 else if z.toNat = 1 then 32 else 1000002 := rfl
    obtain ⟨⟨e1, e2⟩, e3, e4⟩ := e
    refine ⟨?_, ?_, ?_, ?_, h8, h9, h10⟩ <;> dsimp only <;> unfold upN <;> (repeat' split) <;> omega
  · exact h
theorem ok_add {s : SG} (h : okS s) : okS (nAdd s) := by
  unfold nAdd
  split
  · rename_i e
    have hK := know_ok h
    obtain ⟨k1, k2, k3, k4, k5, k6⟩ := hK
    refine ⟨?_, k2, k3, k4, Nat.zero_le _, k6⟩
    refine pour_ok ?_ ?_ (fau_chr h e.1)
    · obtain ⟨h1, h2, h3, h4, h5, h6, h7⟩ := h.1
      refine ⟨h1, h2, h3, h4, by have := e.2; show (cur s).2.2.2 + 1 ≤ 10; omega, fun q hq => ?_, h7⟩
      show upN (cur s).2.1 (cur s).2.2.2 0 q ≤ 64
      unfold upN
      split
      · omega
      · exact h6 q hq
    · show upN (cur s).2.1 (cur s).2.2.2 0 (cur s).2.2.2 + pln s ≤ 64
      have := h.2.2.2.2.1
      unfold upN
      rw [if_pos rfl]
      omega
  · exact h
theorem ok_app {s : SG} (h : okS s) (z : Int) : okS (nApp s z) := by
  unfold nApp
  split
  · rename_i e
    obtain ⟨k1, k2, k3, k4, k5, k6⟩ := know_ok h
    exact ⟨pour_ok h.1 e.2.2 (fau_chr h e.2.1), k2, k3, k4, Nat.zero_le _, k6⟩
  · exact h
theorem ok_chg {s : SG} (h : okS s) (z p v : Int) : okS (nChg s z p v) := by
  unfold nChg
  split
  · rename_i e
    refine setC_ok (know_ok h) ?_
    obtain ⟨h1, h2, h3, h4, h5, h6, h7⟩ := h.1
    refine ⟨h1, h2, h3, h4, h5, h6, fun j hj => ?_⟩
    have e2 : ok26 v := e.2
    show upN (cur s).2.2.1 (z.toNat * 64 + p.toNat) v.toNat j ≤ 26
    unfold upN
    split
    · omega
    · exact h7 j hj
  · exact h
theorem ok_rem {s : SG} (h : okS s) (z : Int) : okS (nRem s z) := by
  unfold nRem
  split
  · rename_i e
    refine setC_ok (know_ok h) ?_
    obtain ⟨h1, h2, h3, h4, h5, h6, h7⟩ := h.1
    refine ⟨h1, h2, h3, h4, by show (cur s).2.2.2 - 1 ≤ 10; omega, fun q hq => ?_, fun j hj => ?_⟩
    · show outL (cur s).2.1 z.toNat (cur s).2.2.2 q ≤ 64
      unfold outL
      split
      · exact h6 _ (by omega)
      · exact h6 q hq
    · show outG (cur s).2.2.1 z.toNat (cur s).2.2.2 j ≤ 26
      unfold outG
      split
      · exact h7 _ (by omega)
      · exact h7 j hj
  · exact h
theorem ok_put {s : SG} (h : okS s) (x : Int64) : okS (nPut s x) := by
  unfold nPut
  split
  · rename_i e
    obtain ⟨k1, k2, k3, k4, k5, k6⟩ := h
    refine ⟨k1, k2, k3, k4, e.2, fun j hj => ?_⟩
    show putF (pad s) (pln s) x (nch x) (nch x) j ≤ 126
    unfold putF
    split
    · exact nch_chr (by omega)
    · exact k6 j hj
  · exact h
theorem ok_wip {s : SG} (h : okS s) : okS (nWip s) := ⟨h.1, h.2.1, h.2.2.1, h.2.2.2.1, Nat.zero_le _, h.2.2.2.2.2⟩
theorem ok_und {s : SG} (h : okS s) : okS (nUnd s) := by
  unfold nUnd
  split
  · rename_i e
    obtain ⟨k1, k2, k3, k4, k5, k6⟩ := h
    exact ⟨k3 _ (by omega), by show kno s - 1 ≤ 6; omega, fun k hk => k3 k (by have hk : k < kno s - 1 := hk; omega), k4, k5, k6⟩
  · exact h
theorem ok_sav {s : SG} (h : okS s) (z : Int) : okS (nSav s z) := by
  unfold nSav
  split
  · obtain ⟨k1, k2, k3, k4, k5, k6⟩ := h
    refine ⟨k1, k2, k3, fun k hk hs => ?_, k5, k6⟩
    dsimp only [sav, slo] at hs ⊢
    split
    · exact k1
    · rename_i e
      rw [if_neg e] at hs
      exact k4 k hk hs
  · exact h
theorem ok_res {s : SG} (h : okS s) (z : Int) : okS (nRes s z) := by
  unfold nRes
  split
  · rename_i e
    have e1 : ok2 z := e.1
    exact setC_ok (know_ok h) (h.2.2.2.1 _ (by omega) e.2)
  · exact h
end OKP
