section STR
/-! the law's start: the classes, the rows' classes, the tables of the class -/
theorem kn_all {args : Array Value} {s : State} (hts : ∀ w ∈ lw_tbl, w.before args s = true) (h1 : va_AO RX1 s) (h2 : va_AO RX2 s) : ∃ (G : va_G) (tc : Nat → ClassId), va_K G vwCl (tyL tc) s := by
  obtain ⟨c0, i0, k0⟩ := u_known (n := 7) hts wsX00_t (hts (.instantiable RX0 7) (by decide +kernel))
  obtain ⟨c1, i1, k1⟩ := u_known (n := 4) hts wsX10_t (hts (.instantiable RX1 4) (by decide +kernel))
  obtain ⟨c2, i2, k2⟩ := u_known (n := 4) hts wsX20_t (hts (.instantiable RX2 4) (by decide +kernel))
  obtain ⟨c3, i3, k3⟩ := u_known (n := 11) hts wsX30_t (hts (.instantiable RX3 11) (by decide +kernel))
  obtain ⟨c4, i4, k4⟩ := u_known (n := 15) hts wsX40_t (hts (.instantiable RX4 15) (by decide +kernel))
  obtain ⟨t0, q0, p0, a0, a1, a2⟩ := Cond.arrayClass_spec (hts (.arrayClass .int) (by decide +kernel))
  obtain ⟨t1, q1, p1, b0, b1, b2⟩ := Cond.arrayClass_spec (hts (.arrayClass .boolean) (by decide +kernel))
  obtain ⟨p2, t2, q2, d0, -, d1, d2, d3⟩ := Cond.arrayOver_spec h1
  obtain ⟨p3, t3, q3, e0, -, e1, e2, e3⟩ := Cond.arrayOver_spec h2
  refine ⟨(fun c => if c = 0 then c0 else if c = 1 then c1 else if c = 2 then c2 else if c = 3 then c3 else c4, fun c => if c = 0 then i0 else if c = 1 then i1 else if c = 2 then i2 else if c = 3 then i3 else i4), fun k => if k = 0 then t0 else if k = 1 then t1 else if k = 2 then t2 else t3, fun c q hq => ?_, fun k q hq => ?_⟩
  · rcases c with _ | _ | _ | _ | _ | c
    · cases hq; exact k0
    · cases hq; exact k1
    · cases hq; exact k2
    · cases hq; exact k3
    · cases hq; exact k4
    · simp [vwCl] at hq
  · rcases k with _ | _ | _ | _ | k
    · cases hq; exact ⟨fun n z => ⟨fun k h => (by cases h), q0, a1, p0, a2⟩, a0⟩
    · cases hq; exact ⟨fun n z => ⟨fun k h => (by cases h), q1, b1, p1, b2⟩, b0⟩
    · cases hq; exact ⟨fun n z => ⟨fun k h => (by cases h), q2, d1, p2, d2⟩, q2, p2, d1, d2, d0, d3⟩
    · cases hq; exact ⟨fun n z => ⟨fun k h => (by cases h), q3, e1, p3, e2⟩, q3, p3, e1, e2, e0, e3⟩
    · simp [tyL] at hq
/-- a table of the class, out of what the Statement gives of the start -/
theorem tb_at {args : Array Value} {s : State} {A : Nat → Prop} {nm : String} (g : Nat → Int) (hA : ∀ a : Nat, a < s.heap.size → ¬ A a) (hlay : (Cond.laysStatic RX3 nm "[I").before args s = true) (hini : (Cond.initialized RX3).before args s = true)
    (harr : (Cond.arrayOf (.static RX3 nm "[I") .int).before args s = true) (hlen : (Cond.eq (.length (.static RX3 nm "[I")) (.int (Int32.ofNat 4))).before args s = true)
    (hel : ∀ j : Nat, j < 4 → (Cond.eq (.elem (.static RX3 nm "[I") (.int (Int32.ofNat j))) (.int (iI (g j)))).before args s = true) : st_T nm g A s s.heap := by
  obtain ⟨t, e1, e2⟩ := va_Tof (N := 4) (f := fun j => .int (iI (g j))) (A := A) (by decide) harr (va_eqt hlen) (fun j hj => va_eqt (hel j hj)) hA
  have e3 : t < s.heap.size := by
    obtain ⟨cell, c1, -⟩ := e2
    exact (Array.getElem?_eq_some_iff.mp c1).1
  exact ⟨t, va_Zref hlay hini e1 hA, e2, e3, hA t e3⟩
theorem ss_start {b : Nat} {s : State} {A : Nat → Prop} (hA : ∀ a : Nat, a < s.heap.size → ¬ A a) (hts : ∀ w ∈ lw_tbl, w.before #[Value.ref b] s = true) (hgv : (Jvm.Cond.and given_1 narrow_1).before #[Value.ref b] s = true) : SS A s s.heap := by
  have hs := flat_of_before _ hgv
  have hini := hts (.initialized RX3) (by decide +kernel)
  refine ⟨⟨tb_at lS hA (hts _ (by decide +kernel)) hini (hs _ (by decide +kernel)) (hs _ (by decide +kernel)) ?_, tb_at mS hA (hts _ (by decide +kernel)) hini (hs _ (by decide +kernel)) (hs _ (by decide +kernel)) ?_, tb_at fS hA (hts _ (by decide +kernel)) hini (hs _ (by decide +kernel)) (hs _ (by decide +kernel)) ?_⟩, va_Nw.of rfl (hts _ (by decide +kernel)), va_Nw.of rfl (hts _ (by decide +kernel)), va_Nw.of rfl (hts _ (by decide +kernel)), va_AO.of (hts (.arrayOver (.object RX1)) (by decide +kernel)), va_AO.of (hts (.arrayOver (.object RX2)) (by decide +kernel))⟩
  · intro j hj
    rcases j with _ | _ | _ | _ | j
    · exact hs _ (by decide +kernel)
    · exact hs _ (by decide +kernel)
    · exact hs _ (by decide +kernel)
    · exact hs _ (by decide +kernel)
    · omega
  · intro j hj
    rcases j with _ | _ | _ | _ | j
    · exact hs _ (by decide +kernel)
    · exact hs _ (by decide +kernel)
    · exact hs _ (by decide +kernel)
    · exact hs _ (by decide +kernel)
    · omega
  · intro j hj
    rcases j with _ | _ | _ | _ | j
    · exact hs _ (by decide +kernel)
    · exact hs _ (by decide +kernel)
    · exact hs _ (by decide +kernel)
    · exact hs _ (by decide +kernel)
    · omega
end STR
