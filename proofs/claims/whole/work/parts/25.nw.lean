section NWL
/-! making: a new cell is the next number; addresses below stay -/
theorem tc_int {G : va_G} {tc : Nat → ClassId} {U : State} {cA : ClassId} (h : va_K G vwCl (tyL tc ++ [(cA, .int)]) U) : cA = tc 0 :=
  Option.some.inj ((va_nm_int (h.2 4 (cA, .int) rfl).2).symm.trans (va_nm_int (h.2 0 (tc 0, .int) rfl).2))
theorem tc_boolean {G : va_G} {tc : Nat → ClassId} {U : State} {cA : ClassId} (h : va_K G vwCl (tyL tc ++ [(cA, .boolean)]) U) : cA = tc 1 :=
  Option.some.inj ((va_nm_boolean (h.2 4 (cA, .boolean) rfl).2).symm.trans (va_nm_boolean (h.2 1 (tc 1, .boolean) rfl).2))
theorem tc_S {G : va_G} {tc : Nat → ClassId} {U : State} {cA : ClassId} (h : va_K G vwCl (tyL tc ++ [(cA, .object RX1)]) U) : cA = tc 2 := by
  obtain ⟨k1, c1, a1, a2, a3, a4⟩ := (h.2 4 (cA, .object RX1) rfl).2
  obtain ⟨k2, c2, b1, b2, b3, b4⟩ := (h.2 2 (tc 2, .object RX1) rfl).2
  exact Option.some.inj (a4.symm.trans b4)
theorem tc_W {G : va_G} {tc : Nat → ClassId} {U : State} {cA : ClassId} (h : va_K G vwCl (tyL tc ++ [(cA, .object RX2)]) U) : cA = tc 3 := by
  obtain ⟨k1, c1, a1, a2, a3, a4⟩ := (h.2 4 (cA, .object RX2) rfl).2
  obtain ⟨k2, c2, b1, b2, b3, b4⟩ := (h.2 3 (tc 3, .object RX2) rfl).2
  exact Option.some.inj (a4.symm.trans b4)
variable {X : XT} {G : va_G} {tc : Nat → ClassId} {l : Launch} {cc : ByteArray} {own : String} {Ts : List Cond} {nL : Nat} {R : Room} {ad : Nat → Nat} {N : Nat} {f : Nat → va_E} {k n pc : Nat} {lv lv' : List (Nat × Value)} {st : List Value}
theorem nneg {z : Int} {m : Nat} (h1 : z = (m : Int)) (h2 : m ≤ 2147483647) : ¬ iI z < 0 := by
  rw [← iI_0, iI_lt ⟨by omega, by omega⟩ ⟨by decide, by decide⟩]
  omega
theorem r_newI (C : CC X G tc l cc own Ts nL R) {z : Int} (len : Nat) (hz : z = (len : Int)) (hl : len ≤ 100000) (harr : Cond.arrayClass .int ∈ Ts) (hcs : k + 1 ≤ R.cells ∧ n + len ≤ R.slots) (hdg : decode cc pc = .ok (.newarray .int, 2))
    (kk : ∀ ad' f', (∀ q, q < N → ad' q = ad q) → f' N = eI tc len (fun j => iI (((fun _ => 0 : Nat → Nat) j : Nat) : Int)) → (∀ q, q ≠ N → f' q = f q) → VV X ad' (N + 1) f' (k + 1) (n + len) (pc + 2) lv (.ref (ad' N) :: st)) : VV X ad N f k n pc lv (.int (iI z) :: st) := by
  intro H locs ls hP hD hS hl'
  have hR0 := C.1.2.2.2.1
  have hK := C.2.2.1
  refine va_newa C.2.1.1 C.2.1.2.1 (atype := .int) (C.2.1.2.2.2.2 _ harr) (ty := .int) rfl hK hP hD hS C.2.2.2.2.1 (a0 := (len, .inl (fun j => iI (((fun _ => 0 : Nat → Nat) j : Nat) : Int)))) (fun cA => rfl) (nneg hz (by omega)) (iI_ix hz (by omega)) (by show len * 4 ≤ _; omega) (by rw [hR0]; exact hcs.1) (by rw [hR0]; exact hcs.2) hdg ?_
  intro q cA H1 hK1 hP1 hD1 hS1
  have e := tc_int hK1
  rw [e, hw_push] at hP1 hD1
  have e2 := kk (va_up ad N q) (va_up f N (.inl (X.1.2 0, len, .inl (fun j => iI (((fun _ => 0 : Nat → Nat) j : Nat) : Int))))) (fun x hx => by unfold va_up; rw [if_neg (by omega)]) (by rw [← C.1.2.1]; simp [va_up]) (fun x hx => by unfold va_up; rw [if_neg hx])
  rw [show va_up ad N q N = q from by simp [va_up]] at e2
  exact e2 H1 locs ls hP1 hD1 hS1 hl'
theorem r_newZ (C : CC X G tc l cc own Ts nL R) {z : Int} (len : Nat) (hz : z = (len : Int)) (hl : len ≤ 100000) (harr : Cond.arrayClass .boolean ∈ Ts) (hcs : k + 1 ≤ R.cells ∧ n + len ≤ R.slots) (hdg : decode cc pc = .ok (.newarray .boolean, 2))
    (kk : ∀ ad' f', (∀ q, q < N → ad' q = ad q) → f' N = eB tc len (fun _ => iI ((0 : Nat) : Int)) → (∀ q, q ≠ N → f' q = f q) → VV X ad' (N + 1) f' (k + 1) (n + len) (pc + 2) lv (.ref (ad' N) :: st)) : VV X ad N f k n pc lv (.int (iI z) :: st) := by
  intro H locs ls hP hD hS hl'
  have hR0 := C.1.2.2.2.1
  have hK := C.2.2.1
  refine va_newa C.2.1.1 C.2.1.2.1 (atype := .boolean) (C.2.1.2.2.2.2 _ harr) (ty := .boolean) rfl hK hP hD hS C.2.2.2.2.1 (a0 := (len, .inl (fun _ => iI ((0 : Nat) : Int)))) (fun cA => rfl) (nneg hz (by omega)) (iI_ix hz (by omega)) (by show len * 1 ≤ _; omega) (by rw [hR0]; exact hcs.1) (by rw [hR0]; exact hcs.2) hdg ?_
  intro q cA H1 hK1 hP1 hD1 hS1
  have e := tc_boolean hK1
  rw [e, hw_push] at hP1 hD1
  have e2 := kk (va_up ad N q) (va_up f N (.inl (X.1.2 1, len, .inl (fun _ => iI ((0 : Nat) : Int))))) (fun x hx => by unfold va_up; rw [if_neg (by omega)]) (by rw [← C.1.2.1]; simp [va_up]) (fun x hx => by unfold va_up; rw [if_neg hx])
  rw [show va_up ad N q N = q from by simp [va_up]] at e2
  exact e2 H1 locs ls hP1 hD1 hS1 hl'
/-- a row of references: the first c of them are known -/
def hsF (ad : Nat → Nat) (b c : Nat) : Nat → Option Nat := fun j => if j < c then some (ad (b + 4 * j)) else none
theorem hsF_0 (ad : Nat → Nat) (b : Nat) : hsF ad b 0 = fun _ => none := by
  funext j
  unfold hsF
  rw [if_neg (by omega)]
theorem hsF_s (ad : Nat → Nat) (b c : Nat) : va_up (hsF ad b c) c (some (ad (b + 4 * c))) = hsF ad b (c + 1) := by
  funext j
  unfold va_up hsF
  by_cases h : j = c
  · rw [if_pos h, if_pos (by omega), h]
  · rw [if_neg h]
    by_cases h2 : j < c
    · rw [if_pos h2, if_pos (by omega)]
    · rw [if_neg h2, if_neg (by omega)]
theorem hsF_mv {ad ad' : Nat → Nat} {b c : Nat} (h : ∀ q, q + 3 < b + 4 * c → ad' q = ad q) : hsF ad b c = hsF ad' b c := by
  funext j
  unfold hsF
  by_cases h2 : j < c
  · rw [if_pos h2, if_pos h2, h _ (by omega)]
  · rw [if_neg h2, if_neg h2]
theorem r_newS (C : CC X G tc l cc own Ts nL R) {z : Int} {index : Nat} (len : Nat) (hz : z = (len : Int)) (hl : len ≤ 100000) (hcl : Cond.classLink own index RX1 ∈ Ts) (hcs : k + 1 ≤ R.cells ∧ n + len ≤ R.slots) (hdg : decode cc pc = .ok (.anewarray index, 3))
    (kk : ∀ ad' f', (∀ q, q < N → ad' q = ad q) → f' N = eS tc len (fun _ => none) → (∀ q, q ≠ N → f' q = f q) → VV X ad' (N + 1) f' (k + 1) (n + len) (pc + 3) lv (.ref (ad' N) :: st)) : VV X ad N f k n pc lv (.int (iI z) :: st) := by
  intro H locs ls hP hD hS hl'
  have hR0 := C.1.2.2.2.1
  have hK := C.2.2.1
  refine va_newq C.2.1.1 C.2.1.2.1 C.2.1.2.2.2.1 (C.2.1.2.2.2.2 _ hcl) C.2.2.2.1.2.2.2.2.1 hK hP hD hS C.2.2.2.2.1 (nneg hz (by omega)) (iI_ix hz (by omega)) (by omega) (by rw [hR0]; exact hcs.1) (by rw [hR0]; exact hcs.2) hdg ?_
  intro q cA H1 hK1 hP1 hD1 hS1
  have e := tc_S hK1
  rw [e, hw_push] at hP1 hD1
  have e2 := kk (va_up ad N q) (va_up f N (.inl (X.1.2 2, len, .inr (.inr (.inr (.inr (fun _ => none))))))) (fun x hx => by unfold va_up; rw [if_neg (by omega)]) (by rw [← C.1.2.1]; simp [va_up]) (fun x hx => by unfold va_up; rw [if_neg hx])
  rw [show va_up ad N q N = q from by simp [va_up]] at e2
  exact e2 H1 locs ls hP1 hD1 hS1 hl'
theorem r_newW (C : CC X G tc l cc own Ts nL R) {z : Int} {index : Nat} (len : Nat) (hz : z = (len : Int)) (hl : len ≤ 100000) (hcl : Cond.classLink own index RX2 ∈ Ts) (hcs : k + 1 ≤ R.cells ∧ n + len ≤ R.slots) (hdg : decode cc pc = .ok (.anewarray index, 3))
    (kk : ∀ ad' f', (∀ q, q < N → ad' q = ad q) → f' N = eW tc len (fun _ => none) → (∀ q, q ≠ N → f' q = f q) → VV X ad' (N + 1) f' (k + 1) (n + len) (pc + 3) lv (.ref (ad' N) :: st)) : VV X ad N f k n pc lv (.int (iI z) :: st) := by
  intro H locs ls hP hD hS hl'
  have hR0 := C.1.2.2.2.1
  have hK := C.2.2.1
  refine va_newq C.2.1.1 C.2.1.2.1 C.2.1.2.2.2.1 (C.2.1.2.2.2.2 _ hcl) C.2.2.2.1.2.2.2.2.2 hK hP hD hS C.2.2.2.2.1 (nneg hz (by omega)) (iI_ix hz (by omega)) (by omega) (by rw [hR0]; exact hcs.1) (by rw [hR0]; exact hcs.2) hdg ?_
  intro q cA H1 hK1 hP1 hD1 hS1
  have e := tc_W hK1
  rw [e, hw_push] at hP1 hD1
  have e2 := kk (va_up ad N q) (va_up f N (.inl (X.1.2 3, len, .inr (.inr (.inr (.inr (fun _ => none))))))) (fun x hx => by unfold va_up; rw [if_neg (by omega)]) (by rw [← C.1.2.1]; simp [va_up]) (fun x hx => by unfold va_up; rw [if_neg hx])
  rw [show va_up ad N q N = q from by simp [va_up]] at e2
  exact e2 H1 locs ls hP1 hD1 hS1 hl'
theorem r_newO (C : CC X G tc l cc own Ts nL R) {Cn : String} {T : u_T} {nf ci index : Nat} {ty0 : Nat → FieldType} {fs : List Value} (hc : vwCl[ci]? = some (Cn, T, nf)) (hin : ∀ w ∈ u_ws Cn T nf, w ∈ Ts) (hty : ∀ k, k < nf → parseFieldDescriptor (T k).2.2.1 = some (ty0 k)) (hcl : Cond.classLink own index Cn ∈ Ts) (hinst : Cond.instantiable Cn nf ∈ Ts) (hini : Cond.initialized Cn ∈ Ts) (hfs : ∀ j, j < nf → defaultValue (ty0 j) = vp_V fs j) (hcs : k + 1 ≤ R.cells ∧ n + nf ≤ R.slots) (hdg : decode cc pc = .ok (.new index, 3))
    (kk : ∀ ad' f', (∀ q, q < N → ad' q = ad q) → f' N = eO ci fs → (∀ q, q ≠ N → f' q = f q) → VV X ad' (N + 1) f' (k + 1) (n + nf) (pc + 3) lv (.ref (ad' N) :: st)) : VV X ad N f k n pc lv st := by
  intro H locs ls hP hD hS hl'
  have hR0 := C.1.2.2.2.1
  refine va_new C.2.1.1 C.2.1.2.1 C.2.1.2.2.2.2 hin ty0 hty C.2.1.2.2.2.1 (C.2.1.2.2.2.2 _ hcl) (C.2.1.2.2.2.2 _ hinst) (C.2.1.2.2.2.2 _ hini) C.2.2.1 hP hD hS C.2.2.2.2.1 hc hfs (by rw [hR0]; exact hcs.1) (by rw [hR0]; exact hcs.2) hdg ?_
  intro q H1 hP1 hD1 hS1
  rw [hw_push] at hP1 hD1
  have e2 := kk (va_up ad N q) (va_up f N (.inr (ci, fs))) (fun x hx => by unfold va_up; rw [if_neg (by omega)]) (by simp [va_up]) (fun x hx => by unfold va_up; rw [if_neg hx])
  rw [show va_up ad N q N = q from by simp [va_up]] at e2
  exact e2 H1 locs ls hP1 hD1 hS1 hl'
theorem r_getsN (C : CC X G tc l cc own Ts nL R) {nm : String} {t index : Nat} (hZ : va_Z RX3 nm "[I" (.ref t) X.2.2.2.1 X.2.1.2.2.2.1 X.2.1.2.2.2.1.heap) (hN : va_Nw (.fieldLinkNest own index RX3 nm "[I" RX3) X.2.1.2.2.2.1) (hdg : decode cc pc = .ok (.getstatic index, 3)) (kk : VV X ad N f k n (pc + 3) lv (.ref t :: st)) : VV X ad N f k n pc lv st :=
  fun H locs ls hP hD hS hl => va_getsN C.2.1.1 C.2.1.2.1 hZ hS C.2.1.2.2.2.1 (hN.use rfl) (fun _ h => h) hdg (kk H locs ls hP hD hS hl)
/-- out of a table of at least n0 ints that nobody writes, into a row of the world -/
theorem cpy_tab {p : Program} {l : Launch} {e : Env} {R : Room} {s : State} {m : MethodId} {args : Array Value} {below : List Frame} {meth : Method} {c : Code} {H : Heap} {locs : List Loc} {cells slots : Nat} {Q : State → Prop} {cc : ByteArray} {pc : Nat} {ls : Array Slot} {rest : List Value} {D : va_G} {cl : List vw_C} {A : Nat → Prop} {a : Nat} {tys : List (ClassId × FieldType)} {ws : va_W}
    (hexec : p.tables.exec = Jvm.exec) (hb : c.code = cc) (hml : c.maxLocals = ls.size) {own : String} {index : Nat} (hown : s.vm.findClass own = some m.cls) (hlink : (Cond.methodLink own index arraycopyName).before args s = true) (hnat : (Cond.native arraycopyName).before args s = true) (hstat : (Cond.static arraycopyName).before args s = true) (hini : (Cond.initialized "java/lang/System").before args s = true)
    (hK : va_K D cl tys s) (hP : va_P D cl ws H) (hD : va_D A ws) (hS : va_S A s.heap H locs) {b0 n0 : Nat} {f : Nat → Int32} (hT0 : va_T .int b0 n0 (fun j => .int (f j)) A s s.heap) (q1 t1 : Nat) {c1 : ClassId} {n1 : Nat} {g : Nat → Int32} (ha1 : ws[q1]? = some (a, .inl (c1, n1, .inl g))) (ht1 : tys[t1]? = some (c1, .int))
    {sp dp n : Int32} (h1 : ¬ sp < 0) (h2 : ¬ dp < 0) (h3 : ¬ n < 0) (h4 : sp.toNatClampNeg + n.toNatClampNeg ≤ n0) (h5 : dp.toNatClampNeg + n.toNatClampNeg ≤ n1)
    (hframes : 1 ≤ R.frames) (hlocals : (rest.map fun v => v.category).sum + (nativeFrameWords "java/lang/System" "arraycopy" 5 + 11) ≤ R.locals) (hdg : decode cc pc = .ok (.invokestatic index, 3))
    (kk : ∀ (H1 : Heap) (locs1 : List Loc), va_P D cl (ws.set q1 (a, .inl (c1, n1, .inl (va_cpy f g sp.toNatClampNeg dp.toNatClampNeg n.toNatClampNeg)))) H1 → va_D A (ws.set q1 (a, .inl (c1, n1, .inl (va_cpy f g sp.toNatClampNeg dp.toNatClampNeg n.toNatClampNeg)))) → va_S A s.heap H1 locs1 → W p l e R s m args below meth c H1 locs1 cells slots Q (F0 m (pc + 3) ls rest)) : W p l e R s m args below meth c H locs cells slots Q (F0 m pc ls (.int n :: .int dp :: .ref a :: .int sp :: .ref b0 :: rest)) := by
  have nn : ∀ z : Int32, ¬ z < 0 → z.toInt = (z.toNatClampNeg : Int) := by
    intro z hz
    have hz0 : (0 : Int) ≤ z.toInt := by
      have := Int32.not_lt.mp hz
      simpa using Int32.le_iff_toInt_le.mp this
    show z.toInt = ((z.toInt.toNat : Nat) : Int)
    omega
  intro T hT X
  obtain ⟨scr, g1, ⟨g2, k0, hk0, cm0, hkk0⟩, g3, g4, -, g6, g7⟩ := hT0
  have hc0 : H[b0]? = some scr := by rw [hS.2.1 b0 (Array.getElem?_eq_some_iff.mp g1).1 g7]; exact g1
  have hc1 : H[a]? = some (vp_cell c1 (n1, .inl g)) := hP q1 _ ha1
  obtain ⟨-, k1, hk1, cm1, hkk1⟩ := (hK.2 t1 _ ht1).1 n1 (fun j => .int (g j))
  obtain ⟨vm', X', step⟩ := X.arraycopy hexec hown hlink hnat hstat hini (src := b0) (dst := a) (cs := scr) (cd := vp_cell c1 (n1, .inl g)) (srcPos := sp) (destPos := dp) (n := n) (by rw [hT]; exact hc0) (by rw [hT]; exact hc1)
    g2 (fun _ h => by cases h) g3 (fun h => by cases h) hk0 hk1 hkk0 hkk1 (by simp [refKind]) h1 h2 h3
    (by rw [nn sp h1, nn n h3]; omega)
    (by rw [nn dp h2, nn n h3]; show ¬ _ > ((arrV c1 n1 (fun j => .int (g j))).slots.size : Int); rw [arrV_size]; omega)
    (fun vm₁ _ i hi => by
      have e : scr.slots.getD (sp.toNatClampNeg + i) .null = .int (f (sp.toNatClampNeg + i)) := by
        rw [Array.getD_eq_getD_getElem?, g6 _ (by omega)]
        rfl
      exact ⟨by rw [e]; rfl, by rw [e]; exact trivial⟩)
    (g := F0 m pc ls (.int n :: .int dp :: .ref a :: .int sp :: .ref b0 :: rest)) rfl (by rw [hml]) (rest := rest) rfl (by rw [hb]; exact hdg) hframes (by show 2 * 0 + _ + _ ≤ _; omega)
  have e1 : copied scr (vp_cell c1 (n1, .inl g)) sp dp n = vp_cell c1 (n1, .inl (va_cpy f g sp.toNatClampNeg dp.toNatClampNeg n.toNatClampNeg)) := va_copiedX (fun z => .int z) scr c1 f g g6 h4
  rw [e1] at X' step
  have hl : a < H.size := (Array.getElem?_eq_some_iff.mp hc1).1
  have hheap : ((T.setVm vm').setCell a (vp_cell c1 (n1, .inl (va_cpy f g sp.toNatClampNeg dp.toNatClampNeg n.toNatClampNeg)))).heap = H.setIfInBounds a (vp_cell c1 (n1, .inl (va_cpy f g sp.toNatClampNeg dp.toNatClampNeg n.toNatClampNeg))) := by rw [← hT]; rfl
  have oq : ∀ q : Nat, q ≠ a → (H.setIfInBounds a (vp_cell c1 (n1, .inl (va_cpy f g sp.toNatClampNeg dp.toNatClampNeg n.toNatClampNeg))))[q]? = H[q]? := fun q hq => by simp [Array.getElem?_setIfInBounds, Ne.symm hq]
  obtain ⟨t, a1, b1⟩ := kk _ _ (hP.set hD ha1 (show (H.setIfInBounds a _)[a]? = some _ by simp [Array.getElem?_setIfInBounds, hl]) oq) (hD.set ha1) ⟨by simp; exact hS.1, fun q w1 w2 => by
      rw [oq q (fun e => w2 (by rw [e]; exact hD.2 q1 _ ha1))]
      exact hS.2.1 q w1 w2, fun q hq => by
      rcases List.mem_append.mp hq with h | h
      · exact hS.2.2 q h
      · obtain ⟨z, -, hz⟩ := List.mem_map.mp h
        rw [← hz]
        exact hD.2 q1 _ ha1⟩ _ hheap X'
  exact ⟨t, step t a1, b1⟩
theorem r_acpT (C : CC X G tc l cc own Ts nL R) {index i2 n0 n1 t : Nat} {g g2 : Nat → Int32} {zs zd zn : Int} (hw : Cond.methodLink own index arraycopyName ∈ Ts ∧ Cond.native arraycopyName ∈ Ts ∧ Cond.static arraycopyName ∈ Ts ∧ Cond.initialized "java/lang/System" ∈ Ts) (hfr : 1 ≤ R.frames) (hlo : (st.map fun v => v.category).sum + (nativeFrameWords "java/lang/System" "arraycopy" 5 + 11) ≤ R.locals)
    (hX : va_T .int t n0 (fun j => .int (g j)) X.2.2.2.1 X.2.1.2.2.2.1 X.2.1.2.2.2.1.heap) (ht : t < X.2.1.2.2.2.1.heap.size) (hA : ¬ X.2.2.2.1 t) (hi2 : i2 < N) (hf2 : f i2 = eI tc n1 g2) (sp dp cn : Nat) (hzs : zs = (sp : Int)) (hzd : zd = (dp : Int)) (hzn : zn = (cn : Int)) (h4 : sp + cn ≤ n0) (h5 : dp + cn ≤ n1) (h6 : n0 ≤ 2147483647) (h7 : n1 ≤ 2147483647) (hdg : decode cc pc = .ok (.invokestatic index, 3))
    (kk : ∀ f', f' i2 = eI tc n1 (va_cpy g g2 sp dp cn) → (∀ q, q ≠ i2 → f' q = f q) → VV X ad N f' k n (pc + 3) lv st) : VV X ad N f k n pc lv (.int (iI zn) :: .int (iI zd) :: .ref (ad i2) :: .int (iI zs) :: .ref t :: st) := by
  intro H locs ls hP hD hS hl
  have hR0 := C.1.2.2.2.1
  have hts := C.2.1.2.2.2.2
  have hK := C.2.2.1
  obtain ⟨⟨-, rfl, -, -, hnL⟩, C1, -⟩ := C
  have es := iI_ix hzs (by omega)
  have ed := iI_ix hzd (by omega)
  have en := iI_ix hzn (by omega)
  refine cpy_tab C1.1 C1.2.1 (by rw [C1.2.2.1]; exact (hl.1.trans hnL).symm) C1.2.2.2.1 (hts _ hw.1) (hts _ hw.2.1) (hts _ hw.2.2.1) (hts _ hw.2.2.2) hK hP hD hS hX i2 0 (by rw [hw_get hi2, hf2]) rfl (nneg hzs (by omega)) (nneg hzd (by omega)) (nneg hzn (by omega)) (by rw [es, en]; exact h4) (by rw [ed, en]; exact h5) (by rw [hR0]; exact hfr) (by rw [hR0]; exact hlo) hdg ?_
  intro H1 locs1 hP hD hS
  rw [es, ed, en, hw_set hi2] at hP hD
  exact kk _ (by simp [va_up]) (fun q hq => by simp [va_up, hq]) H1 locs1 ls hP hD hS hl
/-- the cells may be numbered otherwise -/
theorem r_perm {N' : Nat} (sg : Nat → Nat) (h1 : ∀ i, i < N' → sg i < N) (h2 : ∀ i j, i < N' → j < N' → sg i = sg j → i = j) (kk : VV X (fun i => ad (sg i)) N' (fun i => f (sg i)) k n pc lv st) : VV X ad N f k n pc lv st := by
  intro H locs ls hP hD hS hl
  refine kk H locs ls (fun j q hq => ?_) ⟨fun i j x y hi hj hxy => ?_, fun j q hq => ?_⟩ hS hl
  · obtain ⟨hj, rfl⟩ := hw_some hq
    exact hP (sg j) _ (hw_get (h1 j hj))
  · obtain ⟨g1, rfl⟩ := hw_some hi
    obtain ⟨g2, rfl⟩ := hw_some hj
    exact h2 i j g1 g2 (hD.1 (sg i) (sg j) _ _ (hw_get (h1 i g1)) (hw_get (h1 j g2)) hxy)
  · obtain ⟨hj, rfl⟩ := hw_some hq
    exact hD.2 (sg j) _ (hw_get (h1 j hj))
/-- a row of references gets another function that agrees up to its end -/
theorem r_cvQ {i len : Nat} {c : ClassId} {g : Nat → Option Nat} (hf : f i = .inl (c, len, .inr (.inr (.inr (.inr g))))) (h : Nat → Option Nat) (he : ∀ j, j < len → g j = h j) (kk : ∀ f', f' i = .inl (c, len, .inr (.inr (.inr (.inr h)))) → (∀ q, q ≠ i → f' q = f q) → VV X ad N f' k n pc lv st) : VV X ad N f k n pc lv st := by
  intro H locs ls hP hD hS hl
  refine kk (va_up f i (.inl (c, len, .inr (.inr (.inr (.inr h)))))) (by simp [va_up]) (fun q hq => by simp [va_up, hq]) H locs ls (fun j q hq => ?_) ⟨fun i' j x y hi hj hxy => ?_, fun j q hq => ?_⟩ hS hl
  · obtain ⟨hj, rfl⟩ := hw_some hq
    have h0 := hP j (ad j, f j) (hw_get hj)
    by_cases e : j = i
    · subst e
      rw [hf] at h0
      show va_at _ _ (ad j, va_up f j _ j) H
      rw [show va_up f j (.inl (c, len, .inr (.inr (.inr (.inr h))))) j = (.inl (c, len, .inr (.inr (.inr (.inr h)))) : va_E) from by simp [va_up]]
      show H[ad j]? = some (vp_cell c (len, .inr (.inr (.inr (.inr h)))))
      have h0 : H[ad j]? = some (vp_cell c (len, .inr (.inr (.inr (.inr g))))) := h0
      rw [h0, vp_cell_q, vp_cell_q]
      unfold arrV
      congr 3
      funext z
      show va_rf (g z.val) = va_rf (h z.val)
      rw [he z.val z.isLt]
    · rw [show va_up f i (.inl (c, len, .inr (.inr (.inr (.inr h))))) j = f j from by simp [va_up, e]]
      exact h0
  · obtain ⟨g1, rfl⟩ := hw_some hi
    obtain ⟨g2, rfl⟩ := hw_some hj
    exact hD.1 i' j _ _ (hw_get g1) (hw_get g2) hxy
  · obtain ⟨hj, rfl⟩ := hw_some hq
    exact hD.2 j (ad j, f j) (hw_get hj)
theorem isSt.mv {ad' : Nat → Nat} {f' : Nat → va_E} {i : Nat} {n : NS} (h : isSt tc ad f i n) (ha : ∀ q, i ≤ q → q < i + 4 → ad' q = ad q) (hq : ∀ q, i ≤ q → q < i + 4 → f' q = f q) : isSt tc ad' f' i n := by
  refine ⟨(hq _ (by omega) (by omega)).trans (h.1.trans ?_), (hq _ (by omega) (by omega)).trans h.2.1, (hq _ (by omega) (by omega)).trans h.2.2.1, (hq _ (by omega) (by omega)).trans h.2.2.2⟩
  show oS ad i n.2.2.2 = oS ad' i n.2.2.2
  unfold oS
  rw [ha (i + 1) (by omega) (by omega), ha (i + 2) (by omega) (by omega), ha (i + 3) (by omega) (by omega)]
theorem isWd.mv {ad' : Nat → Nat} {f' : Nat → va_E} {i : Nat} {w : WW} (h : isWd tc ad f i w) (ha : ∀ q, i ≤ q → q < i + 4 → ad' q = ad q) (hq : ∀ q, i ≤ q → q < i + 4 → f' q = f q) : isWd tc ad' f' i w := by
  obtain ⟨v, c, t, h1, h2, h3, h4, h5⟩ := h
  refine ⟨v, c, t, (hq _ (by omega) (by omega)).trans (h1.trans ?_), (hq _ (by omega) (by omega)).trans h2, (hq _ (by omega) (by omega)).trans h3, (hq _ (by omega) (by omega)).trans h4, h5⟩
  show oW ad i w.1 = oW ad' i w.1
  unfold oW
  rw [ha (i + 1) (by omega) (by omega), ha (i + 2) (by omega) (by omega), ha (i + 3) (by omega) (by omega)]
/-- the state of the beginning -/
def n0 : NS := (fun j => (fS j).toNat, fun _ => 0, fun _ => 0, 0)
def s0 : SG := (n0, fun _ => n0, 0, fun _ => n0, fun _ => false, fun _ => 0, 0)
theorem okN_0 : okN n0 := by
  refine ⟨⟨by decide, by decide⟩, ⟨by decide, by decide⟩, ⟨by decide, by decide⟩, by decide, by decide, fun _ _ => Nat.zero_le _, fun _ _ => Nat.zero_le _⟩
theorem okS_0 : okS s0 := ⟨okN_0, Nat.zero_le _, fun _ _ => okN_0, fun _ _ _ => okN_0, Nat.zero_le _, fun _ _ => Nat.zero_le _⟩
theorem fS_nat (j : Nat) : ((((fS j).toNat : Nat) : Int)) = fS j := by
  unfold fS
  split
  · rfl
  · split
    · rfl
    · split <;> rfl
end NWL
