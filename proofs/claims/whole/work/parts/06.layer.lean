/-! THE LAYER: the world as a function of a cell's number; one judgement VV, that hides the heap; numbers as iI of an Int -/
section LYR
def iI (z : Int) : Int32 := Int32.ofInt z
def jI (z : Int) : Int64 := Int64.ofInt z
abbrev inR (z : Int) : Prop := -2147483648 ≤ z ∧ z < 2147483648
abbrev inL (z : Int) : Prop := -9223372036854775808 ≤ z ∧ z < 9223372036854775808
theorem iI_toInt {z : Int} (h : inR z) : (iI z).toInt = z := Int32.toInt_ofInt_of_le (by have := h.1; omega) (by have := h.2; omega)
theorem jI_toInt {z : Int} (h : inL z) : (jI z).toInt = z := Int64.toInt_ofInt_of_le (by have := h.1; omega) (by have := h.2; omega)
theorem iI_of (x : Int32) : x = iI x.toInt := (Int32.ofInt_toInt x).symm
theorem jI_of (x : Int64) : x = jI x.toInt := (Int64.ofInt_toInt x).symm
theorem inR_toInt (x : Int32) : inR x.toInt := ⟨by have := Int32.le_toInt x; omega, by have := Int32.toInt_lt x; omega⟩
theorem inL_toInt (x : Int64) : inL x.toInt := ⟨by have := Int64.le_toInt x; omega, by have := Int64.toInt_lt x; omega⟩
theorem iI_add (a b : Int) : iI a + iI b = iI (a + b) := (Int32.ofInt_add a b).symm
theorem iI_sub (a b : Int) : iI a - iI b = iI (a - b) := (Int32.ofInt_sub a b).symm
theorem iI_mul (a b : Int) : iI a * iI b = iI (a * b) := (Int32.ofInt_mul a b).symm
theorem iI_div {a b : Int} (ha : inR a) (h0 : 0 ≤ a) (hb : inR b) (hb0 : 0 < b) : iI a / iI b = iI (a / b) := by
  have h := Int32.ofInt_tdiv (a := a) (b := b) (show (-2147483648 : Int) ≤ a from ha.1) (show a ≤ (2147483647 : Int) from by have := ha.2; omega) (show (-2147483648 : Int) ≤ b from hb.1) (show b ≤ (2147483647 : Int) from by have := hb.2; omega)
  rw [Int.tdiv_eq_ediv_of_nonneg h0] at h
  exact h.symm
theorem iI_lt {a b : Int} (ha : inR a) (hb : inR b) : iI a < iI b ↔ a < b := by rw [Int32.lt_iff_toInt_lt, iI_toInt ha, iI_toInt hb]
theorem iI_le {a b : Int} (ha : inR a) (hb : inR b) : iI a ≤ iI b ↔ a ≤ b := by rw [Int32.le_iff_toInt_le, iI_toInt ha, iI_toInt hb]
theorem iI_eq {a b : Int} (ha : inR a) (hb : inR b) : iI a = iI b ↔ a = b := by rw [← Int32.toInt_inj, iI_toInt ha, iI_toInt hb]
theorem iI_clamp {z : Int} (h : inR z) : (iI z).toNatClampNeg = z.toNat := by
  show (iI z).toInt.toNat = _
  rw [iI_toInt h]
theorem iI_0 : iI 0 = 0 := rfl
theorem inR_nat {n : Nat} (h : n ≤ 2147483647) : inR (n : Int) := ⟨by omega, by omega⟩
theorem iI_vin {z : Int} {k n : Nat} (hz : z = (k : Int)) (hk : k < n) (hn : n ≤ 2147483647) : vp_in (iI z) n := by
  have h : inR z := ⟨by omega, by omega⟩
  rw [vp_in_iff, iI_toInt h]
  omega
theorem iI_ix {z : Int} {k : Nat} (hz : z = (k : Int)) (hk : k ≤ 2147483647) : (iI z).toNatClampNeg = k := by
  rw [iI_clamp ⟨by omega, by omega⟩]
  omega
/-- the world: cell number i lies at ad i and holds f i -/
def hw (ad : Nat → Nat) (f : Nat → va_E) (N : Nat) : va_W := (List.range N).map (fun i => (ad i, f i))
theorem hw_get {ad : Nat → Nat} {f : Nat → va_E} {N i : Nat} (hi : i < N) : (hw ad f N)[i]? = some (ad i, f i) := by simp [hw, hi]
theorem hw_none {ad : Nat → Nat} {f : Nat → va_E} {N i : Nat} (hi : N ≤ i) : (hw ad f N)[i]? = none := by
  rw [List.getElem?_eq_none]
  simp [hw]
  exact hi
theorem hw_some {ad : Nat → Nat} {f : Nat → va_E} {N i : Nat} {q : Nat × va_E} (h : (hw ad f N)[i]? = some q) : i < N ∧ q = (ad i, f i) := by
  rcases Nat.lt_or_ge i N with hi | hi
  · rw [hw_get hi] at h
    exact ⟨hi, (Option.some.inj h).symm⟩
  · rw [hw_none hi] at h
    cases h
theorem hw_set {ad : Nat → Nat} {f : Nat → va_E} {N i : Nat} {e : va_E} (hi : i < N) : (hw ad f N).set i (ad i, e) = hw ad (va_up f i e) N := by
  refine List.ext_getElem? fun k => ?_
  by_cases h : k = i
  · subst h
    rw [List.getElem?_set_self (by simp [hw]; exact hi), hw_get hi]
    simp [va_up]
  · rw [List.getElem?_set_ne (Ne.symm h)]
    rcases Nat.lt_or_ge k N with hk | hk
    · rw [hw_get hk, hw_get hk]
      simp [va_up, h]
    · rw [hw_none hk, hw_none hk]
theorem hw_push {ad : Nat → Nat} {f : Nat → va_E} {N q : Nat} {e : va_E} : hw ad f N ++ [(q, e)] = hw (va_up ad N q) (va_up f N e) (N + 1) := by
  refine List.ext_getElem? fun k => ?_
  have hlen : (hw ad f N).length = N := by simp [hw]
  rcases Nat.lt_trichotomy k N with h | h | h
  · rw [List.getElem?_append_left (by rw [hlen]; exact h), hw_get h, hw_get (by omega)]
    simp [va_up, Nat.ne_of_lt h]
  · subst h
    rw [List.getElem?_append_right (by rw [hlen]; exact Nat.le_refl _), hlen, hw_get (Nat.lt_succ_self _)]
    simp [va_up]
  · rw [List.getElem?_append_right (by rw [hlen]; omega), hlen, hw_none (by omega), List.getElem?_eq_none]
    simp
    omega
/-- cells: rows of ints, of booleans, of States, of Words; objects -/
abbrev eI (tc : Nat → ClassId) (n : Nat) (g : Nat → Int32) : va_E := .inl (tc 0, n, .inl g)
abbrev eB (tc : Nat → ClassId) (n : Nat) (g : Nat → Int32) : va_E := .inl (tc 1, n, .inl g)
abbrev eS (tc : Nat → ClassId) (n : Nat) (g : Nat → Option Nat) : va_E := .inl (tc 2, n, .inr (.inr (.inr (.inr g))))
abbrev eW (tc : Nat → ClassId) (n : Nat) (g : Nat → Option Nat) : va_E := .inl (tc 3, n, .inr (.inr (.inr (.inr g))))
abbrev eO (ci : Nat) (fs : List Value) : va_E := .inr (ci, fs)
def tyL (tc : Nat → ClassId) : List (ClassId × FieldType) := [(tc 0, .int), (tc 1, .boolean), (tc 2, .object RX1), (tc 3, .object RX2)]
/-- two cells that no one can tell apart: rows may differ behind their ends -/
def ceq (a b : va_E) : Prop := a = b ∨ ∃ (c : ClassId) (n : Nat) (g h : Nat → Int32), a = .inl (c, n, .inl g) ∧ b = .inl (c, n, .inl h) ∧ ∀ j, j < n → g j = h j
theorem ceq.at {D : va_G} {cl : List vw_C} {a : Nat} {x y : va_E} {H : Heap} (h : ceq x y) (hx : va_at D cl (a, x) H) : va_at D cl (a, y) H := by
  rcases h with rfl | ⟨c, n, g, h, rfl, rfl, e⟩
  · exact hx
  · show H[a]? = some (vp_cell c (n, .inl h))
    have hx : H[a]? = some (vp_cell c (n, .inl g)) := hx
    rw [hx, vp_cell_i, vp_cell_i]
    unfold arrV
    congr 3
    funext j
    show Value.int (g j.val) = Value.int (h j.val)
    rw [e j.val j.isLt]
/-- the class's three tables -/
def lS : Nat → Int := fun j => if j = 3 then 0 else 1
def mS : Nat → Int := fun j => if j = 0 then 4 else if j = 1 then 32 else 1000002
def fS : Nat → Int := fun j => if j = 0 then 3 else if j = 1 then 8 else if j = 2 then 7919 else 104729
def st_T (nm : String) (g : Nat → Int) (A : Nat → Prop) (U : State) (H : Heap) : Prop := ∃ t : Nat, va_Z RX3 nm "[I" (.ref t) A U H ∧ va_T .int t 4 (fun j => .int (iI (g j))) A U H ∧ t < H.size ∧ ¬ A t
def SS (A : Nat → Prop) (U : State) (H : Heap) : Prop := (st_T "LEAST_SETTING" lS A U H ∧ st_T "MOST_SETTING" mS A U H ∧ st_T "FIRST_SETTING" fS A U H) ∧ va_Nw (.methodLinkNest RX0 59 yX3_shareDown RX3) U ∧ va_Nw (.methodLinkNest RX0 65 yX3_shareUp RX3) U ∧ va_Nw (.fieldLinkNest RX1 25 RX3 "FIRST_SETTING" "[I" RX3) U ∧ va_AO RX1 U ∧ va_AO RX2 U
end LYR
section LYR2
/-- all that stays fixed in one method's walk -/
abbrev XT : Type := (va_G × (Nat → ClassId)) × (Program × Launch × Env × State × MethodId × Array Value) × (List Frame × Method × Code × Room × Nat) × (Nat → Prop) × (State → Prop)
/-- from pc, with these locals and this stack, over the world f, the walk comes to its end; k cells of n slots are made so far -/
def VV (X : XT) (ad : Nat → Nat) (N : Nat) (f : Nat → va_E) (k n : Nat) (pc : Nat) (lv : List (Nat × Value)) (st : List Value) : Prop :=
  ∀ (H : Heap) (locs : List Loc) (ls : Array Slot), va_P X.1.1 vwCl (hw ad f N) H → va_D X.2.2.2.1 (hw ad f N) → va_S X.2.2.2.1 X.2.1.2.2.2.1.heap H locs → lv_has ls X.2.2.1.2.2.2.2 lv →
    W X.2.1.1 X.2.1.2.1 X.2.1.2.2.1 X.2.2.1.2.2.2.1 X.2.1.2.2.2.1 X.2.1.2.2.2.2.1 X.2.1.2.2.2.2.2 X.2.2.1.1 X.2.2.1.2.1 X.2.2.1.2.2.1 H locs k n X.2.2.2.2 (F0 X.2.1.2.2.2.2.1 pc ls st)
def CC (X : XT) (G : va_G) (tc : Nat → ClassId) (l : Launch) (cc : ByteArray) (own : String) (Ts : List Cond) (nL : Nat) (R : Room) : Prop :=
  (X.1.1 = G ∧ X.1.2 = tc ∧ X.2.1.2.1 = l ∧ X.2.2.1.2.2.2.1 = R ∧ X.2.2.1.2.2.2.2 = nL) ∧
  CallFix X.2.1.1 X.2.1.2.2.2.2.1 X.2.2.1.2.2.1 cc nL X.2.1.2.2.2.1 X.2.1.2.2.2.2.2 Ts own ∧
  va_K X.1.1 vwCl (tyL X.1.2) X.2.1.2.2.2.1 ∧ SS X.2.2.2.1 X.2.1.2.2.2.1 X.2.1.2.2.2.1.heap ∧ (∀ q : Nat, X.2.1.2.2.2.1.heap.size ≤ q → X.2.2.2.1 q) ∧ X.2.2.1.2.1.locks = false
def lg : List (Nat × Value) → Nat → Option Value
  | [], _ => none
  | (j, v) :: r, i => if j = i then some v else lg r i
theorem lg_mem : ∀ {lv : List (Nat × Value)} {i : Nat} {v : Value}, lg lv i = some v → (i, v) ∈ lv
  | [], _, _, h => by cases h
  | (j, w) :: r, i, v, h => by
    unfold lg at h
    split at h
    · rename_i e
      subst e
      cases h
      exact List.mem_cons_self
    · exact List.mem_cons_of_mem _ (lg_mem h)
theorem lg_at {ls : Array Slot} {nL : Nat} {lv : List (Nat × Value)} (h : lv_has ls nL lv) {i : Nat} {v : Value} (hl : lg lv i = some v) : ls[i]? = some (.val v) := h.2.2 (i, v) (lg_mem hl)
def lins (i : Nat) (v : Value) : List (Nat × Value) → List (Nat × Value)
  | [] => [(i, v)]
  | (j, w) :: r => if i < j then (i, v) :: (j, w) :: r else (j, w) :: lins i v r
theorem lins_mem {i : Nat} {v : Value} : ∀ {l : List (Nat × Value)} {q : Nat × Value}, q ∈ lins i v l → q = (i, v) ∨ q ∈ l
  | [], q, h => Or.inl (List.mem_singleton.mp h)
  | (j, w) :: r, q, h => by
    unfold lins at h
    split at h
    · rcases List.mem_cons.mp h with h | h
      · exact Or.inl h
      · exact Or.inr h
    · rcases List.mem_cons.mp h with h | h
      · exact Or.inr (by rw [h]; exact List.mem_cons_self)
      · rcases lins_mem h with h | h
        · exact Or.inl h
        · exact Or.inr (List.mem_cons_of_mem _ h)
def lst (lv : List (Nat × Value)) (i : Nat) (v : Value) : List (Nat × Value) := lins i v (lv.filter (fun q => !(q.1 == i) && !(q.1 + 1 == i && q.2.category == 2)))
def lst2 (lv : List (Nat × Value)) (i : Nat) (v : Value) : List (Nat × Value) := lins i v (lv.filter (fun q => !(q.1 == i) && (!(q.1 == i + 1) && !(q.1 + 1 == i && q.2.category == 2))))
theorem lins_has {ls : Array Slot} {nL i : Nat} {v : Value} {l : List (Nat × Value)} (h : lv_has ls nL ((i, v) :: l)) : lv_has ls nL (lins i v l) := by
  refine ⟨h.1, h.2.1, fun q hq => h.2.2 q ?_⟩
  rcases lins_mem hq with e | e
  · rw [e]; exact List.mem_cons_self
  · exact List.mem_cons_of_mem _ e
variable {X : XT} {G : va_G} {tc : Nat → ClassId} {l : Launch} {cc : ByteArray} {own : String} {Ts : List Cond} {nL : Nat} {R : Room} {ad : Nat → Nat} {N : Nat} {f : Nat → va_E} {k n pc : Nat} {lv lv' : List (Nat × Value)} {st : List Value}
theorem r_iconst (C : CC X G tc l cc own Ts nL R) {z : Int} (w : Int) (hw : Int32.ofInt z = iI w) (hdg : decode cc pc = .ok (.iconst z, 1)) (kk : VV X ad N f k n (pc + 1) lv (.int (iI w) :: st)) : VV X ad N f k n pc lv st :=
  fun H locs ls hP hD hS hl => lv_iconst C.2.1.1 C.2.1.2.1 hdg hw (kk H locs ls hP hD hS hl)
theorem r_bipush (C : CC X G tc l cc own Ts nL R) {z : Int} (w : Int) (hv : (Int8.ofInt z).toInt32 = iI w) (hdg : decode cc pc = .ok (.bipush z, 2)) (kk : VV X ad N f k n (pc + 2) lv (.int (iI w) :: st)) : VV X ad N f k n pc lv st :=
  fun H locs ls hP hD hS hl => lv_bipush C.2.1.1 C.2.1.2.1 hdg hv (kk H locs ls hP hD hS hl)
theorem r_sipush (C : CC X G tc l cc own Ts nL R) {z : Int} (w : Int) (hv : (Int16.ofInt z).toInt32 = iI w) (hdg : decode cc pc = .ok (.sipush z, 3)) (kk : VV X ad N f k n (pc + 3) lv (.int (iI w) :: st)) : VV X ad N f k n pc lv st :=
  fun H locs ls hP hD hS hl => lv_sipush C.2.1.1 C.2.1.2.1 hdg hv (kk H locs ls hP hD hS hl)
theorem r_ldc (C : CC X G tc l cc own Ts nL R) (w : Int) {index : Nat} {v : Int32} (hv : v = iI w) (hc : (Cond.constant own index v) ∈ Ts) (hdg : decode cc pc = .ok (.ldc index, 2)) (kk : VV X ad N f k n (pc + 2) lv (.int (iI w) :: st)) : VV X ad N f k n pc lv st := by
  subst hv
  exact fun H locs ls hP hD hS hl => lv_ldc C.2.1.1 C.2.1.2.1 C.2.1.2.2.2.1 (C.2.1.2.2.2.2 _ hc) hdg (kk H locs ls hP hD hS hl)
theorem r_ldc2 (C : CC X G tc l cc own Ts nL R) (w : Int) {index : Nat} {v : Int64} (hv : v = jI w) (hc : (Cond.constantLong own index v) ∈ Ts) (hdg : decode cc pc = .ok (.ldc2_w index, 3)) (kk : VV X ad N f k n (pc + 3) lv (.long (jI w) :: st)) : VV X ad N f k n pc lv st := by
  subst hv
  exact fun H locs ls hP hD hS hl => lv_ldc2 C.2.1.1 C.2.1.2.1 C.2.1.2.2.2.1 (C.2.1.2.2.2.2 _ hc) hdg (kk H locs ls hP hD hS hl)
theorem r_lconst (C : CC X G tc l cc own Ts nL R) {b : Fin 2} (z : Int) (hv : Int64.ofNat (b : Nat) = jI z) (hdg : decode cc pc = .ok (.lconst b, 1)) (kk : VV X ad N f k n (pc + 1) lv (.long (jI z) :: st)) : VV X ad N f k n pc lv st :=
  fun H locs ls hP hD hS hl => lv_lconst C.2.1.1 C.2.1.2.1 hdg hv (kk H locs ls hP hD hS hl)
theorem r_iload_n (C : CC X G tc l cc own Ts nL R) {b : Fin 4} {i : Nat} {x : Int32} (hdg : decode cc pc = .ok (.iload_n b, 1)) (hi : (b : Nat) = i) (hg : lg lv i = some (.int x)) (kk : VV X ad N f k n (pc + 1) lv (.int x :: st)) : VV X ad N f k n pc lv st :=
  fun H locs ls hP hD hS hl => lv_iload_n C.2.1.1 C.2.1.2.1 hdg hi (lg_at hl hg) (kk H locs ls hP hD hS hl)
theorem r_iload (C : CC X G tc l cc own Ts nL R) {i : Nat} {x : Int32} (hdg : decode cc pc = .ok (.iload i, 2)) (hg : lg lv i = some (.int x)) (kk : VV X ad N f k n (pc + 2) lv (.int x :: st)) : VV X ad N f k n pc lv st :=
  fun H locs ls hP hD hS hl => lv_iload C.2.1.1 C.2.1.2.1 hdg (lg_at hl hg) (kk H locs ls hP hD hS hl)
theorem r_lload_n (C : CC X G tc l cc own Ts nL R) {b : Fin 4} {i : Nat} {x : Int64} (hdg : decode cc pc = .ok (.lload_n b, 1)) (hi : (b : Nat) = i) (hg : lg lv i = some (.long x)) (kk : VV X ad N f k n (pc + 1) lv (.long x :: st)) : VV X ad N f k n pc lv st :=
  fun H locs ls hP hD hS hl => lv_lload_n C.2.1.1 C.2.1.2.1 hdg hi (lg_at hl hg) (kk H locs ls hP hD hS hl)
theorem r_lload (C : CC X G tc l cc own Ts nL R) {i : Nat} {x : Int64} (hdg : decode cc pc = .ok (.lload i, 2)) (hg : lg lv i = some (.long x)) (kk : VV X ad N f k n (pc + 2) lv (.long x :: st)) : VV X ad N f k n pc lv st :=
  fun H locs ls hP hD hS hl => lv_lload C.2.1.1 C.2.1.2.1 hdg (lg_at hl hg) (kk H locs ls hP hD hS hl)
theorem r_aload_n (C : CC X G tc l cc own Ts nL R) {b : Fin 4} {i : Nat} {x : Nat} (hdg : decode cc pc = .ok (.aload_n b, 1)) (hi : (b : Nat) = i) (hg : lg lv i = some (.ref x)) (kk : VV X ad N f k n (pc + 1) lv (.ref x :: st)) : VV X ad N f k n pc lv st :=
  fun H locs ls hP hD hS hl => lv_aload_n C.2.1.1 C.2.1.2.1 hdg hi (lg_at hl hg) (kk H locs ls hP hD hS hl)
theorem r_aload (C : CC X G tc l cc own Ts nL R) {i : Nat} {x : Nat} (hdg : decode cc pc = .ok (.aload i, 2)) (hg : lg lv i = some (.ref x)) (kk : VV X ad N f k n (pc + 2) lv (.ref x :: st)) : VV X ad N f k n pc lv st :=
  fun H locs ls hP hD hS hl => lv_aload C.2.1.1 C.2.1.2.1 hdg (lg_at hl hg) (kk H locs ls hP hD hS hl)
theorem r_istore_n (C : CC X G tc l cc own Ts nL R) {b : Fin 4} {i : Nat} {x : Int32} (hdg : decode cc pc = .ok (.istore_n b, 1)) (hi : (b : Nat) = i) (hn : i < nL) (hs : lst lv i (.int x) = lv') (kk : VV X ad N f k n (pc + 1) lv' st) : VV X ad N f k n pc lv (.int x :: st) :=
  fun H locs ls hP hD hS hl => lv_istore_n C.2.1.1 C.2.1.2.1 hdg hi hl (by rw [C.1.2.2.2.2]; exact hn) rfl (fun ls' h' => kk H locs ls' hP hD hS (hs ▸ lins_has h'))
theorem r_istore (C : CC X G tc l cc own Ts nL R) {i : Nat} {x : Int32} (hdg : decode cc pc = .ok (.istore i, 2)) (hn : i < nL) (hs : lst lv i (.int x) = lv') (kk : VV X ad N f k n (pc + 2) lv' st) : VV X ad N f k n pc lv (.int x :: st) :=
  fun H locs ls hP hD hS hl => lv_istore C.2.1.1 C.2.1.2.1 hdg hl (by rw [C.1.2.2.2.2]; exact hn) rfl (fun ls' h' => kk H locs ls' hP hD hS (hs ▸ lins_has h'))
theorem r_lstore_n (C : CC X G tc l cc own Ts nL R) {b : Fin 4} {i : Nat} {x : Int64} (hdg : decode cc pc = .ok (.lstore_n b, 1)) (hi : (b : Nat) = i) (hn : i + 1 < nL) (hs : lst2 lv i (.long x) = lv') (kk : VV X ad N f k n (pc + 1) lv' st) : VV X ad N f k n pc lv (.long x :: st) :=
  fun H locs ls hP hD hS hl => lv_lstore_n C.2.1.1 C.2.1.2.1 hdg hi hl (by rw [C.1.2.2.2.2]; exact hn) rfl (fun ls' h' => kk H locs ls' hP hD hS (hs ▸ lins_has h'))
theorem r_lstore (C : CC X G tc l cc own Ts nL R) {i : Nat} {x : Int64} (hdg : decode cc pc = .ok (.lstore i, 2)) (hn : i + 1 < nL) (hs : lst2 lv i (.long x) = lv') (kk : VV X ad N f k n (pc + 2) lv' st) : VV X ad N f k n pc lv (.long x :: st) :=
  fun H locs ls hP hD hS hl => lv_lstore C.2.1.1 C.2.1.2.1 hdg hl (by rw [C.1.2.2.2.2]; exact hn) rfl (fun ls' h' => kk H locs ls' hP hD hS (hs ▸ lins_has h'))
theorem r_astore_n (C : CC X G tc l cc own Ts nL R) {b : Fin 4} {i : Nat} {x : Nat} (hdg : decode cc pc = .ok (.astore_n b, 1)) (hi : (b : Nat) = i) (hn : i < nL) (hs : lst lv i (.ref x) = lv') (kk : VV X ad N f k n (pc + 1) lv' st) : VV X ad N f k n pc lv (.ref x :: st) :=
  fun H locs ls hP hD hS hl => lv_astore_n C.2.1.1 C.2.1.2.1 hdg hi hl (by rw [C.1.2.2.2.2]; exact hn) rfl (fun ls' h' => kk H locs ls' hP hD hS (hs ▸ lins_has h'))
theorem r_astore (C : CC X G tc l cc own Ts nL R) {i : Nat} {x : Nat} (hdg : decode cc pc = .ok (.astore i, 2)) (hn : i < nL) (hs : lst lv i (.ref x) = lv') (kk : VV X ad N f k n (pc + 2) lv' st) : VV X ad N f k n pc lv (.ref x :: st) :=
  fun H locs ls hP hD hS hl => lv_astore C.2.1.1 C.2.1.2.1 hdg hl (by rw [C.1.2.2.2.2]; exact hn) rfl (fun ls' h' => kk H locs ls' hP hD hS (hs ▸ lins_has h'))
theorem r_iinc (C : CC X G tc l cc own Ts nL R) {i : Nat} {d z : Int} (w : Int) (hw : z + d = w) (hdg : decode cc pc = .ok (.iinc i d, 3)) (hg : lg lv i = some (.int (iI z))) (hn : i < nL) (hs : lst lv i (.int (iI w)) = lv') (kk : VV X ad N f k n (pc + 3) lv' st) : VV X ad N f k n pc lv st := by
  intro H locs ls hP hD hS hl
  obtain ⟨j, hj⟩ := List.getElem?_of_mem (lg_mem hg)
  exact lv_iinc (k := j) C.2.1.1 C.2.1.2.1 hdg hl hj (hw ▸ iI_add z d) (by rw [C.1.2.2.2.2]; exact hn) rfl (fun ls' h' => kk H locs ls' hP hD hS (hs ▸ lins_has h'))
theorem r_iadd (C : CC X G tc l cc own Ts nL R) {a b : Int} (w : Int) (hw : a + b = w) (hdg : decode cc pc = .ok (.iadd, 1)) (kk : VV X ad N f k n (pc + 1) lv (.int (iI w) :: st)) : VV X ad N f k n pc lv (.int (iI b) :: .int (iI a) :: st) :=
  fun H locs ls hP hD hS hl => lv_iadd C.2.1.1 C.2.1.2.1 hdg (by rw [iI_add, hw]; exact kk H locs ls hP hD hS hl)
theorem r_isub (C : CC X G tc l cc own Ts nL R) {a b : Int} (w : Int) (hw : a - b = w) (hdg : decode cc pc = .ok (.isub, 1)) (kk : VV X ad N f k n (pc + 1) lv (.int (iI w) :: st)) : VV X ad N f k n pc lv (.int (iI b) :: .int (iI a) :: st) :=
  fun H locs ls hP hD hS hl => lv_isub C.2.1.1 C.2.1.2.1 hdg (by rw [iI_sub, hw]; exact kk H locs ls hP hD hS hl)
theorem r_imul (C : CC X G tc l cc own Ts nL R) {a b : Int} (w : Int) (hw : a * b = w) (hdg : decode cc pc = .ok (.imul, 1)) (kk : VV X ad N f k n (pc + 1) lv (.int (iI w) :: st)) : VV X ad N f k n pc lv (.int (iI b) :: .int (iI a) :: st) :=
  fun H locs ls hP hD hS hl => lv_imul C.2.1.1 C.2.1.2.1 hdg (by rw [iI_mul, hw]; exact kk H locs ls hP hD hS hl)
theorem r_idiv (C : CC X G tc l cc own Ts nL R) {a b : Int} (w : Int) (hw : a / b = w) (ha : inR a) (h0 : 0 ≤ a) (hb : inR b) (hb0 : 0 < b) (hdg : decode cc pc = .ok (.idiv, 1)) (kk : VV X ad N f k n (pc + 1) lv (.int (iI w) :: st)) : VV X ad N f k n pc lv (.int (iI b) :: .int (iI a) :: st) :=
  fun H locs ls hP hD hS hl => lv_idiv C.2.1.1 C.2.1.2.1 hdg (fun e => by rw [← iI_0, iI_eq hb ⟨by decide, by decide⟩] at e; omega) (by rw [iI_div ha h0 hb hb0, hw]; exact kk H locs ls hP hD hS hl)
theorem r_ineg (C : CC X G tc l cc own Ts nL R) {a : Int} (hdg : decode cc pc = .ok (.ineg, 1)) (kk : VV X ad N f k n (pc + 1) lv (.int (iI (-a)) :: st)) : VV X ad N f k n pc lv (.int (iI a) :: st) :=
  fun H locs ls hP hD hS hl => lv_ineg C.2.1.1 C.2.1.2.1 hdg (by have e : -(iI a) = iI (-a) := (Int32.ofInt_neg a).symm; first | (rw [e]; exact kk H locs ls hP hD hS hl) | (rw [show (0 : Int32) - iI a = iI (-a) from by rw [← e, Int32.zero_sub]]; exact kk H locs ls hP hD hS hl))
theorem r_iand (C : CC X G tc l cc own Ts nL R) {x y : Int32} (hdg : decode cc pc = .ok (.iand, 1)) (kk : VV X ad N f k n (pc + 1) lv (.int (x &&& y) :: st)) : VV X ad N f k n pc lv (.int y :: .int x :: st) :=
  fun H locs ls hP hD hS hl => lv_iand C.2.1.1 C.2.1.2.1 hdg (kk H locs ls hP hD hS hl)
theorem r_ior (C : CC X G tc l cc own Ts nL R) {x y : Int32} (hdg : decode cc pc = .ok (.ior, 1)) (kk : VV X ad N f k n (pc + 1) lv (.int (x ||| y) :: st)) : VV X ad N f k n pc lv (.int y :: .int x :: st) :=
  fun H locs ls hP hD hS hl => lv_ior C.2.1.1 C.2.1.2.1 hdg (kk H locs ls hP hD hS hl)
theorem r_ixor (C : CC X G tc l cc own Ts nL R) {x y : Int32} (hdg : decode cc pc = .ok (.ixor, 1)) (kk : VV X ad N f k n (pc + 1) lv (.int (x ^^^ y) :: st)) : VV X ad N f k n pc lv (.int y :: .int x :: st) :=
  fun H locs ls hP hD hS hl => lv_ixor C.2.1.1 C.2.1.2.1 hdg (kk H locs ls hP hD hS hl)
theorem r_ishl (C : CC X G tc l cc own Ts nL R) {x y : Int32} (hdg : decode cc pc = .ok (.ishl, 1)) (kk : VV X ad N f k n (pc + 1) lv (.int (x <<< (y &&& 31)) :: st)) : VV X ad N f k n pc lv (.int y :: .int x :: st) :=
  fun H locs ls hP hD hS hl => lv_ishl C.2.1.1 C.2.1.2.1 hdg (kk H locs ls hP hD hS hl)
theorem r_ishr (C : CC X G tc l cc own Ts nL R) {x y : Int32} (hdg : decode cc pc = .ok (.ishr, 1)) (kk : VV X ad N f k n (pc + 1) lv (.int (x >>> (y &&& 31)) :: st)) : VV X ad N f k n pc lv (.int y :: .int x :: st) :=
  fun H locs ls hP hD hS hl => lv_ishr C.2.1.1 C.2.1.2.1 hdg (kk H locs ls hP hD hS hl)
theorem r_i2l (C : CC X G tc l cc own Ts nL R) {x : Int32} (hdg : decode cc pc = .ok (.i2l, 1)) (kk : VV X ad N f k n (pc + 1) lv (.long x.toInt64 :: st)) : VV X ad N f k n pc lv (.int x :: st) :=
  fun H locs ls hP hD hS hl => lv_i2l C.2.1.1 C.2.1.2.1 hdg rfl (kk H locs ls hP hD hS hl)
theorem r_l2i (C : CC X G tc l cc own Ts nL R) {x : Int64} (hdg : decode cc pc = .ok (.l2i, 1)) (kk : VV X ad N f k n (pc + 1) lv (.int x.toInt32 :: st)) : VV X ad N f k n pc lv (.long x :: st) :=
  fun H locs ls hP hD hS hl => lv_l2i C.2.1.1 C.2.1.2.1 hdg rfl (kk H locs ls hP hD hS hl)
theorem r_ladd (C : CC X G tc l cc own Ts nL R) {x y : Int64} (hdg : decode cc pc = .ok (.ladd, 1)) (kk : VV X ad N f k n (pc + 1) lv (.long (x + y) :: st)) : VV X ad N f k n pc lv (.long y :: .long x :: st) :=
  fun H locs ls hP hD hS hl => lv_ladd C.2.1.1 C.2.1.2.1 hdg (kk H locs ls hP hD hS hl)
theorem r_lmul (C : CC X G tc l cc own Ts nL R) {x y : Int64} (hdg : decode cc pc = .ok (.lmul, 1)) (kk : VV X ad N f k n (pc + 1) lv (.long (x * y) :: st)) : VV X ad N f k n pc lv (.long y :: .long x :: st) :=
  fun H locs ls hP hD hS hl => lv_lmul C.2.1.1 C.2.1.2.1 hdg (kk H locs ls hP hD hS hl)
theorem r_lrem (C : CC X G tc l cc own Ts nL R) {x y : Int64} (hdg : decode cc pc = .ok (.lrem, 1)) (hne : ¬ y = 0) (kk : VV X ad N f k n (pc + 1) lv (.long (x - x / y * y) :: st)) : VV X ad N f k n pc lv (.long y :: .long x :: st) :=
  fun H locs ls hP hD hS hl => lv_lrem C.2.1.1 C.2.1.2.1 hdg hne (kk H locs ls hP hD hS hl)
theorem r_land (C : CC X G tc l cc own Ts nL R) {x y : Int64} (hdg : decode cc pc = .ok (.land, 1)) (kk : VV X ad N f k n (pc + 1) lv (.long (x &&& y) :: st)) : VV X ad N f k n pc lv (.long y :: .long x :: st) :=
  fun H locs ls hP hD hS hl => lv_land C.2.1.1 C.2.1.2.1 hdg (kk H locs ls hP hD hS hl)
theorem r_lor (C : CC X G tc l cc own Ts nL R) {x y : Int64} (hdg : decode cc pc = .ok (.lor, 1)) (kk : VV X ad N f k n (pc + 1) lv (.long (x ||| y) :: st)) : VV X ad N f k n pc lv (.long y :: .long x :: st) :=
  fun H locs ls hP hD hS hl => lv_lor C.2.1.1 C.2.1.2.1 hdg (kk H locs ls hP hD hS hl)
theorem r_lshl (C : CC X G tc l cc own Ts nL R) {x : Int64} {y : Int32} (hdg : decode cc pc = .ok (.lshl, 1)) (kk : VV X ad N f k n (pc + 1) lv (.long (x <<< (y.toInt64 &&& 63)) :: st)) : VV X ad N f k n pc lv (.int y :: .long x :: st) :=
  fun H locs ls hP hD hS hl => lv_lshl C.2.1.1 C.2.1.2.1 hdg rfl (kk H locs ls hP hD hS hl)
theorem r_lshr (C : CC X G tc l cc own Ts nL R) {x : Int64} {y : Int32} (hdg : decode cc pc = .ok (.lshr, 1)) (kk : VV X ad N f k n (pc + 1) lv (.long (x >>> (y.toInt64 &&& 63)) :: st)) : VV X ad N f k n pc lv (.int y :: .long x :: st) :=
  fun H locs ls hP hD hS hl => lv_lshr C.2.1.1 C.2.1.2.1 hdg rfl (kk H locs ls hP hD hS hl)
theorem r_lushr (C : CC X G tc l cc own Ts nL R) {x : Int64} {y : Int32} (hdg : decode cc pc = .ok (.lushr, 1)) (kk : VV X ad N f k n (pc + 1) lv (.long ((x.toUInt64 >>> (y.toInt64.toUInt64 &&& Int64.toUInt64 63)).toInt64) :: st)) : VV X ad N f k n pc lv (.int y :: .long x :: st) :=
  fun H locs ls hP hD hS hl => lv_lushr C.2.1.1 C.2.1.2.1 hdg rfl (kk H locs ls hP hD hS hl)
theorem r_dup (C : CC X G tc l cc own Ts nL R) {v : Value} (hdg : decode cc pc = .ok (.dup, 1)) (hv : v.category = 1) (kk : VV X ad N f k n (pc + 1) lv (v :: v :: st)) : VV X ad N f k n pc lv (v :: st) :=
  fun H locs ls hP hD hS hl => lv_dup C.2.1.1 C.2.1.2.1 hdg hv (kk H locs ls hP hD hS hl)
theorem r_dup2 (C : CC X G tc l cc own Ts nL R) {v w : Value} (hdg : decode cc pc = .ok (.dup2, 1)) (hv : v.category = 1) (hw : w.category = 1) (kk : VV X ad N f k n (pc + 1) lv (v :: w :: v :: w :: st)) : VV X ad N f k n pc lv (v :: w :: st) :=
  fun H locs ls hP hD hS hl => lv_dup2_11 C.2.1.1 C.2.1.2.1 hdg hv hw (kk H locs ls hP hD hS hl)
theorem r_goto (C : CC X G tc l cc own Ts nL R) {off : Int} {tgt : Nat} (hdg : decode cc pc = .ok (.goto off, 3)) (ht : (pc : Int) + off = (tgt : Int)) (kk : VV X ad N f k n tgt lv st) : VV X ad N f k n pc lv st :=
  fun H locs ls hP hD hS hl => lv_goto C.2.1.1 C.2.1.2.1 hdg ht (kk H locs ls hP hD hS hl)
theorem r_sub {ks : List Nat} (hs : lv_pick lv ks = lv') (kk : VV X ad N f k n pc lv' st) : VV X ad N f k n pc lv st :=
  fun H locs ls hP hD hS hl => kk H locs ls hP hD hS (lv_sub hl ks hs)
theorem r_if_eq (C : CC X G tc l cc own Ts nL R) {z off : Int} {tgt : Nat} (hz : inR z) (hdg : decode cc pc = .ok (.ifCond .eq off, 3)) (ht : (pc : Int) + off = (tgt : Int)) (kt : z = 0 → VV X ad N f k n tgt lv st) (kf : ¬ z = 0 → VV X ad N f k n (pc + 3) lv st) : VV X ad N f k n pc lv (.int (iI z) :: st) := by
  intro H locs ls hP hD hS hl
  have q0 : inR 0 := ⟨by decide, by decide⟩
  refine lv_if_eq C.2.1.1 C.2.1.2.1 hdg ht (fun h => kt ?_ H locs ls hP hD hS hl) (fun h => kf ?_ H locs ls hP hD hS hl)
  · rw [← iI_0, iI_eq hz q0] at h
    exact h
  · rw [← iI_0, iI_eq hz q0] at h
    exact h
theorem r_icmp_eq (C : CC X G tc l cc own Ts nL R) {a b off : Int} {tgt : Nat} (ha : inR a) (hb : inR b) (hdg : decode cc pc = .ok (.if_icmp .eq off, 3)) (ht : (pc : Int) + off = (tgt : Int)) (kt : a = b → VV X ad N f k n tgt lv st) (kf : ¬ a = b → VV X ad N f k n (pc + 3) lv st) : VV X ad N f k n pc lv (.int (iI b) :: .int (iI a) :: st) := by
  intro H locs ls hP hD hS hl
  refine lv_icmp_eq C.2.1.1 C.2.1.2.1 hdg ht (fun h => kt ?_ H locs ls hP hD hS hl) (fun h => kf ?_ H locs ls hP hD hS hl)
  · rw [iI_eq ha hb] at h
    exact h
  · rw [iI_eq ha hb] at h
    exact h
theorem r_if_ne (C : CC X G tc l cc own Ts nL R) {z off : Int} {tgt : Nat} (hz : inR z) (hdg : decode cc pc = .ok (.ifCond .ne off, 3)) (ht : (pc : Int) + off = (tgt : Int)) (kt : ¬ z = 0 → VV X ad N f k n tgt lv st) (kf : z = 0 → VV X ad N f k n (pc + 3) lv st) : VV X ad N f k n pc lv (.int (iI z) :: st) := by
  intro H locs ls hP hD hS hl
  have q0 : inR 0 := ⟨by decide, by decide⟩
  refine lv_if_ne C.2.1.1 C.2.1.2.1 hdg ht (fun h => kt ?_ H locs ls hP hD hS hl) (fun h => kf ?_ H locs ls hP hD hS hl)
  · rw [← iI_0, iI_eq hz q0] at h
    exact h
  · rw [← iI_0, iI_eq hz q0] at h
    exact h
theorem r_icmp_ne (C : CC X G tc l cc own Ts nL R) {a b off : Int} {tgt : Nat} (ha : inR a) (hb : inR b) (hdg : decode cc pc = .ok (.if_icmp .ne off, 3)) (ht : (pc : Int) + off = (tgt : Int)) (kt : ¬ a = b → VV X ad N f k n tgt lv st) (kf : a = b → VV X ad N f k n (pc + 3) lv st) : VV X ad N f k n pc lv (.int (iI b) :: .int (iI a) :: st) := by
  intro H locs ls hP hD hS hl
  refine lv_icmp_ne C.2.1.1 C.2.1.2.1 hdg ht (fun h => kt ?_ H locs ls hP hD hS hl) (fun h => kf ?_ H locs ls hP hD hS hl)
  · rw [iI_eq ha hb] at h
    exact h
  · rw [iI_eq ha hb] at h
    exact h
theorem r_if_lt (C : CC X G tc l cc own Ts nL R) {z off : Int} {tgt : Nat} (hz : inR z) (hdg : decode cc pc = .ok (.ifCond .lt off, 3)) (ht : (pc : Int) + off = (tgt : Int)) (kt : z < 0 → VV X ad N f k n tgt lv st) (kf : ¬ z < 0 → VV X ad N f k n (pc + 3) lv st) : VV X ad N f k n pc lv (.int (iI z) :: st) := by
  intro H locs ls hP hD hS hl
  have q0 : inR 0 := ⟨by decide, by decide⟩
  refine lv_if_lt C.2.1.1 C.2.1.2.1 hdg ht (fun h => kt ?_ H locs ls hP hD hS hl) (fun h => kf ?_ H locs ls hP hD hS hl)
  · rw [← iI_0, iI_lt hz q0] at h
    exact h
  · rw [← iI_0, iI_lt hz q0] at h
    exact h
theorem r_icmp_lt (C : CC X G tc l cc own Ts nL R) {a b off : Int} {tgt : Nat} (ha : inR a) (hb : inR b) (hdg : decode cc pc = .ok (.if_icmp .lt off, 3)) (ht : (pc : Int) + off = (tgt : Int)) (kt : a < b → VV X ad N f k n tgt lv st) (kf : ¬ a < b → VV X ad N f k n (pc + 3) lv st) : VV X ad N f k n pc lv (.int (iI b) :: .int (iI a) :: st) := by
  intro H locs ls hP hD hS hl
  refine lv_icmp_lt C.2.1.1 C.2.1.2.1 hdg ht (fun h => kt ?_ H locs ls hP hD hS hl) (fun h => kf ?_ H locs ls hP hD hS hl)
  · rw [iI_lt ha hb] at h
    exact h
  · rw [iI_lt ha hb] at h
    exact h
theorem r_if_ge (C : CC X G tc l cc own Ts nL R) {z off : Int} {tgt : Nat} (hz : inR z) (hdg : decode cc pc = .ok (.ifCond .ge off, 3)) (ht : (pc : Int) + off = (tgt : Int)) (kt : 0 ≤ z → VV X ad N f k n tgt lv st) (kf : ¬ 0 ≤ z → VV X ad N f k n (pc + 3) lv st) : VV X ad N f k n pc lv (.int (iI z) :: st) := by
  intro H locs ls hP hD hS hl
  have q0 : inR 0 := ⟨by decide, by decide⟩
  refine lv_if_ge C.2.1.1 C.2.1.2.1 hdg ht (fun h => kt ?_ H locs ls hP hD hS hl) (fun h => kf ?_ H locs ls hP hD hS hl)
  · rw [← iI_0, iI_le q0 hz] at h
    exact h
  · rw [← iI_0, iI_le q0 hz] at h
    exact h
theorem r_icmp_ge (C : CC X G tc l cc own Ts nL R) {a b off : Int} {tgt : Nat} (ha : inR a) (hb : inR b) (hdg : decode cc pc = .ok (.if_icmp .ge off, 3)) (ht : (pc : Int) + off = (tgt : Int)) (kt : b ≤ a → VV X ad N f k n tgt lv st) (kf : ¬ b ≤ a → VV X ad N f k n (pc + 3) lv st) : VV X ad N f k n pc lv (.int (iI b) :: .int (iI a) :: st) := by
  intro H locs ls hP hD hS hl
  refine lv_icmp_ge C.2.1.1 C.2.1.2.1 hdg ht (fun h => kt ?_ H locs ls hP hD hS hl) (fun h => kf ?_ H locs ls hP hD hS hl)
  · rw [iI_le hb ha] at h
    exact h
  · rw [iI_le hb ha] at h
    exact h
theorem r_if_gt (C : CC X G tc l cc own Ts nL R) {z off : Int} {tgt : Nat} (hz : inR z) (hdg : decode cc pc = .ok (.ifCond .gt off, 3)) (ht : (pc : Int) + off = (tgt : Int)) (kt : 0 < z → VV X ad N f k n tgt lv st) (kf : ¬ 0 < z → VV X ad N f k n (pc + 3) lv st) : VV X ad N f k n pc lv (.int (iI z) :: st) := by
  intro H locs ls hP hD hS hl
  have q0 : inR 0 := ⟨by decide, by decide⟩
  refine lv_if_gt C.2.1.1 C.2.1.2.1 hdg ht (fun h => kt ?_ H locs ls hP hD hS hl) (fun h => kf ?_ H locs ls hP hD hS hl)
  · rw [← iI_0, iI_lt q0 hz] at h
    exact h
  · rw [← iI_0, iI_lt q0 hz] at h
    exact h
theorem r_icmp_gt (C : CC X G tc l cc own Ts nL R) {a b off : Int} {tgt : Nat} (ha : inR a) (hb : inR b) (hdg : decode cc pc = .ok (.if_icmp .gt off, 3)) (ht : (pc : Int) + off = (tgt : Int)) (kt : b < a → VV X ad N f k n tgt lv st) (kf : ¬ b < a → VV X ad N f k n (pc + 3) lv st) : VV X ad N f k n pc lv (.int (iI b) :: .int (iI a) :: st) := by
  intro H locs ls hP hD hS hl
  refine lv_icmp_gt C.2.1.1 C.2.1.2.1 hdg ht (fun h => kt ?_ H locs ls hP hD hS hl) (fun h => kf ?_ H locs ls hP hD hS hl)
  · rw [iI_lt hb ha] at h
    exact h
  · rw [iI_lt hb ha] at h
    exact h
theorem r_if_le (C : CC X G tc l cc own Ts nL R) {z off : Int} {tgt : Nat} (hz : inR z) (hdg : decode cc pc = .ok (.ifCond .le off, 3)) (ht : (pc : Int) + off = (tgt : Int)) (kt : z ≤ 0 → VV X ad N f k n tgt lv st) (kf : ¬ z ≤ 0 → VV X ad N f k n (pc + 3) lv st) : VV X ad N f k n pc lv (.int (iI z) :: st) := by
  intro H locs ls hP hD hS hl
  have q0 : inR 0 := ⟨by decide, by decide⟩
  refine lv_if_le C.2.1.1 C.2.1.2.1 hdg ht (fun h => kt ?_ H locs ls hP hD hS hl) (fun h => kf ?_ H locs ls hP hD hS hl)
  · rw [← iI_0, iI_le hz q0] at h
    exact h
  · rw [← iI_0, iI_le hz q0] at h
    exact h
theorem r_icmp_le (C : CC X G tc l cc own Ts nL R) {a b off : Int} {tgt : Nat} (ha : inR a) (hb : inR b) (hdg : decode cc pc = .ok (.if_icmp .le off, 3)) (ht : (pc : Int) + off = (tgt : Int)) (kt : a ≤ b → VV X ad N f k n tgt lv st) (kf : ¬ a ≤ b → VV X ad N f k n (pc + 3) lv st) : VV X ad N f k n pc lv (.int (iI b) :: .int (iI a) :: st) := by
  intro H locs ls hP hD hS hl
  refine lv_icmp_le C.2.1.1 C.2.1.2.1 hdg ht (fun h => kt ?_ H locs ls hP hD hS hl) (fun h => kf ?_ H locs ls hP hD hS hl)
  · rw [iI_le ha hb] at h
    exact h
  · rw [iI_le ha hb] at h
    exact h
theorem r_tin (C : CC X G tc l cc own Ts nL R) {dflt lo hi off z : Int} {offs : Array Int} {len tgt : Nat} (hz : inR z) (hdg : decode cc pc = .ok (.tableswitch dflt lo hi offs, len)) (h1 : ¬ z < lo) (h2 : ¬ hi < z) (ho : offs[(z - lo).toNat]? = some off) (ht : (pc : Int) + off = (tgt : Int)) (kk : VV X ad N f k n tgt lv st) : VV X ad N f k n pc lv (.int (iI z) :: st) :=
  fun H locs ls hP hD hS hl => lv_tableIn C.2.1.1 C.2.1.2.1 hdg (by rw [iI_toInt hz]; exact h1) (by rw [iI_toInt hz]; exact h2) (by rw [iI_toInt hz]; exact ho) ht (kk H locs ls hP hD hS hl)
theorem r_tout (C : CC X G tc l cc own Ts nL R) {dflt lo hi z : Int} {offs : Array Int} {len tgt : Nat} (hz : inR z) (hdg : decode cc pc = .ok (.tableswitch dflt lo hi offs, len)) (h : z < lo ∨ hi < z) (ht : (pc : Int) + dflt = (tgt : Int)) (kk : VV X ad N f k n tgt lv st) : VV X ad N f k n pc lv (.int (iI z) :: st) :=
  fun H locs ls hP hD hS hl => lv_tableOut C.2.1.1 C.2.1.2.1 hdg (by rw [iI_toInt hz]; exact h) ht (kk H locs ls hP hD hS hl)
/-- another world that no one can tell apart -/
theorem r_conv {f' : Nat → va_E} (h : ∀ i, i < N → ceq (f i) (f' i)) (kk : VV X ad N f' k n pc lv st) : VV X ad N f k n pc lv st := by
  intro H locs ls hP hD hS hl
  refine kk H locs ls ?_ ?_ hS hl
  · intro j q hq
    obtain ⟨hj, rfl⟩ := hw_some hq
    exact (h j hj).at (hP j (ad j, f j) (hw_get hj))
  · refine ⟨fun i j x y hi hj hxy => ?_, fun j q hq => ?_⟩
    · obtain ⟨h1, rfl⟩ := hw_some hi
      obtain ⟨h2, rfl⟩ := hw_some hj
      exact hD.1 i j _ _ (hw_get h1) (hw_get h2) hxy
    · obtain ⟨h1, rfl⟩ := hw_some hq
      exact hD.2 j (ad j, f j) (hw_get h1)
theorem r_wide {k' n' : Nat} (h1 : k ≤ k') (h2 : n ≤ n') (kk : VV X ad N f k' n' pc lv st) : VV X ad N f k n pc lv st :=
  fun H locs ls hP hD hS hl => W.widen h1 h2 (kk H locs ls hP hD hS hl)
theorem r_get (C : CC X G tc l cc own Ts nL R) {i ci index nf : Nat} {fs : List Value} {Cn ref : String} {T : u_T} {v : Value} (hi : i < N) (hf : f i = eO ci fs) (hc : vwCl[ci]? = some (Cn, T, nf)) (hin : ∀ w ∈ u_ws Cn T nf, w ∈ Ts) (j : Nat) (hj : j < nf) (hlink : (Cond.fieldLink own index ref (T j).2.1 (T j).2.2.1) ∈ Ts) (hr : (T j).1 = ref) (hv : fs[j]? = some v) (hdg : decode cc pc = .ok (.getfield index, 3)) (kk : VV X ad N f k n (pc + 3) lv (v :: st)) : VV X ad N f k n pc lv (.ref (ad i) :: st) := by
  intro H locs ls hP hD hS hl
  exact va_get C.2.1.1 C.2.1.2.1 C.2.1.2.2.2.2 hin C.2.1.2.2.2.1 C.2.2.1 hP i (by rw [hw_get hi, hf]) hc j hj (C.2.1.2.2.2.2 _ hlink) (fun x h => by rw [← hr]; exact h) hv hdg (kk H locs ls hP hD hS hl)
theorem r_put (C : CC X G tc l cc own Ts nL R) {i ci index nf : Nat} {fs : List Value} {Cn ref : String} {T : u_T} {v : Value} {ty : FieldType} {ty0 : Nat → FieldType} (hi : i < N) (hf : f i = eO ci fs) (hc : vwCl[ci]? = some (Cn, T, nf)) (hin : ∀ w ∈ u_ws Cn T nf, w ∈ Ts) (hty : ∀ k, k < nf → parseFieldDescriptor (T k).2.2.1 = some (ty0 k)) (hnm : ∀ a, a < nf → ∀ b, b < nf → a ≠ b → (T a).2.1 ≠ (T b).2.1) (j : Nat) (hj : j < nf) (hlink : (Cond.fieldLink own index ref (T j).2.1 (T j).2.2.1) ∈ Ts) (hr : (T j).1 = ref) (hfin : (T j).2.2.2 = false) (hd : parseFieldDescriptor (T j).2.2.1 = some ty) (hn : narrow ty v = v) (hfit : fits ty v = true) (hl' : j < fs.length) (hdg : decode cc pc = .ok (.putfield index, 3)) (kk : ∀ f', f' i = eO ci (fs.set j v) → (∀ q, q ≠ i → f' q = f q) → VV X ad N f' k n (pc + 3) lv st) : VV X ad N f k n pc lv (v :: .ref (ad i) :: st) := by
  intro H locs ls hP hD hS hl
  refine va_put C.2.1.1 C.2.1.2.1 C.2.1.2.2.2.2 hin ty0 hty hnm C.2.1.2.2.2.1 C.2.2.1 hP hD hS i (by rw [hw_get hi, hf]) hc j hj (C.2.1.2.2.2.2 _ hlink) (fun x h => by rw [← hr]; exact h) hfin hd hn hfit hl' hdg (fun H1 locs1 hP hD hS => ?_)
  rw [hw_set hi] at hP hD
  exact kk _ (by simp [va_up]) (fun q hq => by simp [va_up, hq]) H1 locs1 ls hP hD hS hl
theorem r_putF (C : CC X G tc l cc own Ts nL R) {i ci index nf : Nat} {fs : List Value} {Cn ref : String} {T : u_T} {v : Value} {ty : FieldType} {ty0 : Nat → FieldType} (hi : i < N) (hf : f i = eO ci fs) (hc : vwCl[ci]? = some (Cn, T, nf)) (hin : ∀ w ∈ u_ws Cn T nf, w ∈ Ts) (hty : ∀ k, k < nf → parseFieldDescriptor (T k).2.2.1 = some (ty0 k)) (hnm : ∀ a, a < nf → ∀ b, b < nf → a ≠ b → (T a).2.1 ≠ (T b).2.1) (j : Nat) (hj : j < nf) (hlink : (Cond.fieldLink own index ref (T j).2.1 (T j).2.2.1) ∈ Ts) (hr : (T j).1 = ref) (hfin : (T j).2.2.2 = true) (hin2 : X.2.2.1.2.1.name = "<init>") (hdecl : (T j).1 = own) (hd : parseFieldDescriptor (T j).2.2.1 = some ty) (hn : narrow ty v = v) (hfit : fits ty v = true) (hl' : j < fs.length) (hdg : decode cc pc = .ok (.putfield index, 3)) (kk : ∀ f', f' i = eO ci (fs.set j v) → (∀ q, q ≠ i → f' q = f q) → VV X ad N f' k n (pc + 3) lv st) : VV X ad N f k n pc lv (v :: .ref (ad i) :: st) := by
  intro H locs ls hP hD hS hl
  refine va_putF C.2.1.1 C.2.1.2.1 C.2.1.2.2.2.2 hin ty0 hty hnm C.2.1.2.2.2.1 C.2.2.1 hP hD hS i (by rw [hw_get hi, hf]) hc j hj (C.2.1.2.2.2.2 _ hlink) (fun x h => by rw [← hr]; exact h) hfin hin2 hdecl hd hn hfit hl' hdg (fun H1 locs1 hP hD hS => ?_)
  rw [hw_set hi] at hP hD
  exact kk _ (by simp [va_up]) (fun q hq => by simp [va_up, hq]) H1 locs1 ls hP hD hS hl
theorem r_iald (C : CC X G tc l cc own Ts nL R) {i len : Nat} {g : Nat → Int32} {z : Int} (hi : i < N) (hf : f i = eI tc len g) (j : Nat) (hz : z = (j : Int)) (hj : j < len) (hlen : len ≤ 2147483647) {x : Int32} (hx : g j = x) (hdg : decode cc pc = .ok (.iaload, 1)) (kk : VV X ad N f k n (pc + 1) lv (.int x :: st)) : VV X ad N f k n pc lv (.int (iI z) :: .ref (ad i) :: st) := by
  intro H locs ls hP hD hS hl
  have hK := C.2.2.1
  obtain ⟨⟨-, rfl, -⟩, C1, -⟩ := C
  refine va_iald C1.1 C1.2.1 hK hP i 0 (by rw [hw_get hi, hf]) rfl (iI_vin hz hj hlen) hdg ?_
  rw [iI_ix hz (by omega), hx]
  exact kk H locs ls hP hD hS hl
theorem r_iast (C : CC X G tc l cc own Ts nL R) {i len : Nat} {g : Nat → Int32} {x : Int32} {z : Int} (hi : i < N) (hf : f i = eI tc len g) (j : Nat) (hz : z = (j : Int)) (hj : j < len) (hlen : len ≤ 2147483647) (hdg : decode cc pc = .ok (.iastore, 1)) (kk : ∀ f', f' i = eI tc len (upd g j x) → (∀ q, q ≠ i → f' q = f q) → VV X ad N f' k n (pc + 1) lv st) : VV X ad N f k n pc lv (.int x :: .int (iI z) :: .ref (ad i) :: st) := by
  intro H locs ls hP hD hS hl
  have hK := C.2.2.1
  obtain ⟨⟨-, rfl, -⟩, C1, -⟩ := C
  refine va_iast C1.1 C1.2.1 hK hP hD hS i 0 (by rw [hw_get hi, hf]) rfl (iI_vin hz hj hlen) hdg (fun H1 locs1 hP hD hS => ?_)
  rw [iI_ix hz (by omega), hw_set hi] at hP hD
  exact kk _ (by simp [va_up]) (fun q hq => by simp [va_up, hq]) H1 locs1 ls hP hD hS hl
theorem r_zald (C : CC X G tc l cc own Ts nL R) {i len : Nat} {g : Nat → Int32} {z : Int} (hi : i < N) (hf : f i = eB tc len g) (j : Nat) (hz : z = (j : Int)) (hj : j < len) (hlen : len ≤ 2147483647) {x : Int32} (hx : g j = x) (hdg : decode cc pc = .ok (.baload, 1)) (kk : VV X ad N f k n (pc + 1) lv (.int x :: st)) : VV X ad N f k n pc lv (.int (iI z) :: .ref (ad i) :: st) := by
  intro H locs ls hP hD hS hl
  have hK := C.2.2.1
  obtain ⟨⟨-, rfl, -⟩, C1, -⟩ := C
  refine va_zald C1.1 C1.2.1 hK hP i 1 (by rw [hw_get hi, hf]) rfl (iI_vin hz hj hlen) hdg ?_
  rw [iI_ix hz (by omega), hx]
  exact kk H locs ls hP hD hS hl
theorem r_zast (C : CC X G tc l cc own Ts nL R) {i len : Nat} {g : Nat → Int32} {x : Int32} {z : Int} (hi : i < N) (hf : f i = eB tc len g) (j : Nat) (hz : z = (j : Int)) (hj : j < len) (hlen : len ≤ 2147483647) (hx : vp_nar .boolean x = x) (hdg : decode cc pc = .ok (.bastore, 1)) (kk : ∀ f', f' i = eB tc len (upd g j x) → (∀ q, q ≠ i → f' q = f q) → VV X ad N f' k n (pc + 1) lv st) : VV X ad N f k n pc lv (.int x :: .int (iI z) :: .ref (ad i) :: st) := by
  intro H locs ls hP hD hS hl
  have hK := C.2.2.1
  obtain ⟨⟨-, rfl, -⟩, C1, -⟩ := C
  refine va_zast C1.1 C1.2.1 hK hP hD hS i 1 (by rw [hw_get hi, hf]) rfl (iI_vin hz hj hlen) hdg (fun H1 locs1 hP hD hS => ?_)
  rw [iI_ix hz (by omega), hx, hw_set hi] at hP hD
  exact kk _ (by simp [va_up]) (fun q hq => by simp [va_up, hq]) H1 locs1 ls hP hD hS hl
theorem r_aaldS (C : CC X G tc l cc own Ts nL R) {i len a : Nat} {g : Nat → Option Nat} {z : Int} (hi : i < N) (hf : f i = eS tc len g) (j : Nat) (hz : z = (j : Int)) (hj : j < len) (hlen : len ≤ 2147483647) (hg : g j = some a) (hdg : decode cc pc = .ok (.aaload, 1)) (kk : VV X ad N f k n (pc + 1) lv (.ref a :: st)) : VV X ad N f k n pc lv (.int (iI z) :: .ref (ad i) :: st) := by
  intro H locs ls hP hD hS hl
  have hK := C.2.2.1
  obtain ⟨⟨-, rfl, -⟩, C1, -⟩ := C
  refine va_aldq C1.1 C1.2.1 hK hP i 2 (by rw [hw_get hi, hf]) rfl (iI_vin hz hj hlen) hdg ?_
  rw [iI_ix hz (by omega), hg]
  exact kk H locs ls hP hD hS hl
theorem r_aaldW (C : CC X G tc l cc own Ts nL R) {i len a : Nat} {g : Nat → Option Nat} {z : Int} (hi : i < N) (hf : f i = eW tc len g) (j : Nat) (hz : z = (j : Int)) (hj : j < len) (hlen : len ≤ 2147483647) (hg : g j = some a) (hdg : decode cc pc = .ok (.aaload, 1)) (kk : VV X ad N f k n (pc + 1) lv (.ref a :: st)) : VV X ad N f k n pc lv (.int (iI z) :: .ref (ad i) :: st) := by
  intro H locs ls hP hD hS hl
  have hK := C.2.2.1
  obtain ⟨⟨-, rfl, -⟩, C1, -⟩ := C
  refine va_aldq C1.1 C1.2.1 hK hP i 3 (by rw [hw_get hi, hf]) rfl (iI_vin hz hj hlen) hdg ?_
  rw [iI_ix hz (by omega), hg]
  exact kk H locs ls hP hD hS hl
theorem r_aastS (C : CC X G tc l cc own Ts nL R) {i q len : Nat} {fs : List Value} {g : Nat → Option Nat} {z : Int} (hi : i < N) (hf : f i = eS tc len g) (hq : q < N) (hfq : f q = eO 1 fs) (j : Nat) (hz : z = (j : Int)) (hj : j < len) (hlen : len ≤ 2147483647) (hdg : decode cc pc = .ok (.aastore, 1)) (kk : ∀ f', f' i = eS tc len (va_up g j (some (ad q))) → (∀ x, x ≠ i → f' x = f x) → VV X ad N f' k n (pc + 1) lv st) : VV X ad N f k n pc lv (.ref (ad q) :: .int (iI z) :: .ref (ad i) :: st) := by
  intro H locs ls hP hD hS hl
  have hK := C.2.2.1
  obtain ⟨⟨-, rfl, -⟩, C1, -⟩ := C
  refine va_astq C1.1 C1.2.1 hK hP hD hS i 2 q 1 (r := (RX1, TX1, 4)) (by rw [hw_get hi, hf]) rfl (by rw [hw_get hq, hfq]) rfl (iI_vin hz hj hlen) hdg (fun H1 locs1 hP hD hS => ?_)
  rw [iI_ix hz (by omega), hw_set hi] at hP hD
  exact kk _ (by simp [va_up]) (fun x hx => by simp [va_up, hx]) H1 locs1 ls hP hD hS hl
theorem r_aastW (C : CC X G tc l cc own Ts nL R) {i q len : Nat} {fs : List Value} {g : Nat → Option Nat} {z : Int} (hi : i < N) (hf : f i = eW tc len g) (hq : q < N) (hfq : f q = eO 2 fs) (j : Nat) (hz : z = (j : Int)) (hj : j < len) (hlen : len ≤ 2147483647) (hdg : decode cc pc = .ok (.aastore, 1)) (kk : ∀ f', f' i = eW tc len (va_up g j (some (ad q))) → (∀ x, x ≠ i → f' x = f x) → VV X ad N f' k n (pc + 1) lv st) : VV X ad N f k n pc lv (.ref (ad q) :: .int (iI z) :: .ref (ad i) :: st) := by
  intro H locs ls hP hD hS hl
  have hK := C.2.2.1
  obtain ⟨⟨-, rfl, -⟩, C1, -⟩ := C
  refine va_astq C1.1 C1.2.1 hK hP hD hS i 3 q 2 (r := (RX2, TX2, 4)) (by rw [hw_get hi, hf]) rfl (by rw [hw_get hq, hfq]) rfl (iI_vin hz hj hlen) hdg (fun H1 locs1 hP hD hS => ?_)
  rw [iI_ix hz (by omega), hw_set hi] at hP hD
  exact kk _ (by simp [va_up]) (fun x hx => by simp [va_up, hx]) H1 locs1 ls hP hD hS hl
end LYR2
section LYR3
theorem st_T.go {nm : String} {g : Nat → Int} {A B : Nat → Prop} {s U : State} {H : Heap} {locs : List Loc} (h : st_T nm g A s s.heap) (hS : va_S A s.heap H locs) (hAB : ∀ q, B q → A q) (hW : s.vm.Alike U.vm) : st_T nm g B U H := by
  obtain ⟨t, h1, h2, h3, h4⟩ := h
  exact ⟨t, ((h1.moved hW).kept hS.2.1).narrow hAB, ((va_T.moved hW h2).kept hS.2.1).narrow hAB, Nat.lt_of_lt_of_le h3 hS.1, fun z => h4 (hAB t z)⟩
theorem SS.go {A B : Nat → Prop} {s U : State} {H : Heap} {locs : List Loc} (h : SS A s s.heap) (hS : va_S A s.heap H locs) (hAB : ∀ q, B q → A q) (hW : s.WarmedH U.vm) : SS B U H :=
  ⟨⟨h.1.1.go hS hAB hW.alike, h.1.2.1.go hS hAB hW.alike, h.1.2.2.go hS hAB hW.alike⟩, h.2.1.warmM hW, h.2.2.1.warmM hW, h.2.2.2.1.warmF hW, va_AO.moved hW.alike h.2.2.2.2.1, va_AO.moved hW.alike h.2.2.2.2.2⟩
theorem st_T.same {nm : String} {g : Nat → Int} {A : Nat → Prop} {u U : State} {H : Heap} (hvm : u.vm.Alike U.vm) (h : st_T nm g A u H) : st_T nm g A U H := by
  obtain ⟨t, h1, h2, h3, h4⟩ := h
  exact ⟨t, h1.moved hvm, va_T.moved hvm h2, h3, h4⟩
theorem SS.same {A : Nat → Prop} {u U : State} {H : Heap} (hvm : u.vm = U.vm) (h : SS A u H) : SS A U H := by
  have ha : u.vm.Alike U.vm := by rw [← hvm]; exact Vm.Alike.refl u.vm
  exact ⟨⟨h.1.1.same ha, h.1.2.1.same ha, h.1.2.2.same ha⟩, va_Nw.same rfl hvm h.2.1, va_Nw.same rfl hvm h.2.2.1, va_Nw.same rfl hvm h.2.2.2.1, va_AO.moved ha h.2.2.2.2.1, va_AO.moved ha h.2.2.2.2.2⟩
/-- a method's start: the world f, and nothing asked of the heap beside it but the class's own tables -/
def PreB (G : va_G) (tc : Nat → ClassId) (ad : Nat → Nat) (N : Nat) (f : Nat → va_E) (sz : Nat) : State → Prop := fun U =>
  U.heap.size = sz ∧ va_P G vwCl (hw ad f N) U.heap ∧ va_K G vwCl (tyL tc) U ∧ va_D (fun _ => True) (hw ad f N) ∧ SS (va_A (hw ad f N) sz) U U.heap
def Qo (G : va_G) (post : Option Value → (Nat → Nat) → Nat → (Nat → va_E) → Prop) (A : Nat → Prop) : Array Value → State → Outcome → State → Prop := fun _ st oc t =>
  (∃ (v : Option Value) (ad' : Nat → Nat) (N' : Nat) (f' : Nat → va_E), oc = .returned v ∧ post v ad' N' f' ∧ va_P G vwCl (hw ad' f' N') t.heap ∧ va_D A (hw ad' f' N')) ∧ va_F A st t
/-- the contract of a method at these arguments and this world -/
def Ct (G : va_G) (tc : Nat → ClassId) (l : Launch) (y : MethodName) (ws : List Cond) (rm : Room) (mc ms : Nat) (av : List Value) (ad : Nat → Nat) (N : Nat) (f : Nat → va_E) (post : Option Value → (Nat → Nat) → Nat → (Nat → va_E) → Prop) : Prop :=
  ∀ sz : Nat, Met l y ws rm (va_Pc av (PreB G tc ad N f sz)) (Qo G post (va_A (hw ad f N) sz)) mc ms (va_A (hw ad f N) sz)
theorem pre_blind {G : va_G} {tc : Nat → ClassId} {ad : Nat → Nat} {N : Nat} {f : Nat → va_E} {sz : Nat} {av : List Value} : FrameBlind (va_Pc av (PreB G tc ad N f sz)) :=
  fun a U g mk q => ⟨q.1, q.2.1, q.2.2.1, va_K.moved (u := U) (U := U.calling g mk a) (Vm.Alike.refl U.vm) q.2.2.2.1, q.2.2.2.2.1, SS.same (u := U) (U := U.calling g mk a) rfl q.2.2.2.2.2⟩
variable {X : XT} {G : va_G} {tc : Nat → ClassId} {l : Launch} {cc : ByteArray} {own : String} {Ts : List Cond} {nL : Nat} {R : Room} {ad : Nat → Nat} {N : Nat} {f : Nat → va_E} {k n pc : Nat} {lv lv' : List (Nat × Value)} {st rest : List Value}
theorem cc_free (C : CC X G tc l cc own Ts nL R) {H : Heap} {locs : List Loc} (hD : va_D X.2.2.2.1 (hw ad f N)) (hS : va_S X.2.2.2.1 X.2.1.2.2.2.1.heap H locs) : ∀ q, va_A (hw ad f N) H.size q → X.2.2.2.1 q := by
  intro q h
  rcases h with ⟨j, e, h⟩ | h
  · exact hD.2 j _ h
  · exact C.2.2.2.2.1 q (Nat.le_trans hS.1 h)
theorem cc_pre (C : CC X G tc l cc own Ts nL R) {H : Heap} {locs : List Loc} (hP : va_P X.1.1 vwCl (hw ad f N) H) (hD : va_D X.2.2.2.1 (hw ad f N)) (hS : va_S X.2.2.2.1 X.2.1.2.2.2.1.heap H locs) {U : State} (hU : U.heap = H) (hW : X.2.1.2.2.2.1.WarmedH U.vm) : PreB G tc ad N f H.size U := by
  have hF := cc_free C hD hS
  obtain ⟨⟨rfl, rfl, -⟩, C1, hK, hSS, -, -⟩ := C
  exact ⟨by rw [hU], by rw [hU]; exact hP, va_K.moved hW.alike hK, hD.weaken (fun _ _ _ _ => trivial), by rw [hU]; exact hSS.go hS hF hW⟩
theorem r_after (C : CC X G tc l cc own Ts nL R) {post : Option Value → (Nat → Nat) → Nat → (Nat → va_E) → Prop} {mc ms : Nat} {a : Array Value} {H : Heap} {locs : List Loc} {ls : Array Slot} {st0 : List Value}
    (hr : va_Run X.2.1.1 X.2.1.2.1 X.2.1.2.2.1 X.2.2.1.2.2.2.1 X.2.1.2.2.2.1 X.2.1.2.2.2.2.1 X.2.1.2.2.2.2.2 X.2.2.1.1 X.2.2.1.2.1 X.2.2.1.2.2.1 H locs k n mc ms (F0 X.2.1.2.2.2.2.1 pc ls st0) rest (Qo G post (va_A (hw ad f N) H.size) a) (va_A (hw ad f N) H.size))
    (hD : va_D X.2.2.2.1 (hw ad f N)) (hS : va_S X.2.2.2.1 X.2.1.2.2.2.1.heap H locs) (hl : lv_has ls X.2.2.1.2.2.2.2 lv)
    (kk : ∀ v ad' N' f', post v ad' N' f' → VV X ad' N' f' (k + mc) (n + ms) (pc + 3) lv (v.toList ++ rest)) :
    W X.2.1.1 X.2.1.2.1 X.2.1.2.2.1 X.2.2.1.2.2.2.1 X.2.1.2.2.2.1 X.2.1.2.2.2.2.1 X.2.1.2.2.2.2.2 X.2.2.1.1 X.2.2.1.2.1 X.2.2.1.2.2.1 H locs k n X.2.2.2.2 (F0 X.2.1.2.2.2.2.1 pc ls st0) := by
  have hF := cc_free C hD hS
  obtain ⟨⟨rfl, rfl, -⟩, C1, hK, hSS, -, -⟩ := C
  intro T hT Y
  obtain ⟨v, st₀, t, T', L, h0, X', hL, e1, e2, ⟨⟨v', ad', N', f', hv, hp, hPt, hDt⟩, hz, hk⟩, st⟩ := hr T hT Y
  cases hv
  rw [h0] at hz hk
  obtain ⟨t2, a1, b1⟩ := kk v ad' N' f' hp T'.heap (locs ++ L) ls (by rw [e1]; exact hPt) (hDt.weaken (fun _ q _ h => hF q.1 h))
    ⟨Nat.le_trans hS.1 (by rw [e1]; exact hz), fun q h1 h2 => by rw [e1, hk q (Nat.lt_of_lt_of_le h1 hS.1) (fun z => h2 (hF q z))]; exact hS.2.1 q h1 h2, fun q hq => by
      rcases List.mem_append.mp hq with h | h
      · exact hS.2.2 q h
      · exact hF _ (hL q h)⟩ hl T' rfl X'
  exact ⟨t2, st t2 a1, b1⟩
theorem r_callV (C : CC X G tc l cc own Ts nL R) {y : MethodName} {bytes : ByteArray} {maxL mc ms na index i ci nf : Nat} {ret : Option FieldType} {ws ws' : List Cond} {rm : Room} {As : List Value} {post : Option Value → (Nat → Nat) → Nat → (Nat → va_E) → Prop} {Cn : String} {T : u_T} {fs : List Value}
    (hM : Ct G tc l y ws rm mc ms (.ref (ad i) :: As) ad N f post) (hG : GoodIn Ts (wsV own index Cn y ws)) (hw' : ws = Cond.code y bytes maxL ret :: ws') (hrc : rm.cells = mc) (hrs : rm.slots = ms)
    (hd : y.cls = Cn ∧ y.cls ≠ "java/lang/invoke/MethodHandle" ∧ y.cls ≠ "java/lang/invoke/VarHandle" ∧ (parseMethodDescriptor y.desc).map (fun d => d.parameters.length) = some na) (hR : rm.frames + 1 ≤ R.frames ∧ 8 + (maxL + 11) + rm.locals ≤ R.locals)
    (hi : i < N) (hf : f i = eO ci fs) (hc : vwCl[ci]? = some (Cn, T, nf)) (hn : As.length = na) (hst : st = As.reverse ++ .ref (ad i) :: rest) (hcat : (rest.map fun v => v.category).sum ≤ 8) (hdg : decode cc pc = .ok (.invokevirtual index, 3)) (hcs : k + mc ≤ R.cells ∧ n + ms ≤ R.slots)
    (kk : ∀ v ad' N' f', post v ad' N' f' → VV X ad' N' f' (k + mc) (n + ms) (pc + 3) lv (v.toList ++ rest)) : VV X ad N f k n pc lv st := by
  intro H locs ls hP hD hS hl
  subst hst
  have hR0 := C.1.2.2.2.1
  have hM' := hM H.size
  rw [← C.1.2.2.1] at hM'
  refine r_after C (va_runV (As := As) (rest := rest) (b := ad i) C.2.1 hM' (cwV na C.2.1.2.2.2.2 hG hw' hrc hrs hd (by rw [hR0]; exact hR)) ⟨pre_blind, va_recv C.2.2.1 hP hc (by rw [hw_get hi, hf]), fun U hU hW => ⟨rfl, cc_pre C hP hD hS hU hW⟩⟩ rfl hn (hl.1.trans C.1.2.2.2.2) rfl (lv_room hcat) hdg (by rw [hR0]; exact hcs)) hD hS hl kk
theorem r_callS (C : CC X G tc l cc own Ts nL R) {y : MethodName} {bytes : ByteArray} {maxL mc ms na index : Nat} {ret : Option FieldType} {ws ws' : List Cond} {rm : Room} {As : List Value} {post : Option Value → (Nat → Nat) → Nat → (Nat → va_E) → Prop}
    (hM : Ct G tc l y ws rm mc ms As ad N f post) (hG : GoodIn Ts (va_wsS own index y ws)) (hw' : ws = Cond.code y bytes maxL ret :: ws') (hrc : rm.cells = mc) (hrs : rm.slots = ms)
    (hd : y.cls ≠ "java/lang/invoke/MethodHandle" ∧ y.cls ≠ "java/lang/invoke/VarHandle" ∧ (parseMethodDescriptor y.desc).map (fun d => d.parameters.length) = some na) (hR : rm.frames + 1 ≤ R.frames ∧ 8 + (maxL + 11) + rm.locals ≤ R.locals)
    (hn : As.length = na) (hst : st = As.reverse ++ rest) (hcat : (rest.map fun v => v.category).sum ≤ 8) (hdg : decode cc pc = .ok (.invokestatic index, 3)) (hcs : k + mc ≤ R.cells ∧ n + ms ≤ R.slots)
    (kk : ∀ v ad' N' f', post v ad' N' f' → VV X ad' N' f' (k + mc) (n + ms) (pc + 3) lv (v.toList ++ rest)) : VV X ad N f k n pc lv st := by
  intro H locs ls hP hD hS hl
  subst hst
  have hR0 := C.1.2.2.2.1
  have hM' := hM H.size
  rw [← C.1.2.2.1] at hM'
  refine r_after C (va_runS (As := As) (rest := rest) C.2.1 hM' (va_cwS na C.2.1.2.2.2.2 hG hw' hrc hrs hd (by rw [hR0]; exact hR)) ⟨pre_blind, fun U hU hW => ⟨rfl, cc_pre C hP hD hS hU hW⟩⟩ rfl hn (hl.1.trans C.1.2.2.2.2) rfl (lv_room hcat) hdg (by rw [hR0]; exact hcs)) hD hS hl kk
theorem r_callSN (C : CC X G tc l cc own Ts nL R) {y : MethodName} {host : String} {bytes : ByteArray} {maxL mc ms na index : Nat} {ret : Option FieldType} {ws ws' : List Cond} {rm : Room} {As : List Value} {post : Option Value → (Nat → Nat) → Nat → (Nat → va_E) → Prop}
    (hM : Ct G tc l y ws rm mc ms As ad N f post) (hG : GoodIn Ts ws) (hw' : ws = Cond.code y bytes maxL ret :: ws') (hrc : rm.cells = mc) (hrs : rm.slots = ms) (hNw : va_Nw (.methodLinkNest own index y host) X.2.1.2.2.2.1) (hini : Cond.initialized y.cls ∈ Ts) (hstat : Cond.static y ∈ Ts)
    (hd : y.cls ≠ "java/lang/invoke/MethodHandle" ∧ y.cls ≠ "java/lang/invoke/VarHandle" ∧ (parseMethodDescriptor y.desc).map (fun d => d.parameters.length) = some na) (hR : rm.frames + 1 ≤ R.frames ∧ 8 + (maxL + 11) + rm.locals ≤ R.locals)
    (hn : As.length = na) (hst : st = As.reverse ++ rest) (hcat : (rest.map fun v => v.category).sum ≤ 8) (hdg : decode cc pc = .ok (.invokestatic index, 3)) (hcs : k + mc ≤ R.cells ∧ n + ms ≤ R.slots)
    (kk : ∀ v ad' N' f', post v ad' N' f' → VV X ad' N' f' (k + mc) (n + ms) (pc + 3) lv (v.toList ++ rest)) : VV X ad N f k n pc lv st := by
  intro H locs ls hP hD hS hl
  subst hst
  have hR0 := C.1.2.2.2.1
  have hM' := hM H.size
  rw [← C.1.2.2.1] at hM'
  refine r_after C (va_runSN (As := As) (rest := rest) C.2.1 hM' ⟨va_cnB na C.2.1.2.2.2.2 hG hw' hrc hrs hNw (C.2.1.2.2.2.2 _ hini) hd (by rw [hR0]; exact hR), C.2.1.2.2.2.2 _ hstat, trivial⟩ ⟨pre_blind, fun U hU hW => ⟨rfl, cc_pre C hP hD hS hU hW⟩⟩ rfl hn (hl.1.trans C.1.2.2.2.2) rfl (lv_room hcat) hdg (by rw [hR0]; exact hcs)) hD hS hl kk
theorem r_callI (C : CC X G tc l cc own Ts nL R) {y : MethodName} {bytes : ByteArray} {maxL mc ms na index i : Nat} {ws ws' : List Cond} {rm : Room} {As : List Value} {post : Option Value → (Nat → Nat) → Nat → (Nat → va_E) → Prop}
    (hM : Ct G tc l y ws rm mc ms (.ref (ad i) :: As) ad N f post) (hG : GoodIn Ts ws) (hw' : ws = Cond.code y bytes maxL none :: ws') (hrc : rm.cells = mc) (hrs : rm.slots = ms) (hini : Cond.initialized y.cls ∈ Ts) (hlk : Cond.methodLink own index y ∈ Ts) (hin : Cond.instanceMethod y ∈ Ts) (hy1 : y.name = "<init>")
    (hd : y.cls ≠ "java/lang/invoke/MethodHandle" ∧ y.cls ≠ "java/lang/invoke/VarHandle" ∧ (parseMethodDescriptor y.desc).map (fun d => d.parameters.length) = some na) (hR : rm.frames + 1 ≤ R.frames ∧ 8 + (maxL + 11) + rm.locals ≤ R.locals)
    (hn : As.length = na) (hst : st = As.reverse ++ .ref (ad i) :: rest) (hcat : (rest.map fun v => v.category).sum ≤ 8) (hdg : decode cc pc = .ok (.invokespecial index, 3)) (hcs : k + mc ≤ R.cells ∧ n + ms ≤ R.slots)
    (kk : ∀ v ad' N' f', post v ad' N' f' → VV X ad' N' f' (k + mc) (n + ms) (pc + 3) lv (v.toList ++ rest)) : VV X ad N f k n pc lv st := by
  intro H locs ls hP hD hS hl
  subst hst
  have hR0 := C.1.2.2.2.1
  have hM' := hM H.size
  rw [← C.1.2.2.1] at hM'
  have hts := C.2.1.2.2.2.2
  refine r_after C (va_runI (As := As) (rest := rest) (b := ad i) C.2.1 hM' (cwI na hts hG hw' hrc hrs (hts _ hini) (hts _ hlk) (hts _ hin) hy1 hd (by rw [hR0]; exact hR)) ⟨pre_blind, fun U hU hW => ⟨rfl, cc_pre C hP hD hS hU hW⟩⟩ rfl hn (hl.1.trans C.1.2.2.2.2) rfl (lv_room hcat) hdg (by rw [hR0]; exact hcs)) hD hS hl kk
theorem r_objInit (C : CC X G tc l cc own Ts nL R) {index a : Nat} (hlk : Cond.methodLink own index objectInit ∈ Ts) (hin : Cond.instanceMethod objectInit ∈ Ts) (hcd : Cond.code objectInit ⟨#[0xb1]⟩ 1 none ∈ Ts) (hf : 1 ≤ R.frames) (hlo : (st.map fun v => v.category).sum + 12 ≤ R.locals) (hdg : decode cc pc = .ok (.invokespecial index, 3)) (kk : VV X ad N f k n (pc + 3) lv st) : VV X ad N f k n pc lv (.ref a :: st) := by
  intro H locs ls hP hD hS hl
  have hR0 := C.1.2.2.2.1
  have hts := C.2.1.2.2.2.2
  refine W.objInit C.2.1.1 C.2.1.2.1 C.2.1.2.2.2.1 (hts _ hlk) (hts _ hin) (hts _ hcd) rfl (by rw [C.2.1.2.2.1]; exact hl.1.trans C.1.2.2.2.2) rfl hdg (by rw [hR0]; exact hf) (by rw [hR0]; show 2 * 0 + _ + 12 ≤ _; omega) ?_
  exact kk H locs ls hP hD hS hl
theorem r_min (C : CC X G tc l cc own Ts nL R) {index : Nat} {a b : Int} (hw : Cond.methodLink own index Lib.Math.min.name ∈ Ts ∧ Cond.static Lib.Math.min.name ∈ Ts ∧ Cond.initialized "java/lang/Math" ∈ Ts ∧ Cond.code Lib.Math.min.name Lib.Math.min.code 2 (some .int) ∈ Ts) (hfr : 1 ≤ R.frames) (hlo : (st.map fun v => v.category).sum + 13 ≤ R.locals) (hcs : k ≤ R.cells ∧ n ≤ R.slots) (ha : inR a) (hb : inR b) (hdg : decode cc pc = .ok (.invokestatic index, 3)) (kk : VV X ad N f k n (pc + 3) lv (.int (iI (min a b)) :: st)) : VV X ad N f k n pc lv (.int (iI b) :: .int (iI a) :: st) := by
  intro H locs ls hP hD hS hl
  have hR0 := C.1.2.2.2.1
  have hts := C.2.1.2.2.2.2
  refine va_mmin C.2.1.1 C.2.1.2.1 (by rw [C.2.1.2.2.1]; exact (hl.1.trans C.1.2.2.2.2).symm) C.2.1.2.2.2.1 (hts _ hw.1) (hts _ hw.2.1) (hts _ hw.2.2.1) (hts _ hw.2.2.2) (by rw [hR0]; exact hfr) (by rw [hR0]; exact hlo) (by rw [hR0]; exact hcs.1) (by rw [hR0]; exact hcs.2) hdg ?_
  rw [show (if iI b < iI a then iI b else iI a) = iI (min a b) from by
    by_cases h : b < a
    · rw [if_pos ((iI_lt hb ha).mpr h), Int.min_eq_right (by omega)]
    · rw [if_neg (fun q => h ((iI_lt hb ha).mp q)), Int.min_eq_left (by omega)]]
  exact kk H locs ls hP hD hS hl
theorem r_max (C : CC X G tc l cc own Ts nL R) {index : Nat} {a b : Int} (hw : Cond.methodLink own index Lib.Math.max.name ∈ Ts ∧ Cond.static Lib.Math.max.name ∈ Ts ∧ Cond.initialized "java/lang/Math" ∈ Ts ∧ Cond.code Lib.Math.max.name Lib.Math.max.code 2 (some .int) ∈ Ts) (hfr : 1 ≤ R.frames) (hlo : (st.map fun v => v.category).sum + 13 ≤ R.locals) (hcs : k ≤ R.cells ∧ n ≤ R.slots) (ha : inR a) (hb : inR b) (hdg : decode cc pc = .ok (.invokestatic index, 3)) (kk : VV X ad N f k n (pc + 3) lv (.int (iI (max a b)) :: st)) : VV X ad N f k n pc lv (.int (iI b) :: .int (iI a) :: st) := by
  intro H locs ls hP hD hS hl
  have hR0 := C.1.2.2.2.1
  have hts := C.2.1.2.2.2.2
  refine va_mmax C.2.1.1 C.2.1.2.1 (by rw [C.2.1.2.2.1]; exact (hl.1.trans C.1.2.2.2.2).symm) C.2.1.2.2.2.1 (hts _ hw.1) (hts _ hw.2.1) (hts _ hw.2.2.1) (hts _ hw.2.2.2) (by rw [hR0]; exact hfr) (by rw [hR0]; exact hlo) (by rw [hR0]; exact hcs.1) (by rw [hR0]; exact hcs.2) hdg ?_
  rw [show (if iI a < iI b then iI b else iI a) = iI (max a b) from by
    by_cases h : a < b
    · rw [if_pos ((iI_lt ha hb).mpr h), Int.max_eq_right (by omega)]
    · rw [if_neg (fun q => h ((iI_lt ha hb).mp q)), Int.max_eq_left (by omega)]]
  exact kk H locs ls hP hD hS hl
theorem r_abs (C : CC X G tc l cc own Ts nL R) {index : Nat} {a : Int} (hw : Cond.methodLink own index Lib.Math.abs.name ∈ Ts ∧ Cond.static Lib.Math.abs.name ∈ Ts ∧ Cond.initialized "java/lang/Math" ∈ Ts ∧ Cond.code Lib.Math.abs.name Lib.Math.abs.code 1 (some .int) ∈ Ts) (hfr : 1 ≤ R.frames) (hlo : (st.map fun v => v.category).sum + 13 ≤ R.locals) (hcs : k ≤ R.cells ∧ n ≤ R.slots) (ha : inR a) (hdg : decode cc pc = .ok (.invokestatic index, 3)) (kk : VV X ad N f k n (pc + 3) lv (.int (iI (if 0 ≤ a then a else -a)) :: st)) : VV X ad N f k n pc lv (.int (iI a) :: st) := by
  intro H locs ls hP hD hS hl
  have hR0 := C.1.2.2.2.1
  have hts := C.2.1.2.2.2.2
  refine va_mabs C.2.1.1 C.2.1.2.1 (by rw [C.2.1.2.2.1]; exact (hl.1.trans C.1.2.2.2.2).symm) C.2.1.2.2.2.1 (hts _ hw.1) (hts _ hw.2.1) (hts _ hw.2.2.1) (hts _ hw.2.2.2) (by rw [hR0]; exact hfr) (by rw [hR0]; exact hlo) (by rw [hR0]; exact hcs.1) (by rw [hR0]; exact hcs.2) hdg ?_
  have h0 : inR 0 := ⟨by decide, by decide⟩
  rw [show (if 0 ≤ iI a then iI a else 0 - iI a) = iI (if 0 ≤ a then a else -a) from by
    by_cases h : 0 ≤ a
    · rw [if_pos h, if_pos (by rw [← iI_0, iI_le h0 ha]; exact h)]
    · rw [if_neg h, if_neg (by rw [← iI_0, iI_le h0 ha]; exact h), ← iI_0, iI_sub, Int.zero_sub]]
  exact kk H locs ls hP hD hS hl
theorem r_acp (C : CC X G tc l cc own Ts nL R) {index i i2 n0 n1 : Nat} {g g2 : Nat → Int32} {zs zd zn : Int} (hw : Cond.methodLink own index arraycopyName ∈ Ts ∧ Cond.native arraycopyName ∈ Ts ∧ Cond.static arraycopyName ∈ Ts ∧ Cond.initialized "java/lang/System" ∈ Ts) (hfr : 1 ≤ R.frames) (hlo : (st.map fun v => v.category).sum + (nativeFrameWords "java/lang/System" "arraycopy" 5 + 11) ≤ R.locals)
    (hi : i < N) (hf : f i = eI tc n0 g) (hi2 : i2 < N) (hf2 : f i2 = eI tc n1 g2) (sp dp cn : Nat) (hzs : zs = (sp : Int)) (hzd : zd = (dp : Int)) (hzn : zn = (cn : Int)) (h4 : sp + cn ≤ n0) (h5 : dp + cn ≤ n1) (h6 : n0 ≤ 2147483647) (h7 : n1 ≤ 2147483647) (hdg : decode cc pc = .ok (.invokestatic index, 3))
    (kk : ∀ f', f' i2 = eI tc n1 (va_cpy g g2 sp dp cn) → (∀ q, q ≠ i2 → f' q = f q) → VV X ad N f' k n (pc + 3) lv st) : VV X ad N f k n pc lv (.int (iI zn) :: .int (iI zd) :: .ref (ad i2) :: .int (iI zs) :: .ref (ad i) :: st) := by
  intro H locs ls hP hD hS hl
  have hR0 := C.1.2.2.2.1
  have hts := C.2.1.2.2.2.2
  have hK := C.2.2.1
  obtain ⟨⟨-, rfl, -, -, hnL⟩, C1, -⟩ := C
  have es := iI_ix hzs (by omega)
  have ed := iI_ix hzd (by omega)
  have en := iI_ix hzn (by omega)
  have nn : ∀ {z : Int} {m : Nat}, z = (m : Int) → m ≤ 2147483647 → ¬ iI z < 0 := fun {z} {m} h1 h2 => by
    rw [← iI_0, iI_lt ⟨by omega, by omega⟩ ⟨by decide, by decide⟩]
    omega
  refine va_copyi C1.1 C1.2.1 (by rw [C1.2.2.1]; exact (hl.1.trans hnL).symm) C1.2.2.2.1 (hts _ hw.1) (hts _ hw.2.1) (hts _ hw.2.2.1) (hts _ hw.2.2.2) hK hP hD hS i i2 0 0 (by rw [hw_get hi, hf]) (by rw [hw_get hi2, hf2]) rfl rfl rfl (nn hzs (by omega)) (nn hzd (by omega)) (nn hzn (by omega)) (by rw [es, en]; exact h4) (by rw [ed, en]; exact h5) (fun _ _ => rfl) (by rw [hR0]; exact hfr) (by rw [hR0]; exact hlo) hdg (fun H1 locs1 hP hD hS => ?_)
  rw [es, ed, en, hw_set hi2] at hP hD
  exact kk _ (by simp [va_up]) (fun q hq => by simp [va_up, hq]) H1 locs1 ls hP hD hS hl
end LYR3
section LYR4
variable {G : va_G} {tc : Nat → ClassId} {l : Launch} {y : MethodName} {ws ws' : List Cond} {rm : Room} {mc ms maxL : Nat} {av : List Value} {ad : Nat → Nat} {N : Nat} {f : Nat → va_E} {post : Option Value → (Nat → Nat) → Nat → (Nat → va_E) → Prop} {cc : ByteArray} {lv : List (Nat × Value)}
theorem Ct.ofI (hy : plainName y.cls = true) (hw' : ws = Cond.code y cc maxL (some .int) :: ws') (hn : (lg_sl av).length ≤ maxL) (hlv : lv_args 0 av = lv)
    (body : ∀ X : XT, CC X G tc l cc y.cls ws maxL rm → (∀ ad' N' f' (v : Int32) pc lv', decode cc pc = .ok (.ireturn, 1) → post (some (.int v)) ad' N' f' → VV X ad' N' f' mc ms pc lv' [.int v]) → VV X ad N f 0 0 0 lv []) : Ct G tc l y ws rm mc ms av ad N f post := by
  intro sz
  refine Met.ofW (cc := cc) (maxL := maxL) (ret := some .int) hy hw' ?_
  intro p e s m args below meth c s₁ B hml hv
  obtain ⟨rfl, hsz, hP, hK, hD0, hSS⟩ := hv
  have hlocks := B.notSynchronized
  subst hsz
  have hD := hD0.self (sz := s.heap.size)
  have hl := lv_entry av (n := maxL) hn
  rw [lg_entry_eq]
  rw [hlv] at hl
  refine body ((G, tc), (p, l, e, s, m, av.toArray), (below, meth, c, rm, maxL), va_A (hw ad f N) s.heap.size, _) ⟨⟨rfl, rfl, rfl, rfl, rfl⟩, ⟨B.exec, B.bytes, hml, findClass_of_methodNamed B.named, atoms_spec (ws := ws) B.pre⟩, hK, hSS, fun q h => Or.inr h, hlocks⟩ ?_ s.heap [] _ hP hD va_S.rf hl
  intro ad' N' f' v pc lv' hd hp H locs ls hP hD hS hl
  exact W.iret B.exec B.bytes B.returns (fun t ht hW => ⟨⟨_, ad', N', f', rfl, hp, by rw [ht]; exact hP, hD⟩, hS.F ht⟩) hS.2.2 hd
theorem Ct.ofZ (hy : plainName y.cls = true) (hw' : ws = Cond.code y cc maxL (some .boolean) :: ws') (hn : (lg_sl av).length ≤ maxL) (hlv : lv_args 0 av = lv)
    (body : ∀ X : XT, CC X G tc l cc y.cls ws maxL rm → (∀ ad' N' f' (v : Int32) pc lv', decode cc pc = .ok (.ireturn, 1) → narrow .boolean (.int v) = .int v → post (some (.int v)) ad' N' f' → VV X ad' N' f' mc ms pc lv' [.int v]) → VV X ad N f 0 0 0 lv []) : Ct G tc l y ws rm mc ms av ad N f post := by
  intro sz
  refine Met.ofW (cc := cc) (maxL := maxL) (ret := some .boolean) hy hw' ?_
  intro p e s m args below meth c s₁ B hml hv
  obtain ⟨rfl, hsz, hP, hK, hD0, hSS⟩ := hv
  have hlocks := B.notSynchronized
  subst hsz
  have hD := hD0.self (sz := s.heap.size)
  have hl := lv_entry av (n := maxL) hn
  rw [lg_entry_eq]
  rw [hlv] at hl
  refine body ((G, tc), (p, l, e, s, m, av.toArray), (below, meth, c, rm, maxL), va_A (hw ad f N) s.heap.size, _) ⟨⟨rfl, rfl, rfl, rfl, rfl⟩, ⟨B.exec, B.bytes, hml, findClass_of_methodNamed B.named, atoms_spec (ws := ws) B.pre⟩, hK, hSS, fun q h => Or.inr h, hlocks⟩ ?_ s.heap [] _ hP hD va_S.rf hl
  intro ad' N' f' v pc lv' hd hnv hp H locs ls hP hD hS hl
  exact W.zret B.exec B.bytes B.returns hnv (fun t ht hW => ⟨⟨_, ad', N', f', rfl, hp, by rw [ht]; exact hP, hD⟩, hS.F ht⟩) hS.2.2 hd
theorem Ct.ofV (hy : plainName y.cls = true) (hw' : ws = Cond.code y cc maxL none :: ws') (hn : (lg_sl av).length ≤ maxL) (hlv : lv_args 0 av = lv)
    (body : ∀ X : XT, CC X G tc l cc y.cls ws maxL rm → X.2.2.1.2.1.name = y.name → (∀ ad' N' f' pc lv', decode cc pc = .ok (.return_, 1) → post none ad' N' f' → VV X ad' N' f' mc ms pc lv' []) → VV X ad N f 0 0 0 lv []) : Ct G tc l y ws rm mc ms av ad N f post := by
  intro sz
  refine Met.ofW (cc := cc) (maxL := maxL) (ret := none) hy hw' ?_
  intro p e s m args below meth c s₁ B hml hv
  obtain ⟨rfl, hsz, hP, hK, hD0, hSS⟩ := hv
  have hlocks := B.notSynchronized
  subst hsz
  have hD := hD0.self (sz := s.heap.size)
  have hl := lv_entry av (n := maxL) hn
  rw [lg_entry_eq]
  rw [hlv] at hl
  refine body ((G, tc), (p, l, e, s, m, av.toArray), (below, meth, c, rm, maxL), va_A (hw ad f N) s.heap.size, _) ⟨⟨rfl, rfl, rfl, rfl, rfl⟩, ⟨B.exec, B.bytes, hml, findClass_of_methodNamed B.named, atoms_spec (ws := ws) B.pre⟩, hK, hSS, fun q h => Or.inr h, hlocks⟩ (name_of_methodNamed B.named B.method).1 ?_ s.heap [] _ hP hD va_S.rf hl
  intro ad' N' f' pc lv' hd hp H locs ls hP hD hS hl
  exact W.vret B.exec B.bytes B.returns (fun t ht hW => ⟨⟨_, ad', N', f', rfl, hp, by rw [ht]; exact hP, hD⟩, hS.F ht⟩) hS.2.2 hd
theorem Ct.ofR {rt : String} (hy : plainName y.cls = true) (hw' : ws = Cond.code y cc maxL (some (.object rt)) :: ws') (hn : (lg_sl av).length ≤ maxL) (hlv : lv_args 0 av = lv)
    (body : ∀ X : XT, CC X G tc l cc y.cls ws maxL rm → (∀ ad' N' f' (a : Nat) pc lv', decode cc pc = .ok (.areturn, 1) → post (some (.ref a)) ad' N' f' → VV X ad' N' f' mc ms pc lv' [.ref a]) → VV X ad N f 0 0 0 lv []) : Ct G tc l y ws rm mc ms av ad N f post := by
  intro sz
  refine Met.ofW (cc := cc) (maxL := maxL) (ret := some (.object rt)) hy hw' ?_
  intro p e s m args below meth c s₁ B hml hv
  obtain ⟨rfl, hsz, hP, hK, hD0, hSS⟩ := hv
  have hlocks := B.notSynchronized
  subst hsz
  have hD := hD0.self (sz := s.heap.size)
  have hl := lv_entry av (n := maxL) hn
  rw [lg_entry_eq]
  rw [hlv] at hl
  refine body ((G, tc), (p, l, e, s, m, av.toArray), (below, meth, c, rm, maxL), va_A (hw ad f N) s.heap.size, _) ⟨⟨rfl, rfl, rfl, rfl, rfl⟩, ⟨B.exec, B.bytes, hml, findClass_of_methodNamed B.named, atoms_spec (ws := ws) B.pre⟩, hK, hSS, fun q h => Or.inr h, hlocks⟩ ?_ s.heap [] _ hP hD va_S.rf hl
  intro ad' N' f' a pc lv' hd hp H locs ls hP hD hS hl
  exact W.aret B.exec B.bytes B.returns (Or.inl ⟨_, rfl⟩) (Or.inr ⟨_, rfl⟩) (fun t ht hW => ⟨⟨_, ad', N', f', rfl, hp, by rw [ht]; exact hP, hD⟩, hS.F ht⟩) hS.2.2 hd
theorem Ct.ofL (hy : plainName y.cls = true) (hw' : ws = Cond.code y cc maxL (some .long) :: ws') (hn : (lg_sl av).length ≤ maxL) (hlv : lv_args 0 av = lv)
    (body : ∀ X : XT, CC X G tc l cc y.cls ws maxL rm → (∀ ad' N' f' (v : Int64) pc lv', decode cc pc = .ok (.lreturn, 1) → post (some (.long v)) ad' N' f' → VV X ad' N' f' mc ms pc lv' [.long v]) → VV X ad N f 0 0 0 lv []) : Ct G tc l y ws rm mc ms av ad N f post := by
  intro sz
  refine Met.ofW (cc := cc) (maxL := maxL) (ret := some .long) hy hw' ?_
  intro p e s m args below meth c s₁ B hml hv
  obtain ⟨rfl, hsz, hP, hK, hD0, hSS⟩ := hv
  have hlocks := B.notSynchronized
  subst hsz
  have hD := hD0.self (sz := s.heap.size)
  have hl := lv_entry av (n := maxL) hn
  rw [lg_entry_eq]
  rw [hlv] at hl
  refine body ((G, tc), (p, l, e, s, m, av.toArray), (below, meth, c, rm, maxL), va_A (hw ad f N) s.heap.size, _) ⟨⟨rfl, rfl, rfl, rfl, rfl⟩, ⟨B.exec, B.bytes, hml, findClass_of_methodNamed B.named, atoms_spec (ws := ws) B.pre⟩, hK, hSS, fun q h => Or.inr h, hlocks⟩ ?_ s.heap [] _ hP hD va_S.rf hl
  intro ad' N' f' v pc lv' hd hp H locs ls hP hD hS hl
  exact W.lret B.exec B.bytes B.returns (fun t ht hW => ⟨⟨_, ad', N', f', rfl, hp, by rw [ht]; exact hP, hD⟩, hS.F ht⟩) hS.2.2 hd
end LYR4
section LYR5
/-- the two common shapes: nothing is made; an int is answered, or nothing -/
def poI (ad : Nat → Nat) (N : Nat) (E : Int) (F : (Nat → va_E) → Prop) : Option Value → (Nat → Nat) → Nat → (Nat → va_E) → Prop := fun v ad' N' f' => ad' = ad ∧ N' = N ∧ v = some (.int (iI E)) ∧ F f'
def poA (ad : Nat → Nat) (N : Nat) (a : Nat) (F : (Nat → va_E) → Prop) : Option Value → (Nat → Nat) → Nat → (Nat → va_E) → Prop := fun v ad' N' f' => ad' = ad ∧ N' = N ∧ v = some (.ref a) ∧ F f'
def poJ (ad : Nat → Nat) (N : Nat) (P : Int64 → Prop) (F : (Nat → va_E) → Prop) : Option Value → (Nat → Nat) → Nat → (Nat → va_E) → Prop := fun v ad' N' f' => ad' = ad ∧ N' = N ∧ (∃ x, v = some (.long x) ∧ P x) ∧ F f'
def poV (ad : Nat → Nat) (N : Nat) (F : (Nat → va_E) → Prop) : Option Value → (Nat → Nat) → Nat → (Nat → va_E) → Prop := fun v ad' N' f' => ad' = ad ∧ N' = N ∧ v = none ∧ F f'
variable {X : XT} {G : va_G} {tc : Nat → ClassId} {l : Launch} {ad : Nat → Nat} {N : Nat} {f : Nat → va_E} {k n pc : Nat} {lv : List (Nat × Value)} {rest : List Value}
theorem aft_I {E : Int} {F : (Nat → va_E) → Prop} {pc' : Nat} (kk : ∀ f', F f' → VV X ad N f' k n pc' lv (.int (iI E) :: rest)) : ∀ v ad' N' f', poI ad N E F v ad' N' f' → VV X ad' N' f' k n pc' lv (v.toList ++ rest) := by
  rintro v ad' N' f' ⟨rfl, rfl, rfl, h⟩
  exact kk f' h
theorem aft_A {a : Nat} {F : (Nat → va_E) → Prop} {pc' : Nat} (kk : ∀ f', F f' → VV X ad N f' k n pc' lv (.ref a :: rest)) : ∀ v ad' N' f', poA ad N a F v ad' N' f' → VV X ad' N' f' k n pc' lv (v.toList ++ rest) := by
  rintro v ad' N' f' ⟨rfl, rfl, rfl, h⟩
  exact kk f' h
theorem aft_J {P : Int64 → Prop} {F : (Nat → va_E) → Prop} {pc' : Nat} (kk : ∀ f' x, F f' → P x → VV X ad N f' k n pc' lv (.long x :: rest)) : ∀ v ad' N' f', poJ ad N P F v ad' N' f' → VV X ad' N' f' k n pc' lv (v.toList ++ rest) := by
  rintro v ad' N' f' ⟨rfl, rfl, ⟨x, rfl, hx⟩, h⟩
  exact kk f' x h hx
theorem aft_V {F : (Nat → va_E) → Prop} {pc' : Nat} (kk : ∀ f', F f' → VV X ad N f' k n pc' lv rest) : ∀ v ad' N' f', poV ad N F v ad' N' f' → VV X ad' N' f' k n pc' lv (v.toList ++ rest) := by
  rintro v ad' N' f' ⟨rfl, rfl, rfl, h⟩
  exact kk f' h
variable {y : MethodName} {ws ws' : List Cond} {rm : Room} {maxL : Nat} {av : List Value} {cc : ByteArray}
theorem stI {E : Int} {F : (Nat → va_E) → Prop} (hy : plainName y.cls = true) (hw' : ws = Cond.code y cc maxL (some .int) :: ws') (hn : (lg_sl av).length ≤ maxL) (hlv : lv_args 0 av = lv)
    (body : ∀ X : XT, CC X G tc l cc y.cls ws maxL rm → (∀ f' (z : Int) pc lv', decode cc pc = .ok (.ireturn, 1) → z = E → F f' → VV X ad N f' 0 0 pc lv' [.int (iI z)]) → VV X ad N f 0 0 0 lv []) : Ct G tc l y ws rm 0 0 av ad N f (poI ad N E F) :=
  Ct.ofI hy hw' hn hlv (fun X C hr => body X C (fun f' z pc lv' hd hz hF => hr ad N f' (iI z) pc lv' hd ⟨rfl, rfl, by rw [hz], hF⟩))
theorem stZ {E : Int} {F : (Nat → va_E) → Prop} (hE : E = 0 ∨ E = 1) (hy : plainName y.cls = true) (hw' : ws = Cond.code y cc maxL (some .boolean) :: ws') (hn : (lg_sl av).length ≤ maxL) (hlv : lv_args 0 av = lv)
    (body : ∀ X : XT, CC X G tc l cc y.cls ws maxL rm → (∀ f' (z : Int) pc lv', decode cc pc = .ok (.ireturn, 1) → z = E → F f' → VV X ad N f' 0 0 pc lv' [.int (iI z)]) → VV X ad N f 0 0 0 lv []) : Ct G tc l y ws rm 0 0 av ad N f (poI ad N E F) :=
  Ct.ofZ hy hw' hn hlv (fun X C hr => body X C (fun f' z pc lv' hd hz hF => hr ad N f' (iI z) pc lv' hd (by rw [hz]; rcases hE with rfl | rfl <;> rfl) ⟨rfl, rfl, by rw [hz], hF⟩))
theorem stV {F : (Nat → va_E) → Prop} (hy : plainName y.cls = true) (hw' : ws = Cond.code y cc maxL none :: ws') (hn : (lg_sl av).length ≤ maxL) (hlv : lv_args 0 av = lv)
    (body : ∀ X : XT, CC X G tc l cc y.cls ws maxL rm → (∀ f' pc lv', decode cc pc = .ok (.return_, 1) → F f' → VV X ad N f' 0 0 pc lv' []) → VV X ad N f 0 0 0 lv []) : Ct G tc l y ws rm 0 0 av ad N f (poV ad N F) :=
  Ct.ofV hy hw' hn hlv (fun X C _ hr => body X C (fun f' pc lv' hd hF => hr ad N f' pc lv' hd ⟨rfl, rfl, rfl, hF⟩))
theorem stA {rt : String} {a : Nat} {F : (Nat → va_E) → Prop} (hy : plainName y.cls = true) (hw' : ws = Cond.code y cc maxL (some (.object rt)) :: ws') (hn : (lg_sl av).length ≤ maxL) (hlv : lv_args 0 av = lv)
    (body : ∀ X : XT, CC X G tc l cc y.cls ws maxL rm → (∀ f' pc lv', decode cc pc = .ok (.areturn, 1) → F f' → VV X ad N f' 0 0 pc lv' [.ref a]) → VV X ad N f 0 0 0 lv []) : Ct G tc l y ws rm 0 0 av ad N f (poA ad N a F) :=
  Ct.ofR hy hw' hn hlv (fun X C hr => body X C (fun f' pc lv' hd hF => hr ad N f' a pc lv' hd ⟨rfl, rfl, rfl, hF⟩))
theorem stJ {P : Int64 → Prop} {F : (Nat → va_E) → Prop} (hy : plainName y.cls = true) (hw' : ws = Cond.code y cc maxL (some .long) :: ws') (hn : (lg_sl av).length ≤ maxL) (hlv : lv_args 0 av = lv)
    (body : ∀ X : XT, CC X G tc l cc y.cls ws maxL rm → (∀ f' x pc lv', decode cc pc = .ok (.lreturn, 1) → P x → F f' → VV X ad N f' 0 0 pc lv' [.long x]) → VV X ad N f 0 0 0 lv []) : Ct G tc l y ws rm 0 0 av ad N f (poJ ad N P F) :=
  Ct.ofL hy hw' hn hlv (fun X C hr => body X C (fun f' x pc lv' hd hP hF => hr ad N f' x pc lv' hd ⟨rfl, rfl, ⟨x, rfl, hP⟩, hF⟩))
end LYR5
