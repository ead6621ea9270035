section XN1
theorem r_lveq {X : XT} {ad : Nat → Nat} {N : Nat} {f : Nat → va_E} {k n pc : Nat} {lv lv' : List (Nat × Value)} {st : List Value} (h : lv = lv') (kk : VV X ad N f k n pc lv' st) : VV X ad N f k n pc lv st := h ▸ kk
theorem iI_nat (n : Nat) : iI ((n : Nat) : Int) = Int32.ofNat n := by
  apply Int32.toBitVec.inj
  show BitVec.ofInt 32 ((n : Nat) : Int) = BitVec.ofNat 32 n
  exact BitVec.ofInt_natCast 32 n
theorem iI_or (a b : Nat) : iI ((a : Nat) : Int) ||| iI ((b : Nat) : Int) = iI ((a ||| b : Nat) : Int) := by
  rw [iI_nat, iI_nat, iI_nat]
  apply Int32.toBitVec_inj.1
  show BitVec.ofNat 32 a ||| BitVec.ofNat 32 b = BitVec.ofNat 32 (a ||| b)
  apply BitVec.eq_of_getLsbD_eq
  intro i hi
  simp [hi]
theorem iI_shl1 : ∀ {k : Nat}, k < 31 → iI ((1 : Nat) : Int) <<< (iI ((k : Nat) : Int) &&& 31) = iI ((2 ^ k : Nat) : Int) := by
  have h : ∀ k, k < 31 → iI ((1 : Nat) : Int) <<< (iI ((k : Nat) : Int) &&& 31) = iI ((2 ^ k : Nat) : Int) := by decide +kernel
  exact fun {k} hk => h k hk
def shN (s : SG) (z w : Int) (o : Nat) : Nat := if w = 0 then tol (wds (cur s) z.toNat) (wds (cur s) o) ((cur s).1 1) else tru (wds (cur s) z.toNat) (wds (cur s) o)
theorem shd_le2 {p w : Nat} (h : p ≤ w) : shd p w ≤ 10000 := by
  unfold shd
  split
  · omega
  · exact Nat.le_trans (Nat.div_le_div_right (Nat.mul_le_mul_right 10000 h)) (by rw [Nat.mul_comm, Nat.mul_div_cancel _ (by omega)]; omega)
theorem shN_le {s : SG} (h : okN (cur s)) (z w : Int) (hz : z.toNat < 10) (o : Nat) : shN s z w o ≤ 640000 := by
  have h1 := lcw_le (wds_lt (cur s) z.toNat) (wds_lt (cur s) o) ((cur s).1 1)
  have h2 := eb_le (wds_lt (cur s) z.toNat) (wds_lt (cur s) o)
  unfold shN tol tru
  split
  · exact Nat.le_trans (shd_le2 h1.2.2) (by omega)
  · exact Nat.le_trans (shd_le2 (by omega)) (by omega)
def nea (sh : Nat → Nat) (r : Nat) : Nat → Int × Int
  | 0 => (-6, -1)
  | k + 1 => if k = r then nea sh r k else if (nea sh r k).2 < ((sh k : Nat) : Int) then (((k : Nat) : Int), ((sh k : Nat) : Int)) else nea sh r k
theorem nea_skip {sh : Nat → Nat} {r k : Nat} (h : k = r) : nea sh r (k + 1) = nea sh r k := by rw [nea, if_pos h]
theorem nea_new {sh : Nat → Nat} {r k : Nat} (h : ¬ k = r) (h2 : (nea sh r k).2 < ((sh k : Nat) : Int)) : nea sh r (k + 1) = (((k : Nat) : Int), ((sh k : Nat) : Int)) := by rw [nea, if_neg h, if_pos h2]
theorem nea_old {sh : Nat → Nat} {r k : Nat} (h : ¬ k = r) (h2 : ¬ (nea sh r k).2 < ((sh k : Nat) : Int)) : nea sh r (k + 1) = nea sh r k := by rw [nea, if_neg h, if_neg h2]
theorem nea_rng {sh : Nat → Nat} (r : Nat) {M : Nat} (h : ∀ o, sh o ≤ M) : ∀ {n : Nat}, -1 ≤ (nea sh r n).2 ∧ (nea sh r n).2 ≤ M ∧ -6 ≤ (nea sh r n).1 ∧ (nea sh r n).1 ≤ n
  | 0 => ⟨Int.le_refl _, by show (-1 : Int) ≤ M; omega, Int.le_refl _, by show (-6 : Int) ≤ ((0 : Nat) : Int); omega⟩
  | n + 1 => by
    have h1 := nea_rng r h (n := n)
    have h2 := h n
    rw [nea]
    split
    · omega
    · split
      · dsimp only; omega
      · omega
def aNea (s : SG) (z w : Int) : Int := if isR s z then (if w = 0 ∨ w = 1 then (nea (shN s z w) z.toNat (cur s).2.2.2).1 else -2) else -1
def gre (lo : Nat → Nat) (r : Nat) : Nat → Nat
  | 0 => 0
  | k + 1 => if k = r then gre lo r k else max (gre lo r k) (lo k)
theorem gre_skip {lo : Nat → Nat} {r k : Nat} (h : k = r) : gre lo r (k + 1) = gre lo r k := by rw [gre, if_pos h]
theorem gre_new {lo : Nat → Nat} {r k : Nat} (h : ¬ k = r) : gre lo r (k + 1) = max (gre lo r k) (lo k) := by rw [gre, if_neg h]
theorem gre_le {lo : Nat → Nat} (r : Nat) {M : Nat} : (∀ o, True → lo o ≤ M) → ∀ {k : Nat}, gre lo r k ≤ M
  | _, 0 => Nat.zero_le _
  | h, k + 1 => by
    have h1 := gre_le r h (k := k)
    have h2 := h k trivial
    rw [gre]
    split <;> omega
def cnd (up : Nat → Nat) (g r : Nat) : Nat → Nat
  | 0 => 0
  | k + 1 => if ¬ k = r ∧ g ≤ up k then cnd up g r k ||| 2 ^ k else cnd up g r k
theorem cnd_new {up : Nat → Nat} {g r k : Nat} (h : ¬ k = r) (h2 : g ≤ up k) : cnd up g r (k + 1) = cnd up g r k ||| 2 ^ k := by rw [cnd, if_pos ⟨h, h2⟩]
theorem cnd_old {up : Nat → Nat} {g r k : Nat} (h : ¬ (¬ k = r ∧ g ≤ up k)) : cnd up g r (k + 1) = cnd up g r k := by rw [cnd, if_neg h]
def aCan (s : SG) (z : Int) : Int := if isR s z then ((cnd (fun o => upp (wds (cur s) z.toNat) (wds (cur s) o) ((cur s).1 1)) (gre (fun o => low (wds (cur s) z.toNat) (wds (cur s) o) ((cur s).1 1)) z.toNat (cur s).2.2.2) z.toNat (cur s).2.2.2 : Nat) : Int) else -1
def wri (er : Nat → Nat → Nat) (r : Nat) (t : Int × Int × Int) : Nat → Int × Int × Int
  | 0 => t
  | d + 1 => if (wri er r t d).2.2 < ((er r (r + 1 + d) : Nat) : Int) then (((r : Nat) : Int), ((r + 1 + d : Nat) : Int), ((er r (r + 1 + d) : Nat) : Int)) else wri er r t d
def wro (er : Nat → Nat → Nat) (R : Nat) (t : Int × Int × Int) : Nat → Int × Int × Int
  | 0 => t
  | r + 1 => wri er r (wro er R t r) (R - (r + 1))
theorem wri_new {er : Nat → Nat → Nat} {r d : Nat} {t : Int × Int × Int} (h : (wri er r t d).2.2 < ((er r (r + 1 + d) : Nat) : Int)) : wri er r t (d + 1) = (((r : Nat) : Int), ((r + 1 + d : Nat) : Int), ((er r (r + 1 + d) : Nat) : Int)) := by rw [wri, if_pos h]
theorem wri_old {er : Nat → Nat → Nat} {r d : Nat} {t : Int × Int × Int} (h : ¬ (wri er r t d).2.2 < ((er r (r + 1 + d) : Nat) : Int)) : wri er r t (d + 1) = wri er r t d := by rw [wri, if_neg h]
theorem wri_rg {er : Nat → Nat → Nat} {R M : Nat} (h : ∀ r o, r < R → o < R → er r o ≤ M) {t : Int × Int × Int} (ht : -6 ≤ t.2.2 ∧ t.2.2 ≤ M ∧ -6 ≤ t.1 ∧ t.1 ≤ R ∧ -6 ≤ t.2.1 ∧ t.2.1 ≤ R) {r : Nat} : ∀ d, r + 1 + d ≤ R → -6 ≤ (wri er r t d).2.2 ∧ (wri er r t d).2.2 ≤ M ∧ -6 ≤ (wri er r t d).1 ∧ (wri er r t d).1 ≤ R ∧ -6 ≤ (wri er r t d).2.1 ∧ (wri er r t d).2.1 ≤ R
  | 0, _ => ht
  | d + 1, hd => by
    have h1 := wri_rg h ht (r := r) d (by omega)
    have h2 := h r (r + 1 + d) (by omega) (by omega)
    rw [wri]
    split
    · dsimp only; omega
    · exact h1
theorem wro_rg {er : Nat → Nat → Nat} {R M : Nat} (h : ∀ r o, r < R → o < R → er r o ≤ M) {F0 : Int} (h0 : -6 ≤ F0 ∧ F0 ≤ 0) : ∀ r, r ≤ R → -6 ≤ (wro er R (-6, -6, F0) r).2.2 ∧ (wro er R (-6, -6, F0) r).2.2 ≤ M ∧ -6 ≤ (wro er R (-6, -6, F0) r).1 ∧ (wro er R (-6, -6, F0) r).1 ≤ R ∧ -6 ≤ (wro er R (-6, -6, F0) r).2.1 ∧ (wro er R (-6, -6, F0) r).2.1 ≤ R
  | 0, _ => by
    show -6 ≤ F0 ∧ F0 ≤ M ∧ (-6 : Int) ≤ -6 ∧ (-6 : Int) ≤ R ∧ (-6 : Int) ≤ -6 ∧ (-6 : Int) ≤ R
    omega
  | r + 1, hr => wri_rg h (wro_rg h h0 r (by omega)) _ (by omega)
theorem wri_rng {er : Nat → Nat → Nat} {R M : Nat} (h : ∀ r o, r < R → o < R → er r o ≤ M) {F0 : Int} (h0 : -6 ≤ F0 ∧ F0 ≤ 0) {r d : Nat} (hd : r + 1 + d ≤ R) : -6 ≤ (wri er r (wro er R (-6, -6, F0) r) d).2.2 ∧ (wri er r (wro er R (-6, -6, F0) r) d).2.2 ≤ M ∧ -6 ≤ (wri er r (wro er R (-6, -6, F0) r) d).1 ∧ (wri er r (wro er R (-6, -6, F0) r) d).1 ≤ R ∧ -6 ≤ (wri er r (wro er R (-6, -6, F0) r) d).2.1 ∧ (wri er r (wro er R (-6, -6, F0) r) d).2.1 ≤ R :=
  wri_rg h (wro_rg h h0 r (by omega)) d hd
def aWor (s : SG) (w : Int) : Int := if 0 ≤ w ∧ w ≤ 2 then (if w = 0 then (wro (fun r o => err (wds (cur s) r) (wds (cur s) o) ((cur s).1 1)) (cur s).2.2.2 (-6, -6, -6) (cur s).2.2.2).1 else if w = 1 then (wro (fun r o => err (wds (cur s) r) (wds (cur s) o) ((cur s).1 1)) (cur s).2.2.2 (-6, -6, -6) (cur s).2.2.2).2.1 else (wro (fun r o => err (wds (cur s) r) (wds (cur s) o) ((cur s).1 1)) (cur s).2.2.2 (-6, -6, -6) (cur s).2.2.2).2.2) else -2
set_option maxHeartbeats 4000000 in
set_option maxRecDepth 100000 in
/-- nearest -/
theorem c_X3_nearest (G : va_G) (tc : Nat → ClassId) (l : Launch) (ad : Nat → Nat) (N : Nat) (f : Nat → va_E) (s : SG) (hX : XI tc ad f s) (ho : okS s) (hN : 98 ≤ N) (z w : Int) (hz : inR z) (hw : inR w)   : Ct G tc l yX3_nearest wsX3_nearest { frames := 5, cells := 0, slots := 0, locals := 116 } 0 0 [.ref (ad (0)), .int (iI (z)), .int (iI (w))] ad N f (poI ad N (aNea s z w) (fun f' => XI tc ad f' s ∧ ∀ q, 88 ≤ q → f' q = f q)) := by
  obtain ⟨h0, ⟨h1, h2, h3, h4⟩, hHis, hSlo, h40, hWds, hPr, hHd⟩ := id hX
  obtain ⟨⟨⟨a1, a2⟩, ⟨a3, a4⟩, ⟨a5, a6⟩, a7, a8, a9, a10⟩, o2, o3, o4, o5, o6⟩ := id ho
  refine stI (cc := cX3_nearest) (maxL := 8) (lv := [(0, .ref (ad (0))), (1, .int (iI (z))), (2, .int (iI (w)))]) (by decide) rfl (Nat.le_of_ble_eq_true rfl) rfl (fun X C hret => ?_)
  have m0 : Cond.fieldLink RX3 10 "WordSamples" "now" "LWordSamples$State;" ∈ wsX3_nearest := by decide +kernel
  have m1 : ∀ w ∈ wsX30, w ∈ wsX3_nearest := by decide +kernel
  have m2 : Cond.fieldLink RX3 74 "WordSamples$State" "rows" "I" ∈ wsX3_nearest := by decide +kernel
  have m3 : ∀ w ∈ wsX10, w ∈ wsX3_nearest := by decide +kernel
  have m4 : Cond.fieldLink RX3 67 "WordSamples$State" "settings" "[I" ∈ wsX3_nearest := by decide +kernel
  refine r_aload_n C dX3_nearest_0 rfl rfl ?_
  refine r_iload_n C dX3_nearest_1 rfl rfl ?_
  refine r_callV (As := [.int (iI (z))]) (rest := []) (na := 1) C (c_X3_noRow G tc l ad N _ s hX ho hN z hz) gX3_nearest_X3_noRow rfl rfl rfl (by decide +kernel) ⟨Nat.le_of_ble_eq_true rfl, Nat.le_of_ble_eq_true rfl⟩ (by omega) h0 (show vwCl[3]? = some (RX3, TX3, 11) from rfl) rfl rfl (Nat.le_of_ble_eq_true rfl) dX3_nearest_2 ⟨Nat.le_of_ble_eq_true rfl, Nat.le_of_ble_eq_true rfl⟩ (aft_I (fun f1 hF2 => ?_))
  rw [hF2]
  refine r_if_eq (tgt := 10) C ⟨by omega, by omega⟩ dX3_nearest_5 (by decide) (fun b3 => ?_) (fun b3 => ?_)
  · refine r_iload_n C dX3_nearest_10 rfl rfl ?_
    refine r_if_eq (tgt := 22) C ⟨by omega, by omega⟩ dX3_nearest_11 (by decide) (fun b4 => ?_) (fun b4 => ?_)
    · rw [show (.int (iI (z)) : Value) = .int (iI ((z.toNat : Nat) : Int)) from by rw [Int.toNat_of_nonneg (by omega)]]
      refine r_bipush C ((-6)) (by decide) dX3_nearest_22 ?_
      refine r_istore_n (lv' := [(0, .ref (ad (0))), (1, .int (iI ((z.toNat : Nat) : Int))), (2, .int (iI (w))), (3, .int (iI ((-6))))]) C dX3_nearest_24 rfl (by decide) rfl ?_
      refine r_iconst C ((-1)) (by decide) dX3_nearest_25 ?_
      refine r_istore (lv' := [(0, .ref (ad (0))), (1, .int (iI ((z.toNat : Nat) : Int))), (2, .int (iI (w))), (3, .int (iI ((-6)))), (4, .int (iI ((-1))))]) C dX3_nearest_26 (by decide) rfl ?_
      refine r_iconst C ((0 : Nat) : Int) (by decide) dX3_nearest_28 ?_
      refine r_istore (lv' := [(0, .ref (ad (0))), (1, .int (iI ((z.toNat : Nat) : Int))), (2, .int (iI (w))), (3, .int (iI ((-6)))), (4, .int (iI ((-1)))), (5, .int (iI ((0 : Nat) : Int)))]) C dX3_nearest_29 (by decide) rfl ?_
      have hL7 : ∀ (m_8 : Nat) (k : Nat) (f5 : Nat → va_E) (ho6 : ∀ q, 88 ≤ q → f5 q = f q) (hXl : XI tc ad f5 s) (hk : k ≤ (cur s).2.2.2), (cur s).2.2.2 - k < m_8 → VV X ad N f5 0 0 31 [(0, .ref (ad (0))), (1, .int (iI ((z.toNat : Nat) : Int))), (2, .int (iI (w))), (3, .int (iI ((nea (shN s z w) z.toNat k).1))), (4, .int (iI ((nea (shN s z w) z.toNat k).2))), (5, .int (iI ((k : Nat) : Int)))] [] := by
        intro m_8
        induction m_8 with
        | zero => intros; omega
        | succ m_8 ih9 =>
          intro k f5 ho6 hXl hk hm10
          obtain ⟨x11, ⟨x12, x13, x14, x15⟩, -⟩ := id hXl
          refine r_iload C dX3_nearest_31 rfl ?_
          refine r_aload_n C dX3_nearest_33 rfl rfl ?_
          refine r_get (v := .ref (ad (1))) C (by omega) x11 (show vwCl[3]? = some (RX3, TX3, 11) from rfl) m1 0 (by decide) m0 rfl rfl dX3_nearest_34 ?_
          refine r_get (v := .int (iI (((cur s).2.2.2 : Nat) : Int))) C (by omega) x12 (show vwCl[1]? = some (RX1, TX1, 4) from rfl) m3 3 (by decide) m2 rfl rfl dX3_nearest_37 ?_
          refine r_icmp_ge (tgt := 109) C ⟨by omega, by omega⟩ ⟨by omega, by omega⟩ dX3_nearest_40 (by decide) (fun b16 => ?_) (fun b16 => ?_)
          · refine r_iload_n C dX3_nearest_109 rfl rfl ?_
            exact hret f5 ((nea (shN s z w) z.toNat k).1) _ _ dX3_nearest_110 (by unfold aNea; rw [if_pos (by omega), if_pos (by omega), show (cur s).2.2.2 = k from by omega]) (⟨hXl, fun q hq => (ho6 _ (by omega))⟩)
          · refine r_iload C dX3_nearest_43 rfl ?_
            refine r_iload_n C dX3_nearest_45 rfl rfl ?_
            refine r_icmp_ne (tgt := 52) C ⟨by omega, by omega⟩ ⟨by omega, by omega⟩ dX3_nearest_46 (by decide) (fun b17 => ?_) (fun b17 => ?_)
            · refine r_aload_n C dX3_nearest_52 rfl rfl ?_
              refine r_iload_n C dX3_nearest_53 rfl rfl ?_
              refine r_iload C dX3_nearest_54 rfl ?_
              refine r_callV (As := [.int (iI ((z.toNat : Nat) : Int)), .int (iI ((k : Nat) : Int))]) (rest := []) (na := 2) C (c_X3_pairOf G tc l ad N _ s hXl ho hN z.toNat k (by omega) (by omega)) gX3_nearest_X3_pairOf rfl rfl rfl (by decide +kernel) ⟨Nat.le_of_ble_eq_true rfl, Nat.le_of_ble_eq_true rfl⟩ (by omega) x11 (show vwCl[3]? = some (RX3, TX3, 11) from rfl) rfl rfl (Nat.le_of_ble_eq_true rfl) dX3_nearest_56 ⟨Nat.le_of_ble_eq_true rfl, Nat.le_of_ble_eq_true rfl⟩ (aft_A (fun f29 hF30 => ?_))
              obtain ⟨hx18, hp19, ow20⟩ := hF30
              obtain ⟨d21, d22, d23, p24, p25, p26, p27, hd28⟩ := id hp19
              have hehp19 := eb_le (wds_lt (cur s) z.toNat) (wds_lt (cur s) k)
              have hqhp19 := wds_le ho.1 (r := z.toNat) (by omega)
              have hrhp19 := wds_le ho.1 (r := k) (by omega)
              have hlhp19 := lcw_le (wds_lt (cur s) z.toNat) (wds_lt (cur s) k) ((cur s).1 1)
              have hmhp19 := mcw_le (wds_lt (cur s) z.toNat) (wds_lt (cur s) k) ((cur s).1 1)
              refine r_astore (lv' := [(0, .ref (ad (0))), (1, .int (iI ((z.toNat : Nat) : Int))), (2, .int (iI (w))), (3, .int (iI ((nea (shN s z w) z.toNat k).1))), (4, .int (iI ((nea (shN s z w) z.toNat k).2))), (5, .int (iI ((k : Nat) : Int))), (6, .ref (ad (83)))]) C dX3_nearest_59 (by decide) rfl ?_
              refine r_iload_n C dX3_nearest_61 rfl rfl ?_
              refine r_if_ne (tgt := 82) C ⟨by omega, by omega⟩ dX3_nearest_62 (by decide) (fun b31 => ?_) (fun b31 => ?_)
              · refine r_aload C dX3_nearest_82 rfl ?_
                refine r_callV (As := []) (rest := []) (na := 0) C (c_X0_trueShare G tc l ad N _ (wds (cur s) z.toNat) (wds (cur s) k) (wds_le ho.1 (by omega)) (wds_le ho.1 (by omega)) (wds_lt _ _) (wds_lt _ _) hN hp19) gX3_nearest_X0_trueShare rfl rfl rfl (by decide +kernel) ⟨Nat.le_of_ble_eq_true rfl, Nat.le_of_ble_eq_true rfl⟩ (by omega) p24 (show vwCl[0]? = some (RX0, TX0, 7) from rfl) rfl rfl (Nat.le_of_ble_eq_true rfl) dX3_nearest_84 ⟨Nat.le_of_ble_eq_true rfl, Nat.le_of_ble_eq_true rfl⟩ (aft_I (fun f32 hF33 => ?_))
                rw [hF33]
                have hsk : shN s z w k = tru (wds (cur s) z.toNat) (wds (cur s) k) := if_neg (by omega)
                refine r_istore (lv' := [(0, .ref (ad (0))), (1, .int (iI ((z.toNat : Nat) : Int))), (2, .int (iI (w))), (3, .int (iI ((nea (shN s z w) z.toNat k).1))), (4, .int (iI ((nea (shN s z w) z.toNat k).2))), (5, .int (iI ((k : Nat) : Int))), (6, .ref (ad (83))), (7, .int (iI ((tru (wds (cur s) z.toNat) (wds (cur s) k) : Nat) : Int)))]) C dX3_nearest_87 (by decide) rfl ?_
                have hsl := shN_le ho.1 z w (by omega) k
                refine r_iload C dX3_nearest_89 rfl ?_
                refine r_iload C dX3_nearest_91 rfl ?_
                have hnr := nea_rng (sh := shN s z w) z.toNat (M := 640000) (fun o => shN_le ho.1 z w (by omega) o) (n := k)
                refine r_icmp_le (tgt := 103) C ⟨by omega, by omega⟩ ⟨by omega, by omega⟩ dX3_nearest_93 (by decide) (fun b34 => ?_) (fun b34 => ?_)
                · refine r_iinc (lv' := [(0, .ref (ad (0))), (1, .int (iI ((z.toNat : Nat) : Int))), (2, .int (iI (w))), (3, .int (iI ((nea (shN s z w) z.toNat k).1))), (4, .int (iI ((nea (shN s z w) z.toNat k).2))), (5, .int (iI ((k + 1 : Nat) : Int))), (6, .ref (ad (83))), (7, .int (iI ((tru (wds (cur s) z.toNat) (wds (cur s) k) : Nat) : Int)))]) C ((k + 1 : Nat) : Int) (by omega) dX3_nearest_103 rfl (by decide) rfl ?_
                  refine r_lveq (lv' := [(0, .ref (ad (0))), (1, .int (iI ((z.toNat : Nat) : Int))), (2, .int (iI (w))), (3, .int (iI ((nea (shN s z w) z.toNat (k + 1)).1))), (4, .int (iI ((nea (shN s z w) z.toNat (k + 1)).2))), (5, .int (iI ((k + 1 : Nat) : Int))), (6, .ref (ad (83))), (7, .int (iI ((tru (wds (cur s) z.toNat) (wds (cur s) k) : Nat) : Int)))]) (by rw [nea_old (sh := shN s z w) (by omega) (by omega)]) ?_
                  refine r_goto (tgt := 31) C dX3_nearest_106 (by decide) ?_
                  refine r_sub (ks := [0, 1, 2, 3, 4, 5]) (lv' := [(0, .ref (ad (0))), (1, .int (iI ((z.toNat : Nat) : Int))), (2, .int (iI (w))), (3, .int (iI ((nea (shN s z w) z.toNat (k + 1)).1))), (4, .int (iI ((nea (shN s z w) z.toNat (k + 1)).2))), (5, .int (iI ((k + 1 : Nat) : Int)))]) rfl ?_
                  exact ih9 (k + 1) f29 (fun q hq => ((ow20 _ (by omega))).trans (ho6 _ (by omega))) hx18 (by omega) (by omega)
                · refine r_iload C dX3_nearest_96 rfl ?_
                  refine r_istore (lv' := [(0, .ref (ad (0))), (1, .int (iI ((z.toNat : Nat) : Int))), (2, .int (iI (w))), (3, .int (iI ((nea (shN s z w) z.toNat k).1))), (4, .int (iI ((tru (wds (cur s) z.toNat) (wds (cur s) k) : Nat) : Int))), (5, .int (iI ((k : Nat) : Int))), (6, .ref (ad (83))), (7, .int (iI ((tru (wds (cur s) z.toNat) (wds (cur s) k) : Nat) : Int)))]) C dX3_nearest_98 (by decide) rfl ?_
                  refine r_iload C dX3_nearest_100 rfl ?_
                  refine r_istore_n (lv' := [(0, .ref (ad (0))), (1, .int (iI ((z.toNat : Nat) : Int))), (2, .int (iI (w))), (3, .int (iI ((k : Nat) : Int))), (4, .int (iI ((tru (wds (cur s) z.toNat) (wds (cur s) k) : Nat) : Int))), (5, .int (iI ((k : Nat) : Int))), (6, .ref (ad (83))), (7, .int (iI ((tru (wds (cur s) z.toNat) (wds (cur s) k) : Nat) : Int)))]) C dX3_nearest_102 rfl (by decide) rfl ?_
                  refine r_iinc (lv' := [(0, .ref (ad (0))), (1, .int (iI ((z.toNat : Nat) : Int))), (2, .int (iI (w))), (3, .int (iI ((k : Nat) : Int))), (4, .int (iI ((tru (wds (cur s) z.toNat) (wds (cur s) k) : Nat) : Int))), (5, .int (iI ((k + 1 : Nat) : Int))), (6, .ref (ad (83))), (7, .int (iI ((tru (wds (cur s) z.toNat) (wds (cur s) k) : Nat) : Int)))]) C ((k + 1 : Nat) : Int) (by omega) dX3_nearest_103 rfl (by decide) rfl ?_
                  refine r_lveq (lv' := [(0, .ref (ad (0))), (1, .int (iI ((z.toNat : Nat) : Int))), (2, .int (iI (w))), (3, .int (iI ((nea (shN s z w) z.toNat (k + 1)).1))), (4, .int (iI ((nea (shN s z w) z.toNat (k + 1)).2))), (5, .int (iI ((k + 1 : Nat) : Int))), (6, .ref (ad (83))), (7, .int (iI ((tru (wds (cur s) z.toNat) (wds (cur s) k) : Nat) : Int)))]) (by rw [nea_new (sh := shN s z w) (by omega) (by omega), hsk]) ?_
                  refine r_goto (tgt := 31) C dX3_nearest_106 (by decide) ?_
                  refine r_sub (ks := [0, 1, 2, 3, 4, 5]) (lv' := [(0, .ref (ad (0))), (1, .int (iI ((z.toNat : Nat) : Int))), (2, .int (iI (w))), (3, .int (iI ((nea (shN s z w) z.toNat (k + 1)).1))), (4, .int (iI ((nea (shN s z w) z.toNat (k + 1)).2))), (5, .int (iI ((k + 1 : Nat) : Int)))]) rfl ?_
                  exact ih9 (k + 1) f29 (fun q hq => ((ow20 _ (by omega))).trans (ho6 _ (by omega))) hx18 (by omega) (by omega)
              · obtain ⟨x35, ⟨x36, x37, x38, x39⟩, -⟩ := id hx18
                refine r_aload C dX3_nearest_65 rfl ?_
                refine r_aload_n C dX3_nearest_67 rfl rfl ?_
                refine r_get (v := .ref (ad (1))) C (by omega) x35 (show vwCl[3]? = some (RX3, TX3, 11) from rfl) m1 0 (by decide) m0 rfl rfl dX3_nearest_68 ?_
                refine r_get (v := .ref (ad (2))) C (by omega) x36 (show vwCl[1]? = some (RX1, TX1, 4) from rfl) m3 0 (by decide) m4 rfl rfl dX3_nearest_71 ?_
                refine r_iconst C ((1 : Nat) : Int) (by decide) dX3_nearest_74 ?_
                refine r_iald (x := (iI (((cur s).1 1 : Nat) : Int))) C (by omega) x37 (1) rfl (by omega) (Nat.le_of_ble_eq_true rfl) (rfl) dX3_nearest_75 ?_
                refine r_callV (As := [.int (iI (((cur s).1 1 : Nat) : Int))]) (rest := []) (na := 1) C (c_X0_toldShare G tc l ad N _ (wds (cur s) z.toNat) (wds (cur s) k) (wds_le ho.1 (by omega)) (wds_le ho.1 (by omega)) (wds_lt _ _) (wds_lt _ _) hN hp19 ((cur s).1 1) a3 a4) gX3_nearest_X0_toldShare rfl rfl rfl (by decide +kernel) ⟨Nat.le_of_ble_eq_true rfl, Nat.le_of_ble_eq_true rfl⟩ (by omega) p24 (show vwCl[0]? = some (RX0, TX0, 7) from rfl) rfl rfl (Nat.le_of_ble_eq_true rfl) dX3_nearest_76 ⟨Nat.le_of_ble_eq_true rfl, Nat.le_of_ble_eq_true rfl⟩ (aft_I (fun f40 hF41 => ?_))
                rw [hF41]
                refine r_goto (tgt := 87) C dX3_nearest_79 (by decide) ?_
                have hsk : shN s z w k = tol (wds (cur s) z.toNat) (wds (cur s) k) ((cur s).1 1) := if_pos (by omega)
                refine r_istore (lv' := [(0, .ref (ad (0))), (1, .int (iI ((z.toNat : Nat) : Int))), (2, .int (iI (w))), (3, .int (iI ((nea (shN s z w) z.toNat k).1))), (4, .int (iI ((nea (shN s z w) z.toNat k).2))), (5, .int (iI ((k : Nat) : Int))), (6, .ref (ad (83))), (7, .int (iI ((tol (wds (cur s) z.toNat) (wds (cur s) k) ((cur s).1 1) : Nat) : Int)))]) C dX3_nearest_87 (by decide) rfl ?_
                have hsl := shN_le ho.1 z w (by omega) k
                refine r_iload C dX3_nearest_89 rfl ?_
                refine r_iload C dX3_nearest_91 rfl ?_
                have hnr := nea_rng (sh := shN s z w) z.toNat (M := 640000) (fun o => shN_le ho.1 z w (by omega) o) (n := k)
                refine r_icmp_le (tgt := 103) C ⟨by omega, by omega⟩ ⟨by omega, by omega⟩ dX3_nearest_93 (by decide) (fun b42 => ?_) (fun b42 => ?_)
                · refine r_iinc (lv' := [(0, .ref (ad (0))), (1, .int (iI ((z.toNat : Nat) : Int))), (2, .int (iI (w))), (3, .int (iI ((nea (shN s z w) z.toNat k).1))), (4, .int (iI ((nea (shN s z w) z.toNat k).2))), (5, .int (iI ((k + 1 : Nat) : Int))), (6, .ref (ad (83))), (7, .int (iI ((tol (wds (cur s) z.toNat) (wds (cur s) k) ((cur s).1 1) : Nat) : Int)))]) C ((k + 1 : Nat) : Int) (by omega) dX3_nearest_103 rfl (by decide) rfl ?_
                  refine r_lveq (lv' := [(0, .ref (ad (0))), (1, .int (iI ((z.toNat : Nat) : Int))), (2, .int (iI (w))), (3, .int (iI ((nea (shN s z w) z.toNat (k + 1)).1))), (4, .int (iI ((nea (shN s z w) z.toNat (k + 1)).2))), (5, .int (iI ((k + 1 : Nat) : Int))), (6, .ref (ad (83))), (7, .int (iI ((tol (wds (cur s) z.toNat) (wds (cur s) k) ((cur s).1 1) : Nat) : Int)))]) (by rw [nea_old (sh := shN s z w) (by omega) (by omega)]) ?_
                  refine r_goto (tgt := 31) C dX3_nearest_106 (by decide) ?_
                  refine r_sub (ks := [0, 1, 2, 3, 4, 5]) (lv' := [(0, .ref (ad (0))), (1, .int (iI ((z.toNat : Nat) : Int))), (2, .int (iI (w))), (3, .int (iI ((nea (shN s z w) z.toNat (k + 1)).1))), (4, .int (iI ((nea (shN s z w) z.toNat (k + 1)).2))), (5, .int (iI ((k + 1 : Nat) : Int)))]) rfl ?_
                  exact ih9 (k + 1) f29 (fun q hq => ((ow20 _ (by omega))).trans (ho6 _ (by omega))) hx18 (by omega) (by omega)
                · refine r_iload C dX3_nearest_96 rfl ?_
                  refine r_istore (lv' := [(0, .ref (ad (0))), (1, .int (iI ((z.toNat : Nat) : Int))), (2, .int (iI (w))), (3, .int (iI ((nea (shN s z w) z.toNat k).1))), (4, .int (iI ((tol (wds (cur s) z.toNat) (wds (cur s) k) ((cur s).1 1) : Nat) : Int))), (5, .int (iI ((k : Nat) : Int))), (6, .ref (ad (83))), (7, .int (iI ((tol (wds (cur s) z.toNat) (wds (cur s) k) ((cur s).1 1) : Nat) : Int)))]) C dX3_nearest_98 (by decide) rfl ?_
                  refine r_iload C dX3_nearest_100 rfl ?_
                  refine r_istore_n (lv' := [(0, .ref (ad (0))), (1, .int (iI ((z.toNat : Nat) : Int))), (2, .int (iI (w))), (3, .int (iI ((k : Nat) : Int))), (4, .int (iI ((tol (wds (cur s) z.toNat) (wds (cur s) k) ((cur s).1 1) : Nat) : Int))), (5, .int (iI ((k : Nat) : Int))), (6, .ref (ad (83))), (7, .int (iI ((tol (wds (cur s) z.toNat) (wds (cur s) k) ((cur s).1 1) : Nat) : Int)))]) C dX3_nearest_102 rfl (by decide) rfl ?_
                  refine r_iinc (lv' := [(0, .ref (ad (0))), (1, .int (iI ((z.toNat : Nat) : Int))), (2, .int (iI (w))), (3, .int (iI ((k : Nat) : Int))), (4, .int (iI ((tol (wds (cur s) z.toNat) (wds (cur s) k) ((cur s).1 1) : Nat) : Int))), (5, .int (iI ((k + 1 : Nat) : Int))), (6, .ref (ad (83))), (7, .int (iI ((tol (wds (cur s) z.toNat) (wds (cur s) k) ((cur s).1 1) : Nat) : Int)))]) C ((k + 1 : Nat) : Int) (by omega) dX3_nearest_103 rfl (by decide) rfl ?_
                  refine r_lveq (lv' := [(0, .ref (ad (0))), (1, .int (iI ((z.toNat : Nat) : Int))), (2, .int (iI (w))), (3, .int (iI ((nea (shN s z w) z.toNat (k + 1)).1))), (4, .int (iI ((nea (shN s z w) z.toNat (k + 1)).2))), (5, .int (iI ((k + 1 : Nat) : Int))), (6, .ref (ad (83))), (7, .int (iI ((tol (wds (cur s) z.toNat) (wds (cur s) k) ((cur s).1 1) : Nat) : Int)))]) (by rw [nea_new (sh := shN s z w) (by omega) (by omega), hsk]) ?_
                  refine r_goto (tgt := 31) C dX3_nearest_106 (by decide) ?_
                  refine r_sub (ks := [0, 1, 2, 3, 4, 5]) (lv' := [(0, .ref (ad (0))), (1, .int (iI ((z.toNat : Nat) : Int))), (2, .int (iI (w))), (3, .int (iI ((nea (shN s z w) z.toNat (k + 1)).1))), (4, .int (iI ((nea (shN s z w) z.toNat (k + 1)).2))), (5, .int (iI ((k + 1 : Nat) : Int)))]) rfl ?_
                  exact ih9 (k + 1) f29 (fun q hq => ((ow20 _ (by omega))).trans (ho6 _ (by omega))) hx18 (by omega) (by omega)
            · refine r_goto (tgt := 103) C dX3_nearest_49 (by decide) ?_
              refine r_iinc (lv' := [(0, .ref (ad (0))), (1, .int (iI ((z.toNat : Nat) : Int))), (2, .int (iI (w))), (3, .int (iI ((nea (shN s z w) z.toNat k).1))), (4, .int (iI ((nea (shN s z w) z.toNat k).2))), (5, .int (iI ((k + 1 : Nat) : Int)))]) C ((k + 1 : Nat) : Int) (by omega) dX3_nearest_103 rfl (by decide) rfl ?_
              refine r_lveq (lv' := [(0, .ref (ad (0))), (1, .int (iI ((z.toNat : Nat) : Int))), (2, .int (iI (w))), (3, .int (iI ((nea (shN s z w) z.toNat (k + 1)).1))), (4, .int (iI ((nea (shN s z w) z.toNat (k + 1)).2))), (5, .int (iI ((k + 1 : Nat) : Int)))]) (by rw [nea_skip (sh := shN s z w) (by omega)]) ?_
              refine r_goto (tgt := 31) C dX3_nearest_106 (by decide) ?_
              exact ih9 (k + 1) f5 (fun q hq => (ho6 _ (by omega))) hXl (by omega) (by omega)
      exact hL7 _ 0 f (fun _ _ => rfl) hX (by omega) (Nat.lt_succ_self _)
    · refine r_iload_n C dX3_nearest_14 rfl rfl ?_
      refine r_iconst C ((1 : Nat) : Int) (by decide) dX3_nearest_15 ?_
      refine r_icmp_eq (tgt := 22) C ⟨by omega, by omega⟩ ⟨by omega, by omega⟩ dX3_nearest_16 (by decide) (fun b43 => ?_) (fun b43 => ?_)
      · rw [show (.int (iI (z)) : Value) = .int (iI ((z.toNat : Nat) : Int)) from by rw [Int.toNat_of_nonneg (by omega)]]
        refine r_bipush C ((-6)) (by decide) dX3_nearest_22 ?_
        refine r_istore_n (lv' := [(0, .ref (ad (0))), (1, .int (iI ((z.toNat : Nat) : Int))), (2, .int (iI (w))), (3, .int (iI ((-6))))]) C dX3_nearest_24 rfl (by decide) rfl ?_
        refine r_iconst C ((-1)) (by decide) dX3_nearest_25 ?_
        refine r_istore (lv' := [(0, .ref (ad (0))), (1, .int (iI ((z.toNat : Nat) : Int))), (2, .int (iI (w))), (3, .int (iI ((-6)))), (4, .int (iI ((-1))))]) C dX3_nearest_26 (by decide) rfl ?_
        refine r_iconst C ((0 : Nat) : Int) (by decide) dX3_nearest_28 ?_
        refine r_istore (lv' := [(0, .ref (ad (0))), (1, .int (iI ((z.toNat : Nat) : Int))), (2, .int (iI (w))), (3, .int (iI ((-6)))), (4, .int (iI ((-1)))), (5, .int (iI ((0 : Nat) : Int)))]) C dX3_nearest_29 (by decide) rfl ?_
        have hL46 : ∀ (m_47 : Nat) (k : Nat) (f44 : Nat → va_E) (ho45 : ∀ q, 88 ≤ q → f44 q = f q) (hXl : XI tc ad f44 s) (hk : k ≤ (cur s).2.2.2), (cur s).2.2.2 - k < m_47 → VV X ad N f44 0 0 31 [(0, .ref (ad (0))), (1, .int (iI ((z.toNat : Nat) : Int))), (2, .int (iI (w))), (3, .int (iI ((nea (shN s z w) z.toNat k).1))), (4, .int (iI ((nea (shN s z w) z.toNat k).2))), (5, .int (iI ((k : Nat) : Int)))] [] := by
          intro m_47
          induction m_47 with
          | zero => intros; omega
          | succ m_47 ih48 =>
            intro k f44 ho45 hXl hk hm49
            obtain ⟨x50, ⟨x51, x52, x53, x54⟩, -⟩ := id hXl
            refine r_iload C dX3_nearest_31 rfl ?_
            refine r_aload_n C dX3_nearest_33 rfl rfl ?_
            refine r_get (v := .ref (ad (1))) C (by omega) x50 (show vwCl[3]? = some (RX3, TX3, 11) from rfl) m1 0 (by decide) m0 rfl rfl dX3_nearest_34 ?_
            refine r_get (v := .int (iI (((cur s).2.2.2 : Nat) : Int))) C (by omega) x51 (show vwCl[1]? = some (RX1, TX1, 4) from rfl) m3 3 (by decide) m2 rfl rfl dX3_nearest_37 ?_
            refine r_icmp_ge (tgt := 109) C ⟨by omega, by omega⟩ ⟨by omega, by omega⟩ dX3_nearest_40 (by decide) (fun b55 => ?_) (fun b55 => ?_)
            · refine r_iload_n C dX3_nearest_109 rfl rfl ?_
              exact hret f44 ((nea (shN s z w) z.toNat k).1) _ _ dX3_nearest_110 (by unfold aNea; rw [if_pos (by omega), if_pos (by omega), show (cur s).2.2.2 = k from by omega]) (⟨hXl, fun q hq => (ho45 _ (by omega))⟩)
            · refine r_iload C dX3_nearest_43 rfl ?_
              refine r_iload_n C dX3_nearest_45 rfl rfl ?_
              refine r_icmp_ne (tgt := 52) C ⟨by omega, by omega⟩ ⟨by omega, by omega⟩ dX3_nearest_46 (by decide) (fun b56 => ?_) (fun b56 => ?_)
              · refine r_aload_n C dX3_nearest_52 rfl rfl ?_
                refine r_iload_n C dX3_nearest_53 rfl rfl ?_
                refine r_iload C dX3_nearest_54 rfl ?_
                refine r_callV (As := [.int (iI ((z.toNat : Nat) : Int)), .int (iI ((k : Nat) : Int))]) (rest := []) (na := 2) C (c_X3_pairOf G tc l ad N _ s hXl ho hN z.toNat k (by omega) (by omega)) gX3_nearest_X3_pairOf rfl rfl rfl (by decide +kernel) ⟨Nat.le_of_ble_eq_true rfl, Nat.le_of_ble_eq_true rfl⟩ (by omega) x50 (show vwCl[3]? = some (RX3, TX3, 11) from rfl) rfl rfl (Nat.le_of_ble_eq_true rfl) dX3_nearest_56 ⟨Nat.le_of_ble_eq_true rfl, Nat.le_of_ble_eq_true rfl⟩ (aft_A (fun f68 hF69 => ?_))
                obtain ⟨hx57, hp58, ow59⟩ := hF69
                obtain ⟨d60, d61, d62, p63, p64, p65, p66, hd67⟩ := id hp58
                have hehp58 := eb_le (wds_lt (cur s) z.toNat) (wds_lt (cur s) k)
                have hqhp58 := wds_le ho.1 (r := z.toNat) (by omega)
                have hrhp58 := wds_le ho.1 (r := k) (by omega)
                have hlhp58 := lcw_le (wds_lt (cur s) z.toNat) (wds_lt (cur s) k) ((cur s).1 1)
                have hmhp58 := mcw_le (wds_lt (cur s) z.toNat) (wds_lt (cur s) k) ((cur s).1 1)
                refine r_astore (lv' := [(0, .ref (ad (0))), (1, .int (iI ((z.toNat : Nat) : Int))), (2, .int (iI (w))), (3, .int (iI ((nea (shN s z w) z.toNat k).1))), (4, .int (iI ((nea (shN s z w) z.toNat k).2))), (5, .int (iI ((k : Nat) : Int))), (6, .ref (ad (83)))]) C dX3_nearest_59 (by decide) rfl ?_
                refine r_iload_n C dX3_nearest_61 rfl rfl ?_
                refine r_if_ne (tgt := 82) C ⟨by omega, by omega⟩ dX3_nearest_62 (by decide) (fun b70 => ?_) (fun b70 => ?_)
                · refine r_aload C dX3_nearest_82 rfl ?_
                  refine r_callV (As := []) (rest := []) (na := 0) C (c_X0_trueShare G tc l ad N _ (wds (cur s) z.toNat) (wds (cur s) k) (wds_le ho.1 (by omega)) (wds_le ho.1 (by omega)) (wds_lt _ _) (wds_lt _ _) hN hp58) gX3_nearest_X0_trueShare rfl rfl rfl (by decide +kernel) ⟨Nat.le_of_ble_eq_true rfl, Nat.le_of_ble_eq_true rfl⟩ (by omega) p63 (show vwCl[0]? = some (RX0, TX0, 7) from rfl) rfl rfl (Nat.le_of_ble_eq_true rfl) dX3_nearest_84 ⟨Nat.le_of_ble_eq_true rfl, Nat.le_of_ble_eq_true rfl⟩ (aft_I (fun f71 hF72 => ?_))
                  rw [hF72]
                  have hsk : shN s z w k = tru (wds (cur s) z.toNat) (wds (cur s) k) := if_neg (by omega)
                  refine r_istore (lv' := [(0, .ref (ad (0))), (1, .int (iI ((z.toNat : Nat) : Int))), (2, .int (iI (w))), (3, .int (iI ((nea (shN s z w) z.toNat k).1))), (4, .int (iI ((nea (shN s z w) z.toNat k).2))), (5, .int (iI ((k : Nat) : Int))), (6, .ref (ad (83))), (7, .int (iI ((tru (wds (cur s) z.toNat) (wds (cur s) k) : Nat) : Int)))]) C dX3_nearest_87 (by decide) rfl ?_
                  have hsl := shN_le ho.1 z w (by omega) k
                  refine r_iload C dX3_nearest_89 rfl ?_
                  refine r_iload C dX3_nearest_91 rfl ?_
                  have hnr := nea_rng (sh := shN s z w) z.toNat (M := 640000) (fun o => shN_le ho.1 z w (by omega) o) (n := k)
                  refine r_icmp_le (tgt := 103) C ⟨by omega, by omega⟩ ⟨by omega, by omega⟩ dX3_nearest_93 (by decide) (fun b73 => ?_) (fun b73 => ?_)
                  · refine r_iinc (lv' := [(0, .ref (ad (0))), (1, .int (iI ((z.toNat : Nat) : Int))), (2, .int (iI (w))), (3, .int (iI ((nea (shN s z w) z.toNat k).1))), (4, .int (iI ((nea (shN s z w) z.toNat k).2))), (5, .int (iI ((k + 1 : Nat) : Int))), (6, .ref (ad (83))), (7, .int (iI ((tru (wds (cur s) z.toNat) (wds (cur s) k) : Nat) : Int)))]) C ((k + 1 : Nat) : Int) (by omega) dX3_nearest_103 rfl (by decide) rfl ?_
                    refine r_lveq (lv' := [(0, .ref (ad (0))), (1, .int (iI ((z.toNat : Nat) : Int))), (2, .int (iI (w))), (3, .int (iI ((nea (shN s z w) z.toNat (k + 1)).1))), (4, .int (iI ((nea (shN s z w) z.toNat (k + 1)).2))), (5, .int (iI ((k + 1 : Nat) : Int))), (6, .ref (ad (83))), (7, .int (iI ((tru (wds (cur s) z.toNat) (wds (cur s) k) : Nat) : Int)))]) (by rw [nea_old (sh := shN s z w) (by omega) (by omega)]) ?_
                    refine r_goto (tgt := 31) C dX3_nearest_106 (by decide) ?_
                    refine r_sub (ks := [0, 1, 2, 3, 4, 5]) (lv' := [(0, .ref (ad (0))), (1, .int (iI ((z.toNat : Nat) : Int))), (2, .int (iI (w))), (3, .int (iI ((nea (shN s z w) z.toNat (k + 1)).1))), (4, .int (iI ((nea (shN s z w) z.toNat (k + 1)).2))), (5, .int (iI ((k + 1 : Nat) : Int)))]) rfl ?_
                    exact ih48 (k + 1) f68 (fun q hq => ((ow59 _ (by omega))).trans (ho45 _ (by omega))) hx57 (by omega) (by omega)
                  · refine r_iload C dX3_nearest_96 rfl ?_
                    refine r_istore (lv' := [(0, .ref (ad (0))), (1, .int (iI ((z.toNat : Nat) : Int))), (2, .int (iI (w))), (3, .int (iI ((nea (shN s z w) z.toNat k).1))), (4, .int (iI ((tru (wds (cur s) z.toNat) (wds (cur s) k) : Nat) : Int))), (5, .int (iI ((k : Nat) : Int))), (6, .ref (ad (83))), (7, .int (iI ((tru (wds (cur s) z.toNat) (wds (cur s) k) : Nat) : Int)))]) C dX3_nearest_98 (by decide) rfl ?_
                    refine r_iload C dX3_nearest_100 rfl ?_
                    refine r_istore_n (lv' := [(0, .ref (ad (0))), (1, .int (iI ((z.toNat : Nat) : Int))), (2, .int (iI (w))), (3, .int (iI ((k : Nat) : Int))), (4, .int (iI ((tru (wds (cur s) z.toNat) (wds (cur s) k) : Nat) : Int))), (5, .int (iI ((k : Nat) : Int))), (6, .ref (ad (83))), (7, .int (iI ((tru (wds (cur s) z.toNat) (wds (cur s) k) : Nat) : Int)))]) C dX3_nearest_102 rfl (by decide) rfl ?_
                    refine r_iinc (lv' := [(0, .ref (ad (0))), (1, .int (iI ((z.toNat : Nat) : Int))), (2, .int (iI (w))), (3, .int (iI ((k : Nat) : Int))), (4, .int (iI ((tru (wds (cur s) z.toNat) (wds (cur s) k) : Nat) : Int))), (5, .int (iI ((k + 1 : Nat) : Int))), (6, .ref (ad (83))), (7, .int (iI ((tru (wds (cur s) z.toNat) (wds (cur s) k) : Nat) : Int)))]) C ((k + 1 : Nat) : Int) (by omega) dX3_nearest_103 rfl (by decide) rfl ?_
                    refine r_lveq (lv' := [(0, .ref (ad (0))), (1, .int (iI ((z.toNat : Nat) : Int))), (2, .int (iI (w))), (3, .int (iI ((nea (shN s z w) z.toNat (k + 1)).1))), (4, .int (iI ((nea (shN s z w) z.toNat (k + 1)).2))), (5, .int (iI ((k + 1 : Nat) : Int))), (6, .ref (ad (83))), (7, .int (iI ((tru (wds (cur s) z.toNat) (wds (cur s) k) : Nat) : Int)))]) (by rw [nea_new (sh := shN s z w) (by omega) (by omega), hsk]) ?_
                    refine r_goto (tgt := 31) C dX3_nearest_106 (by decide) ?_
                    refine r_sub (ks := [0, 1, 2, 3, 4, 5]) (lv' := [(0, .ref (ad (0))), (1, .int (iI ((z.toNat : Nat) : Int))), (2, .int (iI (w))), (3, .int (iI ((nea (shN s z w) z.toNat (k + 1)).1))), (4, .int (iI ((nea (shN s z w) z.toNat (k + 1)).2))), (5, .int (iI ((k + 1 : Nat) : Int)))]) rfl ?_
                    exact ih48 (k + 1) f68 (fun q hq => ((ow59 _ (by omega))).trans (ho45 _ (by omega))) hx57 (by omega) (by omega)
                · obtain ⟨x74, ⟨x75, x76, x77, x78⟩, -⟩ := id hx57
                  refine r_aload C dX3_nearest_65 rfl ?_
                  refine r_aload_n C dX3_nearest_67 rfl rfl ?_
                  refine r_get (v := .ref (ad (1))) C (by omega) x74 (show vwCl[3]? = some (RX3, TX3, 11) from rfl) m1 0 (by decide) m0 rfl rfl dX3_nearest_68 ?_
                  refine r_get (v := .ref (ad (2))) C (by omega) x75 (show vwCl[1]? = some (RX1, TX1, 4) from rfl) m3 0 (by decide) m4 rfl rfl dX3_nearest_71 ?_
                  refine r_iconst C ((1 : Nat) : Int) (by decide) dX3_nearest_74 ?_
                  refine r_iald (x := (iI (((cur s).1 1 : Nat) : Int))) C (by omega) x76 (1) rfl (by omega) (Nat.le_of_ble_eq_true rfl) (rfl) dX3_nearest_75 ?_
                  refine r_callV (As := [.int (iI (((cur s).1 1 : Nat) : Int))]) (rest := []) (na := 1) C (c_X0_toldShare G tc l ad N _ (wds (cur s) z.toNat) (wds (cur s) k) (wds_le ho.1 (by omega)) (wds_le ho.1 (by omega)) (wds_lt _ _) (wds_lt _ _) hN hp58 ((cur s).1 1) a3 a4) gX3_nearest_X0_toldShare rfl rfl rfl (by decide +kernel) ⟨Nat.le_of_ble_eq_true rfl, Nat.le_of_ble_eq_true rfl⟩ (by omega) p63 (show vwCl[0]? = some (RX0, TX0, 7) from rfl) rfl rfl (Nat.le_of_ble_eq_true rfl) dX3_nearest_76 ⟨Nat.le_of_ble_eq_true rfl, Nat.le_of_ble_eq_true rfl⟩ (aft_I (fun f79 hF80 => ?_))
                  rw [hF80]
                  refine r_goto (tgt := 87) C dX3_nearest_79 (by decide) ?_
                  have hsk : shN s z w k = tol (wds (cur s) z.toNat) (wds (cur s) k) ((cur s).1 1) := if_pos (by omega)
                  refine r_istore (lv' := [(0, .ref (ad (0))), (1, .int (iI ((z.toNat : Nat) : Int))), (2, .int (iI (w))), (3, .int (iI ((nea (shN s z w) z.toNat k).1))), (4, .int (iI ((nea (shN s z w) z.toNat k).2))), (5, .int (iI ((k : Nat) : Int))), (6, .ref (ad (83))), (7, .int (iI ((tol (wds (cur s) z.toNat) (wds (cur s) k) ((cur s).1 1) : Nat) : Int)))]) C dX3_nearest_87 (by decide) rfl ?_
                  have hsl := shN_le ho.1 z w (by omega) k
                  refine r_iload C dX3_nearest_89 rfl ?_
                  refine r_iload C dX3_nearest_91 rfl ?_
                  have hnr := nea_rng (sh := shN s z w) z.toNat (M := 640000) (fun o => shN_le ho.1 z w (by omega) o) (n := k)
                  refine r_icmp_le (tgt := 103) C ⟨by omega, by omega⟩ ⟨by omega, by omega⟩ dX3_nearest_93 (by decide) (fun b81 => ?_) (fun b81 => ?_)
                  · refine r_iinc (lv' := [(0, .ref (ad (0))), (1, .int (iI ((z.toNat : Nat) : Int))), (2, .int (iI (w))), (3, .int (iI ((nea (shN s z w) z.toNat k).1))), (4, .int (iI ((nea (shN s z w) z.toNat k).2))), (5, .int (iI ((k + 1 : Nat) : Int))), (6, .ref (ad (83))), (7, .int (iI ((tol (wds (cur s) z.toNat) (wds (cur s) k) ((cur s).1 1) : Nat) : Int)))]) C ((k + 1 : Nat) : Int) (by omega) dX3_nearest_103 rfl (by decide) rfl ?_
                    refine r_lveq (lv' := [(0, .ref (ad (0))), (1, .int (iI ((z.toNat : Nat) : Int))), (2, .int (iI (w))), (3, .int (iI ((nea (shN s z w) z.toNat (k + 1)).1))), (4, .int (iI ((nea (shN s z w) z.toNat (k + 1)).2))), (5, .int (iI ((k + 1 : Nat) : Int))), (6, .ref (ad (83))), (7, .int (iI ((tol (wds (cur s) z.toNat) (wds (cur s) k) ((cur s).1 1) : Nat) : Int)))]) (by rw [nea_old (sh := shN s z w) (by omega) (by omega)]) ?_
                    refine r_goto (tgt := 31) C dX3_nearest_106 (by decide) ?_
                    refine r_sub (ks := [0, 1, 2, 3, 4, 5]) (lv' := [(0, .ref (ad (0))), (1, .int (iI ((z.toNat : Nat) : Int))), (2, .int (iI (w))), (3, .int (iI ((nea (shN s z w) z.toNat (k + 1)).1))), (4, .int (iI ((nea (shN s z w) z.toNat (k + 1)).2))), (5, .int (iI ((k + 1 : Nat) : Int)))]) rfl ?_
                    exact ih48 (k + 1) f68 (fun q hq => ((ow59 _ (by omega))).trans (ho45 _ (by omega))) hx57 (by omega) (by omega)
                  · refine r_iload C dX3_nearest_96 rfl ?_
                    refine r_istore (lv' := [(0, .ref (ad (0))), (1, .int (iI ((z.toNat : Nat) : Int))), (2, .int (iI (w))), (3, .int (iI ((nea (shN s z w) z.toNat k).1))), (4, .int (iI ((tol (wds (cur s) z.toNat) (wds (cur s) k) ((cur s).1 1) : Nat) : Int))), (5, .int (iI ((k : Nat) : Int))), (6, .ref (ad (83))), (7, .int (iI ((tol (wds (cur s) z.toNat) (wds (cur s) k) ((cur s).1 1) : Nat) : Int)))]) C dX3_nearest_98 (by decide) rfl ?_
                    refine r_iload C dX3_nearest_100 rfl ?_
                    refine r_istore_n (lv' := [(0, .ref (ad (0))), (1, .int (iI ((z.toNat : Nat) : Int))), (2, .int (iI (w))), (3, .int (iI ((k : Nat) : Int))), (4, .int (iI ((tol (wds (cur s) z.toNat) (wds (cur s) k) ((cur s).1 1) : Nat) : Int))), (5, .int (iI ((k : Nat) : Int))), (6, .ref (ad (83))), (7, .int (iI ((tol (wds (cur s) z.toNat) (wds (cur s) k) ((cur s).1 1) : Nat) : Int)))]) C dX3_nearest_102 rfl (by decide) rfl ?_
                    refine r_iinc (lv' := [(0, .ref (ad (0))), (1, .int (iI ((z.toNat : Nat) : Int))), (2, .int (iI (w))), (3, .int (iI ((k : Nat) : Int))), (4, .int (iI ((tol (wds (cur s) z.toNat) (wds (cur s) k) ((cur s).1 1) : Nat) : Int))), (5, .int (iI ((k + 1 : Nat) : Int))), (6, .ref (ad (83))), (7, .int (iI ((tol (wds (cur s) z.toNat) (wds (cur s) k) ((cur s).1 1) : Nat) : Int)))]) C ((k + 1 : Nat) : Int) (by omega) dX3_nearest_103 rfl (by decide) rfl ?_
                    refine r_lveq (lv' := [(0, .ref (ad (0))), (1, .int (iI ((z.toNat : Nat) : Int))), (2, .int (iI (w))), (3, .int (iI ((nea (shN s z w) z.toNat (k + 1)).1))), (4, .int (iI ((nea (shN s z w) z.toNat (k + 1)).2))), (5, .int (iI ((k + 1 : Nat) : Int))), (6, .ref (ad (83))), (7, .int (iI ((tol (wds (cur s) z.toNat) (wds (cur s) k) ((cur s).1 1) : Nat) : Int)))]) (by rw [nea_new (sh := shN s z w) (by omega) (by omega), hsk]) ?_
                    refine r_goto (tgt := 31) C dX3_nearest_106 (by decide) ?_
                    refine r_sub (ks := [0, 1, 2, 3, 4, 5]) (lv' := [(0, .ref (ad (0))), (1, .int (iI ((z.toNat : Nat) : Int))), (2, .int (iI (w))), (3, .int (iI ((nea (shN s z w) z.toNat (k + 1)).1))), (4, .int (iI ((nea (shN s z w) z.toNat (k + 1)).2))), (5, .int (iI ((k + 1 : Nat) : Int)))]) rfl ?_
                    exact ih48 (k + 1) f68 (fun q hq => ((ow59 _ (by omega))).trans (ho45 _ (by omega))) hx57 (by omega) (by omega)
              · refine r_goto (tgt := 103) C dX3_nearest_49 (by decide) ?_
                refine r_iinc (lv' := [(0, .ref (ad (0))), (1, .int (iI ((z.toNat : Nat) : Int))), (2, .int (iI (w))), (3, .int (iI ((nea (shN s z w) z.toNat k).1))), (4, .int (iI ((nea (shN s z w) z.toNat k).2))), (5, .int (iI ((k + 1 : Nat) : Int)))]) C ((k + 1 : Nat) : Int) (by omega) dX3_nearest_103 rfl (by decide) rfl ?_
                refine r_lveq (lv' := [(0, .ref (ad (0))), (1, .int (iI ((z.toNat : Nat) : Int))), (2, .int (iI (w))), (3, .int (iI ((nea (shN s z w) z.toNat (k + 1)).1))), (4, .int (iI ((nea (shN s z w) z.toNat (k + 1)).2))), (5, .int (iI ((k + 1 : Nat) : Int)))]) (by rw [nea_skip (sh := shN s z w) (by omega)]) ?_
                refine r_goto (tgt := 31) C dX3_nearest_106 (by decide) ?_
                exact ih48 (k + 1) f44 (fun q hq => (ho45 _ (by omega))) hXl (by omega) (by omega)
        exact hL46 _ 0 f (fun _ _ => rfl) hX (by omega) (Nat.lt_succ_self _)
      · refine r_bipush C ((-2)) (by decide) dX3_nearest_19 ?_
        exact hret f ((-2)) _ _ dX3_nearest_21 (by unfold aNea; rw [if_pos (by omega), if_neg (by omega)]) (⟨hX, fun _ _ => rfl⟩)
  · refine r_iconst C ((-1)) (by decide) dX3_nearest_8 ?_
    exact hret f ((-1)) _ _ dX3_nearest_9 (by unfold aNea; rw [if_neg (by omega)]) (⟨hX, fun _ _ => rfl⟩)
set_option maxHeartbeats 4000000 in
set_option maxRecDepth 100000 in
/-- candidates -/
theorem c_X3_candidates (G : va_G) (tc : Nat → ClassId) (l : Launch) (ad : Nat → Nat) (N : Nat) (f : Nat → va_E) (s : SG) (hX : XI tc ad f s) (ho : okS s) (hN : 98 ≤ N) (z : Int) (hz : inR z)   : Ct G tc l yX3_candidates wsX3_candidates { frames := 5, cells := 0, slots := 0, locals := 116 } 0 0 [.ref (ad (0)), .int (iI (z))] ad N f (poI ad N (aCan s z) (fun f' => XI tc ad f' s ∧ ∀ q, 88 ≤ q → f' q = f q)) := by
  obtain ⟨h0, ⟨h1, h2, h3, h4⟩, hHis, hSlo, h40, hWds, hPr, hHd⟩ := id hX
  obtain ⟨⟨⟨a1, a2⟩, ⟨a3, a4⟩, ⟨a5, a6⟩, a7, a8, a9, a10⟩, o2, o3, o4, o5, o6⟩ := id ho
  refine stI (cc := cX3_candidates) (maxL := 6) (lv := [(0, .ref (ad (0))), (1, .int (iI (z)))]) (by decide) rfl (Nat.le_of_ble_eq_true rfl) rfl (fun X C hret => ?_)
  have m0 : Cond.fieldLink RX3 10 "WordSamples" "now" "LWordSamples$State;" ∈ wsX3_candidates := by decide +kernel
  have m1 : ∀ w ∈ wsX30, w ∈ wsX3_candidates := by decide +kernel
  have m2 : Cond.fieldLink RX3 67 "WordSamples$State" "settings" "[I" ∈ wsX3_candidates := by decide +kernel
  have m3 : ∀ w ∈ wsX10, w ∈ wsX3_candidates := by decide +kernel
  have m4 : Cond.fieldLink RX3 74 "WordSamples$State" "rows" "I" ∈ wsX3_candidates := by decide +kernel
  have m5 : Cond.methodLink RX3 168 Lib.Math.max.name ∈ wsX3_candidates := by decide +kernel
  have m6 : Cond.static Lib.Math.max.name ∈ wsX3_candidates := by decide +kernel
  have m7 : Cond.initialized "java/lang/Math" ∈ wsX3_candidates := by decide +kernel
  have m8 : Cond.code Lib.Math.max.name Lib.Math.max.code 2 (some .int) ∈ wsX3_candidates := by decide +kernel
  refine r_aload_n C dX3_candidates_0 rfl rfl ?_
  refine r_iload_n C dX3_candidates_1 rfl rfl ?_
  refine r_callV (As := [.int (iI (z))]) (rest := []) (na := 1) C (c_X3_noRow G tc l ad N _ s hX ho hN z hz) gX3_candidates_X3_noRow rfl rfl rfl (by decide +kernel) ⟨Nat.le_of_ble_eq_true rfl, Nat.le_of_ble_eq_true rfl⟩ (by omega) h0 (show vwCl[3]? = some (RX3, TX3, 11) from rfl) rfl rfl (Nat.le_of_ble_eq_true rfl) dX3_candidates_2 ⟨Nat.le_of_ble_eq_true rfl, Nat.le_of_ble_eq_true rfl⟩ (aft_I (fun f1 hF2 => ?_))
  rw [hF2]
  refine r_if_eq (tgt := 10) C ⟨by omega, by omega⟩ dX3_candidates_5 (by decide) (fun b3 => ?_) (fun b3 => ?_)
  · rw [show (.int (iI (z)) : Value) = .int (iI ((z.toNat : Nat) : Int)) from by rw [Int.toNat_of_nonneg (by omega)]]
    refine r_aload_n C dX3_candidates_10 rfl rfl ?_
    refine r_get (v := .ref (ad (1))) C (by omega) h0 (show vwCl[3]? = some (RX3, TX3, 11) from rfl) m1 0 (by decide) m0 rfl rfl dX3_candidates_11 ?_
    refine r_get (v := .ref (ad (2))) C (by omega) h1 (show vwCl[1]? = some (RX1, TX1, 4) from rfl) m3 0 (by decide) m2 rfl rfl dX3_candidates_14 ?_
    refine r_iconst C ((1 : Nat) : Int) (by decide) dX3_candidates_17 ?_
    refine r_iald (x := (iI (((cur s).1 1 : Nat) : Int))) C (by omega) h2 (1) rfl (by omega) (Nat.le_of_ble_eq_true rfl) (rfl) dX3_candidates_18 ?_
    refine r_istore_n (lv' := [(0, .ref (ad (0))), (1, .int (iI ((z.toNat : Nat) : Int))), (2, .int (iI (((cur s).1 1 : Nat) : Int)))]) C dX3_candidates_19 rfl (by decide) rfl ?_
    refine r_iconst C ((0 : Nat) : Int) (by decide) dX3_candidates_20 ?_
    refine r_istore_n (lv' := [(0, .ref (ad (0))), (1, .int (iI ((z.toNat : Nat) : Int))), (2, .int (iI (((cur s).1 1 : Nat) : Int))), (3, .int (iI ((0 : Nat) : Int)))]) C dX3_candidates_21 rfl (by decide) rfl ?_
    refine r_iconst C ((0 : Nat) : Int) (by decide) dX3_candidates_22 ?_
    refine r_istore (lv' := [(0, .ref (ad (0))), (1, .int (iI ((z.toNat : Nat) : Int))), (2, .int (iI (((cur s).1 1 : Nat) : Int))), (3, .int (iI ((0 : Nat) : Int))), (4, .int (iI ((0 : Nat) : Int)))]) C dX3_candidates_23 (by decide) rfl ?_
    have hL6 : ∀ (m_7 : Nat) (k : Nat) (f4 : Nat → va_E) (ho5 : ∀ q, 88 ≤ q → f4 q = f q) (hXl : XI tc ad f4 s) (hk : k ≤ (cur s).2.2.2), (cur s).2.2.2 - k < m_7 → VV X ad N f4 0 0 25 [(0, .ref (ad (0))), (1, .int (iI ((z.toNat : Nat) : Int))), (2, .int (iI (((cur s).1 1 : Nat) : Int))), (3, .int (iI ((gre (fun o => low (wds (cur s) z.toNat) (wds (cur s) o) ((cur s).1 1)) z.toNat k : Nat) : Int))), (4, .int (iI ((k : Nat) : Int)))] [] := by
      intro m_7
      induction m_7 with
      | zero => intros; omega
      | succ m_7 ih8 =>
        intro k f4 ho5 hXl hk hm9
        obtain ⟨x10, ⟨x11, x12, x13, x14⟩, -⟩ := id hXl
        refine r_iload C dX3_candidates_25 rfl ?_
        refine r_aload_n C dX3_candidates_27 rfl rfl ?_
        refine r_get (v := .ref (ad (1))) C (by omega) x10 (show vwCl[3]? = some (RX3, TX3, 11) from rfl) m1 0 (by decide) m0 rfl rfl dX3_candidates_28 ?_
        refine r_get (v := .int (iI (((cur s).2.2.2 : Nat) : Int))) C (by omega) x11 (show vwCl[1]? = some (RX1, TX1, 4) from rfl) m3 3 (by decide) m4 rfl rfl dX3_candidates_31 ?_
        refine r_icmp_ge (tgt := 65) C ⟨by omega, by omega⟩ ⟨by omega, by omega⟩ dX3_candidates_34 (by decide) (fun b15 => ?_) (fun b15 => ?_)
        · have hke : k = (cur s).2.2.2 := by omega
          refine r_iconst C ((0 : Nat) : Int) (by decide) dX3_candidates_65 ?_
          refine r_lveq (lv' := [(0, .ref (ad (0))), (1, .int (iI ((z.toNat : Nat) : Int))), (2, .int (iI (((cur s).1 1 : Nat) : Int))), (3, .int (iI ((gre (fun o => low (wds (cur s) z.toNat) (wds (cur s) o) ((cur s).1 1)) z.toNat ((cur s).2.2.2) : Nat) : Int))), (4, .int (iI ((k : Nat) : Int)))]) (by rw [hke]) ?_
          refine r_istore (lv' := [(0, .ref (ad (0))), (1, .int (iI ((z.toNat : Nat) : Int))), (2, .int (iI (((cur s).1 1 : Nat) : Int))), (3, .int (iI ((gre (fun o => low (wds (cur s) z.toNat) (wds (cur s) o) ((cur s).1 1)) z.toNat ((cur s).2.2.2) : Nat) : Int))), (4, .int (iI ((0 : Nat) : Int)))]) C dX3_candidates_66 (by decide) rfl ?_
          refine r_iconst C ((0 : Nat) : Int) (by decide) dX3_candidates_68 ?_
          refine r_istore (lv' := [(0, .ref (ad (0))), (1, .int (iI ((z.toNat : Nat) : Int))), (2, .int (iI (((cur s).1 1 : Nat) : Int))), (3, .int (iI ((gre (fun o => low (wds (cur s) z.toNat) (wds (cur s) o) ((cur s).1 1)) z.toNat ((cur s).2.2.2) : Nat) : Int))), (4, .int (iI ((0 : Nat) : Int))), (5, .int (iI ((0 : Nat) : Int)))]) C dX3_candidates_69 (by decide) rfl ?_
          have hL18 : ∀ (m_19 : Nat) (k : Nat) (f16 : Nat → va_E) (ho17 : ∀ q, 88 ≤ q → f16 q = f4 q) (hXl : XI tc ad f16 s) (hk : k ≤ (cur s).2.2.2), (cur s).2.2.2 - k < m_19 → VV X ad N f16 0 0 71 [(0, .ref (ad (0))), (1, .int (iI ((z.toNat : Nat) : Int))), (2, .int (iI (((cur s).1 1 : Nat) : Int))), (3, .int (iI ((gre (fun o => low (wds (cur s) z.toNat) (wds (cur s) o) ((cur s).1 1)) z.toNat ((cur s).2.2.2) : Nat) : Int))), (4, .int (iI ((cnd (fun o => upp (wds (cur s) z.toNat) (wds (cur s) o) ((cur s).1 1)) (gre (fun o => low (wds (cur s) z.toNat) (wds (cur s) o) ((cur s).1 1)) z.toNat (cur s).2.2.2) z.toNat k : Nat) : Int))), (5, .int (iI ((k : Nat) : Int)))] [] := by
            intro m_19
            induction m_19 with
            | zero => intros; omega
            | succ m_19 ih20 =>
              intro k f16 ho17 hXl hk hm21
              obtain ⟨x22, ⟨x23, x24, x25, x26⟩, -⟩ := id hXl
              refine r_iload C dX3_candidates_71 rfl ?_
              refine r_aload_n C dX3_candidates_73 rfl rfl ?_
              refine r_get (v := .ref (ad (1))) C (by omega) x22 (show vwCl[3]? = some (RX3, TX3, 11) from rfl) m1 0 (by decide) m0 rfl rfl dX3_candidates_74 ?_
              refine r_get (v := .int (iI (((cur s).2.2.2 : Nat) : Int))) C (by omega) x23 (show vwCl[1]? = some (RX1, TX1, 4) from rfl) m3 3 (by decide) m4 rfl rfl dX3_candidates_77 ?_
              refine r_icmp_ge (tgt := 119) C ⟨by omega, by omega⟩ ⟨by omega, by omega⟩ dX3_candidates_80 (by decide) (fun b27 => ?_) (fun b27 => ?_)
              · refine r_iload C dX3_candidates_119 rfl ?_
                exact hret f16 ((cnd (fun o => upp (wds (cur s) z.toNat) (wds (cur s) o) ((cur s).1 1)) (gre (fun o => low (wds (cur s) z.toNat) (wds (cur s) o) ((cur s).1 1)) z.toNat (cur s).2.2.2) z.toNat k : Nat) : Int) _ _ dX3_candidates_121 (by unfold aCan; rw [if_pos (by omega), show (cur s).2.2.2 = k from by omega]) (⟨hXl, fun q hq => ((ho17 _ (by omega))).trans (ho5 _ (by omega))⟩)
              · refine r_iload C dX3_candidates_83 rfl ?_
                refine r_iload_n C dX3_candidates_85 rfl rfl ?_
                refine r_icmp_eq (tgt := 113) C ⟨by omega, by omega⟩ ⟨by omega, by omega⟩ dX3_candidates_86 (by decide) (fun b28 => ?_) (fun b28 => ?_)
                · refine r_iinc (lv' := [(0, .ref (ad (0))), (1, .int (iI ((z.toNat : Nat) : Int))), (2, .int (iI (((cur s).1 1 : Nat) : Int))), (3, .int (iI ((gre (fun o => low (wds (cur s) z.toNat) (wds (cur s) o) ((cur s).1 1)) z.toNat ((cur s).2.2.2) : Nat) : Int))), (4, .int (iI ((cnd (fun o => upp (wds (cur s) z.toNat) (wds (cur s) o) ((cur s).1 1)) (gre (fun o => low (wds (cur s) z.toNat) (wds (cur s) o) ((cur s).1 1)) z.toNat (cur s).2.2.2) z.toNat k : Nat) : Int))), (5, .int (iI ((k + 1 : Nat) : Int)))]) C ((k + 1 : Nat) : Int) (by omega) dX3_candidates_113 rfl (by decide) rfl ?_
                  refine r_lveq (lv' := [(0, .ref (ad (0))), (1, .int (iI ((z.toNat : Nat) : Int))), (2, .int (iI (((cur s).1 1 : Nat) : Int))), (3, .int (iI ((gre (fun o => low (wds (cur s) z.toNat) (wds (cur s) o) ((cur s).1 1)) z.toNat ((cur s).2.2.2) : Nat) : Int))), (4, .int (iI ((cnd (fun o => upp (wds (cur s) z.toNat) (wds (cur s) o) ((cur s).1 1)) (gre (fun o => low (wds (cur s) z.toNat) (wds (cur s) o) ((cur s).1 1)) z.toNat (cur s).2.2.2) z.toNat (k + 1) : Nat) : Int))), (5, .int (iI ((k + 1 : Nat) : Int)))]) (by rw [cnd_old (by omega)]) ?_
                  refine r_goto (tgt := 71) C dX3_candidates_116 (by decide) ?_
                  exact ih20 (k + 1) f16 (fun q hq => (ho17 _ (by omega))) hXl (by omega) (by omega)
                · have hgr := gre_le (lo := (fun o => low (wds (cur s) z.toNat) (wds (cur s) o) ((cur s).1 1))) z.toNat (M := 640000) (fun o ho2 => low_le (wds_le ho.1 (by omega)) (wds_lt _ _) (wds_lt _ _) _) (k := (cur s).2.2.2)
                  have hup := upp_le (wds_le ho.1 (r := z.toNat) (by omega)) (wds_le ho.1 (r := k) (by omega)) (wds_lt (cur s) z.toNat) (wds_lt (cur s) k) ((cur s).1 1)
                  refine r_aload_n C dX3_candidates_89 rfl rfl ?_
                  refine r_iload_n C dX3_candidates_90 rfl rfl ?_
                  refine r_iload C dX3_candidates_91 rfl ?_
                  refine r_callV (As := [.int (iI ((z.toNat : Nat) : Int)), .int (iI ((k : Nat) : Int))]) (rest := []) (na := 2) C (c_X3_pairOf G tc l ad N _ s hXl ho hN z.toNat k (by omega) (by omega)) gX3_candidates_X3_pairOf rfl rfl rfl (by decide +kernel) ⟨Nat.le_of_ble_eq_true rfl, Nat.le_of_ble_eq_true rfl⟩ (by omega) x22 (show vwCl[3]? = some (RX3, TX3, 11) from rfl) rfl rfl (Nat.le_of_ble_eq_true rfl) dX3_candidates_93 ⟨Nat.le_of_ble_eq_true rfl, Nat.le_of_ble_eq_true rfl⟩ (aft_A (fun f40 hF41 => ?_))
                  obtain ⟨hx29, hp30, ow31⟩ := hF41
                  obtain ⟨d32, d33, d34, p35, p36, p37, p38, hd39⟩ := id hp30
                  have hehp30 := eb_le (wds_lt (cur s) z.toNat) (wds_lt (cur s) k)
                  have hqhp30 := wds_le ho.1 (r := z.toNat) (by omega)
                  have hrhp30 := wds_le ho.1 (r := k) (by omega)
                  have hlhp30 := lcw_le (wds_lt (cur s) z.toNat) (wds_lt (cur s) k) ((cur s).1 1)
                  have hmhp30 := mcw_le (wds_lt (cur s) z.toNat) (wds_lt (cur s) k) ((cur s).1 1)
                  refine r_iload_n C dX3_candidates_96 rfl rfl ?_
                  refine r_callV (As := [.int (iI (((cur s).1 1 : Nat) : Int))]) (rest := []) (na := 1) C (c_X0_upperBound G tc l ad N _ (wds (cur s) z.toNat) (wds (cur s) k) (wds_le ho.1 (by omega)) (wds_le ho.1 (by omega)) (wds_lt _ _) (wds_lt _ _) hN hp30 ((cur s).1 1) a3 a4) gX3_candidates_X0_upperBound rfl rfl rfl (by decide +kernel) ⟨Nat.le_of_ble_eq_true rfl, Nat.le_of_ble_eq_true rfl⟩ (by omega) p35 (show vwCl[0]? = some (RX0, TX0, 7) from rfl) rfl rfl (Nat.le_of_ble_eq_true rfl) dX3_candidates_97 ⟨Nat.le_of_ble_eq_true rfl, Nat.le_of_ble_eq_true rfl⟩ (aft_I (fun f42 hF43 => ?_))
                  rw [hF43]
                  refine r_iload_n C dX3_candidates_100 rfl rfl ?_
                  refine r_icmp_lt (tgt := 113) C ⟨by omega, by omega⟩ ⟨by omega, by omega⟩ dX3_candidates_101 (by decide) (fun b44 => ?_) (fun b44 => ?_)
                  · refine r_iinc (lv' := [(0, .ref (ad (0))), (1, .int (iI ((z.toNat : Nat) : Int))), (2, .int (iI (((cur s).1 1 : Nat) : Int))), (3, .int (iI ((gre (fun o => low (wds (cur s) z.toNat) (wds (cur s) o) ((cur s).1 1)) z.toNat ((cur s).2.2.2) : Nat) : Int))), (4, .int (iI ((cnd (fun o => upp (wds (cur s) z.toNat) (wds (cur s) o) ((cur s).1 1)) (gre (fun o => low (wds (cur s) z.toNat) (wds (cur s) o) ((cur s).1 1)) z.toNat (cur s).2.2.2) z.toNat k : Nat) : Int))), (5, .int (iI ((k + 1 : Nat) : Int)))]) C ((k + 1 : Nat) : Int) (by omega) dX3_candidates_113 rfl (by decide) rfl ?_
                    refine r_lveq (lv' := [(0, .ref (ad (0))), (1, .int (iI ((z.toNat : Nat) : Int))), (2, .int (iI (((cur s).1 1 : Nat) : Int))), (3, .int (iI ((gre (fun o => low (wds (cur s) z.toNat) (wds (cur s) o) ((cur s).1 1)) z.toNat ((cur s).2.2.2) : Nat) : Int))), (4, .int (iI ((cnd (fun o => upp (wds (cur s) z.toNat) (wds (cur s) o) ((cur s).1 1)) (gre (fun o => low (wds (cur s) z.toNat) (wds (cur s) o) ((cur s).1 1)) z.toNat (cur s).2.2.2) z.toNat (k + 1) : Nat) : Int))), (5, .int (iI ((k + 1 : Nat) : Int)))]) (by rw [cnd_old (by omega)]) ?_
                    refine r_goto (tgt := 71) C dX3_candidates_116 (by decide) ?_
                    exact ih20 (k + 1) f40 (fun q hq => ((ow31 _ (by omega))).trans (ho17 _ (by omega))) hx29 (by omega) (by omega)
                  · refine r_iload C dX3_candidates_104 rfl ?_
                    refine r_iconst C ((1 : Nat) : Int) (by decide) dX3_candidates_106 ?_
                    refine r_iload C dX3_candidates_107 rfl ?_
                    refine r_ishl C dX3_candidates_109 ?_
                    rw [show (.int ((iI ((1 : Nat) : Int)) <<< ((iI ((k : Nat) : Int)) &&& 31)) : Value) = .int (iI ((2 ^ k : Nat) : Int)) from by rw [iI_shl1 (by omega)]]
                    refine r_ior C dX3_candidates_110 ?_
                    rw [show (.int ((iI ((cnd (fun o => upp (wds (cur s) z.toNat) (wds (cur s) o) ((cur s).1 1)) (gre (fun o => low (wds (cur s) z.toNat) (wds (cur s) o) ((cur s).1 1)) z.toNat (cur s).2.2.2) z.toNat k : Nat) : Int)) ||| (iI ((2 ^ k : Nat) : Int))) : Value) = .int (iI ((cnd (fun o => upp (wds (cur s) z.toNat) (wds (cur s) o) ((cur s).1 1)) (gre (fun o => low (wds (cur s) z.toNat) (wds (cur s) o) ((cur s).1 1)) z.toNat (cur s).2.2.2) z.toNat k ||| 2 ^ k : Nat) : Int)) from by rw [iI_or]]
                    refine r_istore (lv' := [(0, .ref (ad (0))), (1, .int (iI ((z.toNat : Nat) : Int))), (2, .int (iI (((cur s).1 1 : Nat) : Int))), (3, .int (iI ((gre (fun o => low (wds (cur s) z.toNat) (wds (cur s) o) ((cur s).1 1)) z.toNat ((cur s).2.2.2) : Nat) : Int))), (4, .int (iI ((cnd (fun o => upp (wds (cur s) z.toNat) (wds (cur s) o) ((cur s).1 1)) (gre (fun o => low (wds (cur s) z.toNat) (wds (cur s) o) ((cur s).1 1)) z.toNat (cur s).2.2.2) z.toNat k ||| 2 ^ k : Nat) : Int))), (5, .int (iI ((k : Nat) : Int)))]) C dX3_candidates_111 (by decide) rfl ?_
                    refine r_iinc (lv' := [(0, .ref (ad (0))), (1, .int (iI ((z.toNat : Nat) : Int))), (2, .int (iI (((cur s).1 1 : Nat) : Int))), (3, .int (iI ((gre (fun o => low (wds (cur s) z.toNat) (wds (cur s) o) ((cur s).1 1)) z.toNat ((cur s).2.2.2) : Nat) : Int))), (4, .int (iI ((cnd (fun o => upp (wds (cur s) z.toNat) (wds (cur s) o) ((cur s).1 1)) (gre (fun o => low (wds (cur s) z.toNat) (wds (cur s) o) ((cur s).1 1)) z.toNat (cur s).2.2.2) z.toNat k ||| 2 ^ k : Nat) : Int))), (5, .int (iI ((k + 1 : Nat) : Int)))]) C ((k + 1 : Nat) : Int) (by omega) dX3_candidates_113 rfl (by decide) rfl ?_
                    refine r_lveq (lv' := [(0, .ref (ad (0))), (1, .int (iI ((z.toNat : Nat) : Int))), (2, .int (iI (((cur s).1 1 : Nat) : Int))), (3, .int (iI ((gre (fun o => low (wds (cur s) z.toNat) (wds (cur s) o) ((cur s).1 1)) z.toNat ((cur s).2.2.2) : Nat) : Int))), (4, .int (iI ((cnd (fun o => upp (wds (cur s) z.toNat) (wds (cur s) o) ((cur s).1 1)) (gre (fun o => low (wds (cur s) z.toNat) (wds (cur s) o) ((cur s).1 1)) z.toNat (cur s).2.2.2) z.toNat (k + 1) : Nat) : Int))), (5, .int (iI ((k + 1 : Nat) : Int)))]) (by rw [cnd_new (by omega) (by omega)]) ?_
                    refine r_goto (tgt := 71) C dX3_candidates_116 (by decide) ?_
                    exact ih20 (k + 1) f40 (fun q hq => ((ow31 _ (by omega))).trans (ho17 _ (by omega))) hx29 (by omega) (by omega)
          exact hL18 _ 0 f4 (fun _ _ => rfl) hXl (by omega) (Nat.lt_succ_self _)
        · refine r_iload C dX3_candidates_37 rfl ?_
          refine r_iload_n C dX3_candidates_39 rfl rfl ?_
          refine r_icmp_eq (tgt := 59) C ⟨by omega, by omega⟩ ⟨by omega, by omega⟩ dX3_candidates_40 (by decide) (fun b45 => ?_) (fun b45 => ?_)
          · refine r_iinc (lv' := [(0, .ref (ad (0))), (1, .int (iI ((z.toNat : Nat) : Int))), (2, .int (iI (((cur s).1 1 : Nat) : Int))), (3, .int (iI ((gre (fun o => low (wds (cur s) z.toNat) (wds (cur s) o) ((cur s).1 1)) z.toNat k : Nat) : Int))), (4, .int (iI ((k + 1 : Nat) : Int)))]) C ((k + 1 : Nat) : Int) (by omega) dX3_candidates_59 rfl (by decide) rfl ?_
            refine r_lveq (lv' := [(0, .ref (ad (0))), (1, .int (iI ((z.toNat : Nat) : Int))), (2, .int (iI (((cur s).1 1 : Nat) : Int))), (3, .int (iI ((gre (fun o => low (wds (cur s) z.toNat) (wds (cur s) o) ((cur s).1 1)) z.toNat (k + 1) : Nat) : Int))), (4, .int (iI ((k + 1 : Nat) : Int)))]) (by rw [gre_skip (by omega)]) ?_
            refine r_goto (tgt := 25) C dX3_candidates_62 (by decide) ?_
            exact ih8 (k + 1) f4 (fun q hq => (ho5 _ (by omega))) hXl (by omega) (by omega)
          · have hgr := gre_le (lo := (fun o => low (wds (cur s) z.toNat) (wds (cur s) o) ((cur s).1 1))) z.toNat (M := 640000) (fun o ho2 => low_le (wds_le ho.1 (by omega)) (wds_lt _ _) (wds_lt _ _) _) (k := k)
            have hlo := low_le (wds_le ho.1 (r := z.toNat) (by omega)) (wds_lt (cur s) z.toNat) (wds_lt (cur s) k) ((cur s).1 1)
            refine r_iload_n C dX3_candidates_43 rfl rfl ?_
            refine r_aload_n C dX3_candidates_44 rfl rfl ?_
            refine r_iload_n C dX3_candidates_45 rfl rfl ?_
            refine r_iload C dX3_candidates_46 rfl ?_
            refine r_callV (As := [.int (iI ((z.toNat : Nat) : Int)), .int (iI ((k : Nat) : Int))]) (rest := [.int (iI ((gre (fun o => low (wds (cur s) z.toNat) (wds (cur s) o) ((cur s).1 1)) z.toNat k : Nat) : Int))]) (na := 2) C (c_X3_pairOf G tc l ad N _ s hXl ho hN z.toNat k (by omega) (by omega)) gX3_candidates_X3_pairOf rfl rfl rfl (by decide +kernel) ⟨Nat.le_of_ble_eq_true rfl, Nat.le_of_ble_eq_true rfl⟩ (by omega) x10 (show vwCl[3]? = some (RX3, TX3, 11) from rfl) rfl rfl (Nat.le_of_ble_eq_true rfl) dX3_candidates_48 ⟨Nat.le_of_ble_eq_true rfl, Nat.le_of_ble_eq_true rfl⟩ (aft_A (fun f57 hF58 => ?_))
            obtain ⟨hx46, hp47, ow48⟩ := hF58
            obtain ⟨d49, d50, d51, p52, p53, p54, p55, hd56⟩ := id hp47
            have hehp47 := eb_le (wds_lt (cur s) z.toNat) (wds_lt (cur s) k)
            have hqhp47 := wds_le ho.1 (r := z.toNat) (by omega)
            have hrhp47 := wds_le ho.1 (r := k) (by omega)
            have hlhp47 := lcw_le (wds_lt (cur s) z.toNat) (wds_lt (cur s) k) ((cur s).1 1)
            have hmhp47 := mcw_le (wds_lt (cur s) z.toNat) (wds_lt (cur s) k) ((cur s).1 1)
            refine r_iload_n C dX3_candidates_51 rfl rfl ?_
            refine r_callV (As := [.int (iI (((cur s).1 1 : Nat) : Int))]) (rest := [.int (iI ((gre (fun o => low (wds (cur s) z.toNat) (wds (cur s) o) ((cur s).1 1)) z.toNat k : Nat) : Int))]) (na := 1) C (c_X0_lowerBound G tc l ad N _ (wds (cur s) z.toNat) (wds (cur s) k) (wds_le ho.1 (by omega)) (wds_le ho.1 (by omega)) (wds_lt _ _) (wds_lt _ _) hN hp47 ((cur s).1 1) a3 a4) gX3_candidates_X0_lowerBound rfl rfl rfl (by decide +kernel) ⟨Nat.le_of_ble_eq_true rfl, Nat.le_of_ble_eq_true rfl⟩ (by omega) p52 (show vwCl[0]? = some (RX0, TX0, 7) from rfl) rfl rfl (Nat.le_of_ble_eq_true rfl) dX3_candidates_52 ⟨Nat.le_of_ble_eq_true rfl, Nat.le_of_ble_eq_true rfl⟩ (aft_I (fun f59 hF60 => ?_))
            rw [hF60]
            refine r_max C ⟨m5, m6, m7, m8⟩ (Nat.le_of_ble_eq_true rfl) (Nat.le_of_ble_eq_true rfl) ⟨Nat.le_of_ble_eq_true rfl, Nat.le_of_ble_eq_true rfl⟩ ⟨by omega, by omega⟩ ⟨by omega, by omega⟩ dX3_candidates_55 ?_
            rw [show (.int (iI (max ((gre (fun o => low (wds (cur s) z.toNat) (wds (cur s) o) ((cur s).1 1)) z.toNat k : Nat) : Int) ((low (wds (cur s) z.toNat) (wds (cur s) k) ((cur s).1 1) : Nat) : Int))) : Value) = .int (iI ((max (gre (fun o => low (wds (cur s) z.toNat) (wds (cur s) o) ((cur s).1 1)) z.toNat k) (low (wds (cur s) z.toNat) (wds (cur s) k) ((cur s).1 1)) : Nat) : Int)) from by rw [show max _ _ = ((max (gre (fun o => low (wds (cur s) z.toNat) (wds (cur s) o) ((cur s).1 1)) z.toNat k) (low (wds (cur s) z.toNat) (wds (cur s) k) ((cur s).1 1)) : Nat) : Int) from by omega]]
            refine r_istore_n (lv' := [(0, .ref (ad (0))), (1, .int (iI ((z.toNat : Nat) : Int))), (2, .int (iI (((cur s).1 1 : Nat) : Int))), (3, .int (iI ((max (gre (fun o => low (wds (cur s) z.toNat) (wds (cur s) o) ((cur s).1 1)) z.toNat k) (low (wds (cur s) z.toNat) (wds (cur s) k) ((cur s).1 1)) : Nat) : Int))), (4, .int (iI ((k : Nat) : Int)))]) C dX3_candidates_58 rfl (by decide) rfl ?_
            refine r_iinc (lv' := [(0, .ref (ad (0))), (1, .int (iI ((z.toNat : Nat) : Int))), (2, .int (iI (((cur s).1 1 : Nat) : Int))), (3, .int (iI ((max (gre (fun o => low (wds (cur s) z.toNat) (wds (cur s) o) ((cur s).1 1)) z.toNat k) (low (wds (cur s) z.toNat) (wds (cur s) k) ((cur s).1 1)) : Nat) : Int))), (4, .int (iI ((k + 1 : Nat) : Int)))]) C ((k + 1 : Nat) : Int) (by omega) dX3_candidates_59 rfl (by decide) rfl ?_
            refine r_lveq (lv' := [(0, .ref (ad (0))), (1, .int (iI ((z.toNat : Nat) : Int))), (2, .int (iI (((cur s).1 1 : Nat) : Int))), (3, .int (iI ((gre (fun o => low (wds (cur s) z.toNat) (wds (cur s) o) ((cur s).1 1)) z.toNat (k + 1) : Nat) : Int))), (4, .int (iI ((k + 1 : Nat) : Int)))]) (by rw [gre_new (by omega)]) ?_
            refine r_goto (tgt := 25) C dX3_candidates_62 (by decide) ?_
            exact ih8 (k + 1) f57 (fun q hq => ((ow48 _ (by omega))).trans (ho5 _ (by omega))) hx46 (by omega) (by omega)
    exact hL6 _ 0 f (fun _ _ => rfl) hX (by omega) (Nat.lt_succ_self _)
  · refine r_iconst C ((-1)) (by decide) dX3_candidates_8 ?_
    exact hret f ((-1)) _ _ dX3_candidates_9 (by unfold aCan; rw [if_neg (by omega)]) (⟨hX, fun _ _ => rfl⟩)
set_option maxHeartbeats 4000000 in
set_option maxRecDepth 100000 in
/-- worst -/
theorem c_X3_worst (G : va_G) (tc : Nat → ClassId) (l : Launch) (ad : Nat → Nat) (N : Nat) (f : Nat → va_E) (s : SG) (hX : XI tc ad f s) (ho : okS s) (hN : 98 ≤ N) (w : Int) (hw : inR w)   : Ct G tc l yX3_worst wsX3_worst { frames := 5, cells := 0, slots := 0, locals := 116 } 0 0 [.ref (ad (0)), .int (iI (w))] ad N f (poI ad N (aWor s w) (fun f' => XI tc ad f' s ∧ ∀ q, 88 ≤ q → f' q = f q)) := by
  obtain ⟨h0, ⟨h1, h2, h3, h4⟩, hHis, hSlo, h40, hWds, hPr, hHd⟩ := id hX
  obtain ⟨⟨⟨a1, a2⟩, ⟨a3, a4⟩, ⟨a5, a6⟩, a7, a8, a9, a10⟩, o2, o3, o4, o5, o6⟩ := id ho
  refine stI (cc := cX3_worst) (maxL := 8) (lv := [(0, .ref (ad (0))), (1, .int (iI (w)))]) (by decide) rfl (Nat.le_of_ble_eq_true rfl) rfl (fun X C hret => ?_)
  have m0 : Cond.fieldLink RX3 10 "WordSamples" "now" "LWordSamples$State;" ∈ wsX3_worst := by decide +kernel
  have m1 : ∀ w ∈ wsX30, w ∈ wsX3_worst := by decide +kernel
  have m2 : Cond.fieldLink RX3 74 "WordSamples$State" "rows" "I" ∈ wsX3_worst := by decide +kernel
  have m3 : ∀ w ∈ wsX10, w ∈ wsX3_worst := by decide +kernel
  have m4 : Cond.fieldLink RX3 67 "WordSamples$State" "settings" "[I" ∈ wsX3_worst := by decide +kernel
  refine r_iload_n C dX3_worst_0 rfl rfl ?_
  refine r_if_lt (tgt := 9) C ⟨by omega, by omega⟩ dX3_worst_1 (by decide) (fun b1 => ?_) (fun b1 => ?_)
  · refine r_bipush C ((-2)) (by decide) dX3_worst_9 ?_
    exact hret f ((-2)) _ _ dX3_worst_11 (by unfold aWor; rw [if_neg (by omega)]) (⟨hX, fun _ _ => rfl⟩)
  · refine r_iload_n C dX3_worst_4 rfl rfl ?_
    refine r_iconst C ((2 : Nat) : Int) (by decide) dX3_worst_5 ?_
    refine r_icmp_le (tgt := 12) C ⟨by omega, by omega⟩ ⟨by omega, by omega⟩ dX3_worst_6 (by decide) (fun b2 => ?_) (fun b2 => ?_)
    · refine r_bipush C ((-6)) (by decide) dX3_worst_12 ?_
      refine r_istore_n (lv' := [(0, .ref (ad (0))), (1, .int (iI (w))), (2, .int (iI ((-6))))]) C dX3_worst_14 rfl (by decide) rfl ?_
      refine r_bipush C ((-6)) (by decide) dX3_worst_15 ?_
      refine r_istore_n (lv' := [(0, .ref (ad (0))), (1, .int (iI (w))), (2, .int (iI ((-6)))), (3, .int (iI ((-6))))]) C dX3_worst_17 rfl (by decide) rfl ?_
      refine r_bipush C ((-6)) (by decide) dX3_worst_18 ?_
      refine r_istore (lv' := [(0, .ref (ad (0))), (1, .int (iI (w))), (2, .int (iI ((-6)))), (3, .int (iI ((-6)))), (4, .int (iI ((-6))))]) C dX3_worst_20 (by decide) rfl ?_
      refine r_iconst C ((0 : Nat) : Int) (by decide) dX3_worst_22 ?_
      refine r_istore (lv' := [(0, .ref (ad (0))), (1, .int (iI (w))), (2, .int (iI ((-6)))), (3, .int (iI ((-6)))), (4, .int (iI ((-6)))), (5, .int (iI ((0 : Nat) : Int)))]) C dX3_worst_23 (by decide) rfl ?_
      have hL5 : ∀ (m_6 : Nat) (r : Nat) (f3 : Nat → va_E) (ho4 : ∀ q, 88 ≤ q → f3 q = f q) (hXl : XI tc ad f3 s) (hr : r ≤ (cur s).2.2.2), (cur s).2.2.2 - r < m_6 → VV X ad N f3 0 0 25 [(0, .ref (ad (0))), (1, .int (iI (w))), (2, .int (iI ((wro (fun r o => err (wds (cur s) r) (wds (cur s) o) ((cur s).1 1)) (cur s).2.2.2 (-6, -6, -6) r).1))), (3, .int (iI ((wro (fun r o => err (wds (cur s) r) (wds (cur s) o) ((cur s).1 1)) (cur s).2.2.2 (-6, -6, -6) r).2.1))), (4, .int (iI ((wro (fun r o => err (wds (cur s) r) (wds (cur s) o) ((cur s).1 1)) (cur s).2.2.2 (-6, -6, -6) r).2.2))), (5, .int (iI ((r : Nat) : Int)))] [] := by
        intro m_6
        induction m_6 with
        | zero => intros; omega
        | succ m_6 ih7 =>
          intro r f3 ho4 hXl hr hm8
          obtain ⟨x9, ⟨x10, x11, x12, x13⟩, -⟩ := id hXl
          refine r_iload C dX3_worst_25 rfl ?_
          refine r_aload_n C dX3_worst_27 rfl rfl ?_
          refine r_get (v := .ref (ad (1))) C (by omega) x9 (show vwCl[3]? = some (RX3, TX3, 11) from rfl) m1 0 (by decide) m0 rfl rfl dX3_worst_28 ?_
          refine r_get (v := .int (iI (((cur s).2.2.2 : Nat) : Int))) C (by omega) x10 (show vwCl[1]? = some (RX1, TX1, 4) from rfl) m3 3 (by decide) m2 rfl rfl dX3_worst_31 ?_
          refine r_icmp_ge (tgt := 106) C ⟨by omega, by omega⟩ ⟨by omega, by omega⟩ dX3_worst_34 (by decide) (fun b14 => ?_) (fun b14 => ?_)
          · refine r_iload_n C dX3_worst_106 rfl rfl ?_
            refine r_if_ne (tgt := 114) C ⟨by omega, by omega⟩ dX3_worst_107 (by decide) (fun b15 => ?_) (fun b15 => ?_)
            · refine r_iload_n C dX3_worst_114 rfl rfl ?_
              refine r_iconst C ((1 : Nat) : Int) (by decide) dX3_worst_115 ?_
              refine r_icmp_ne (tgt := 123) C ⟨by omega, by omega⟩ ⟨by omega, by omega⟩ dX3_worst_116 (by decide) (fun b16 => ?_) (fun b16 => ?_)
              · refine r_iload C dX3_worst_123 rfl ?_
                exact hret f3 ((wro (fun r o => err (wds (cur s) r) (wds (cur s) o) ((cur s).1 1)) (cur s).2.2.2 (-6, -6, -6) r).2.2) _ _ dX3_worst_125 (by unfold aWor; rw [if_pos (by omega), show (cur s).2.2.2 = r from by omega]; rw [if_neg (by omega), if_neg (by omega)]) (⟨hXl, fun q hq => (ho4 _ (by omega))⟩)
              · refine r_iload_n C dX3_worst_119 rfl rfl ?_
                refine r_goto (tgt := 125) C dX3_worst_120 (by decide) ?_
                exact hret f3 ((wro (fun r o => err (wds (cur s) r) (wds (cur s) o) ((cur s).1 1)) (cur s).2.2.2 (-6, -6, -6) r).2.1) _ _ dX3_worst_125 (by unfold aWor; rw [if_pos (by omega), show (cur s).2.2.2 = r from by omega]; rw [if_neg (by omega), if_pos (by omega)]) (⟨hXl, fun q hq => (ho4 _ (by omega))⟩)
            · refine r_iload_n C dX3_worst_110 rfl rfl ?_
              refine r_goto (tgt := 125) C dX3_worst_111 (by decide) ?_
              exact hret f3 ((wro (fun r o => err (wds (cur s) r) (wds (cur s) o) ((cur s).1 1)) (cur s).2.2.2 (-6, -6, -6) r).1) _ _ dX3_worst_125 (by unfold aWor; rw [if_pos (by omega), show (cur s).2.2.2 = r from by omega]; rw [if_pos (by omega)]) (⟨hXl, fun q hq => (ho4 _ (by omega))⟩)
          · refine r_iload C dX3_worst_37 rfl ?_
            refine r_iconst C ((1 : Nat) : Int) (by decide) dX3_worst_39 ?_
            refine r_iadd C ((r + 1 : Nat) : Int) (by omega) dX3_worst_40 ?_
            refine r_istore (lv' := [(0, .ref (ad (0))), (1, .int (iI (w))), (2, .int (iI ((wro (fun r o => err (wds (cur s) r) (wds (cur s) o) ((cur s).1 1)) (cur s).2.2.2 (-6, -6, -6) r).1))), (3, .int (iI ((wro (fun r o => err (wds (cur s) r) (wds (cur s) o) ((cur s).1 1)) (cur s).2.2.2 (-6, -6, -6) r).2.1))), (4, .int (iI ((wro (fun r o => err (wds (cur s) r) (wds (cur s) o) ((cur s).1 1)) (cur s).2.2.2 (-6, -6, -6) r).2.2))), (5, .int (iI ((r : Nat) : Int))), (6, .int (iI ((r + 1 : Nat) : Int)))]) C dX3_worst_41 (by decide) rfl ?_
            have hL19 : ∀ (m_20 : Nat) (d : Nat) (f17 : Nat → va_E) (ho18 : ∀ q, 88 ≤ q → f17 q = f3 q) (hXm : XI tc ad f17 s) (hd : r + 1 + d ≤ (cur s).2.2.2), (cur s).2.2.2 - (r + 1 + d) < m_20 → VV X ad N f17 0 0 43 [(0, .ref (ad (0))), (1, .int (iI (w))), (2, .int (iI ((wri (fun r o => err (wds (cur s) r) (wds (cur s) o) ((cur s).1 1)) r (wro (fun r o => err (wds (cur s) r) (wds (cur s) o) ((cur s).1 1)) (cur s).2.2.2 (-6, -6, -6) r) d).1))), (3, .int (iI ((wri (fun r o => err (wds (cur s) r) (wds (cur s) o) ((cur s).1 1)) r (wro (fun r o => err (wds (cur s) r) (wds (cur s) o) ((cur s).1 1)) (cur s).2.2.2 (-6, -6, -6) r) d).2.1))), (4, .int (iI ((wri (fun r o => err (wds (cur s) r) (wds (cur s) o) ((cur s).1 1)) r (wro (fun r o => err (wds (cur s) r) (wds (cur s) o) ((cur s).1 1)) (cur s).2.2.2 (-6, -6, -6) r) d).2.2))), (5, .int (iI ((r : Nat) : Int))), (6, .int (iI ((r + 1 + d : Nat) : Int)))] [] := by
              intro m_20
              induction m_20 with
              | zero => intros; omega
              | succ m_20 ih21 =>
                intro d f17 ho18 hXm hd hm22
                obtain ⟨x23, ⟨x24, x25, x26, x27⟩, -⟩ := id hXm
                refine r_iload C dX3_worst_43 rfl ?_
                refine r_aload_n C dX3_worst_45 rfl rfl ?_
                refine r_get (v := .ref (ad (1))) C (by omega) x23 (show vwCl[3]? = some (RX3, TX3, 11) from rfl) m1 0 (by decide) m0 rfl rfl dX3_worst_46 ?_
                refine r_get (v := .int (iI (((cur s).2.2.2 : Nat) : Int))) C (by omega) x24 (show vwCl[1]? = some (RX1, TX1, 4) from rfl) m3 3 (by decide) m2 rfl rfl dX3_worst_49 ?_
                refine r_icmp_ge (tgt := 100) C ⟨by omega, by omega⟩ ⟨by omega, by omega⟩ dX3_worst_52 (by decide) (fun b28 => ?_) (fun b28 => ?_)
                · refine r_iinc (lv' := [(0, .ref (ad (0))), (1, .int (iI (w))), (2, .int (iI ((wri (fun r o => err (wds (cur s) r) (wds (cur s) o) ((cur s).1 1)) r (wro (fun r o => err (wds (cur s) r) (wds (cur s) o) ((cur s).1 1)) (cur s).2.2.2 (-6, -6, -6) r) d).1))), (3, .int (iI ((wri (fun r o => err (wds (cur s) r) (wds (cur s) o) ((cur s).1 1)) r (wro (fun r o => err (wds (cur s) r) (wds (cur s) o) ((cur s).1 1)) (cur s).2.2.2 (-6, -6, -6) r) d).2.1))), (4, .int (iI ((wri (fun r o => err (wds (cur s) r) (wds (cur s) o) ((cur s).1 1)) r (wro (fun r o => err (wds (cur s) r) (wds (cur s) o) ((cur s).1 1)) (cur s).2.2.2 (-6, -6, -6) r) d).2.2))), (5, .int (iI ((r + 1 : Nat) : Int))), (6, .int (iI ((r + 1 + d : Nat) : Int)))]) C ((r + 1 : Nat) : Int) (by omega) dX3_worst_100 rfl (by decide) rfl ?_
                  refine r_lveq (lv' := [(0, .ref (ad (0))), (1, .int (iI (w))), (2, .int (iI ((wro (fun r o => err (wds (cur s) r) (wds (cur s) o) ((cur s).1 1)) (cur s).2.2.2 (-6, -6, -6) (r + 1)).1))), (3, .int (iI ((wro (fun r o => err (wds (cur s) r) (wds (cur s) o) ((cur s).1 1)) (cur s).2.2.2 (-6, -6, -6) (r + 1)).2.1))), (4, .int (iI ((wro (fun r o => err (wds (cur s) r) (wds (cur s) o) ((cur s).1 1)) (cur s).2.2.2 (-6, -6, -6) (r + 1)).2.2))), (5, .int (iI ((r + 1 : Nat) : Int))), (6, .int (iI ((r + 1 + d : Nat) : Int)))]) (by rw [wro, show (cur s).2.2.2 - (r + 1) = d from by omega]) ?_
                  refine r_goto (tgt := 25) C dX3_worst_103 (by decide) ?_
                  refine r_sub (ks := [0, 1, 2, 3, 4, 5]) (lv' := [(0, .ref (ad (0))), (1, .int (iI (w))), (2, .int (iI ((wro (fun r o => err (wds (cur s) r) (wds (cur s) o) ((cur s).1 1)) (cur s).2.2.2 (-6, -6, -6) (r + 1)).1))), (3, .int (iI ((wro (fun r o => err (wds (cur s) r) (wds (cur s) o) ((cur s).1 1)) (cur s).2.2.2 (-6, -6, -6) (r + 1)).2.1))), (4, .int (iI ((wro (fun r o => err (wds (cur s) r) (wds (cur s) o) ((cur s).1 1)) (cur s).2.2.2 (-6, -6, -6) (r + 1)).2.2))), (5, .int (iI ((r + 1 : Nat) : Int)))]) rfl ?_
                  exact ih7 (r + 1) f17 (fun q hq => ((ho18 _ (by omega))).trans (ho4 _ (by omega))) hXm (by omega) (by omega)
                · refine r_aload_n C dX3_worst_55 rfl rfl ?_
                  refine r_iload C dX3_worst_56 rfl ?_
                  refine r_iload C dX3_worst_58 rfl ?_
                  refine r_callV (As := [.int (iI ((r : Nat) : Int)), .int (iI ((r + 1 + d : Nat) : Int))]) (rest := []) (na := 2) C (c_X3_pairOf G tc l ad N _ s hXm ho hN r (r + 1 + d) (by omega) (by omega)) gX3_worst_X3_pairOf rfl rfl rfl (by decide +kernel) ⟨Nat.le_of_ble_eq_true rfl, Nat.le_of_ble_eq_true rfl⟩ (by omega) x23 (show vwCl[3]? = some (RX3, TX3, 11) from rfl) rfl rfl (Nat.le_of_ble_eq_true rfl) dX3_worst_60 ⟨Nat.le_of_ble_eq_true rfl, Nat.le_of_ble_eq_true rfl⟩ (aft_A (fun f40 hF41 => ?_))
                  obtain ⟨hx29, hp30, ow31⟩ := hF41
                  obtain ⟨d32, d33, d34, p35, p36, p37, p38, hd39⟩ := id hp30
                  have hehp30 := eb_le (wds_lt (cur s) r) (wds_lt (cur s) (r + 1 + d))
                  have hqhp30 := wds_le ho.1 (r := r) (by omega)
                  have hrhp30 := wds_le ho.1 (r := r + 1 + d) (by omega)
                  have hlhp30 := lcw_le (wds_lt (cur s) r) (wds_lt (cur s) (r + 1 + d)) ((cur s).1 1)
                  have hmhp30 := mcw_le (wds_lt (cur s) r) (wds_lt (cur s) (r + 1 + d)) ((cur s).1 1)
                  obtain ⟨x42, ⟨x43, x44, x45, x46⟩, -⟩ := id hx29
                  refine r_aload_n C dX3_worst_63 rfl rfl ?_
                  refine r_get (v := .ref (ad (1))) C (by omega) x42 (show vwCl[3]? = some (RX3, TX3, 11) from rfl) m1 0 (by decide) m0 rfl rfl dX3_worst_64 ?_
                  refine r_get (v := .ref (ad (2))) C (by omega) x43 (show vwCl[1]? = some (RX1, TX1, 4) from rfl) m3 0 (by decide) m4 rfl rfl dX3_worst_67 ?_
                  refine r_iconst C ((1 : Nat) : Int) (by decide) dX3_worst_70 ?_
                  refine r_iald (x := (iI (((cur s).1 1 : Nat) : Int))) C (by omega) x44 (1) rfl (by omega) (Nat.le_of_ble_eq_true rfl) (rfl) dX3_worst_71 ?_
                  refine r_callV (As := [.int (iI (((cur s).1 1 : Nat) : Int))]) (rest := []) (na := 1) C (c_X0_errorOfTold G tc l ad N _ (wds (cur s) r) (wds (cur s) (r + 1 + d)) (wds_le ho.1 (by omega)) (wds_le ho.1 (by omega)) (wds_lt _ _) (wds_lt _ _) hN hp30 ((cur s).1 1) a3 a4) gX3_worst_X0_errorOfTold rfl rfl rfl (by decide +kernel) ⟨Nat.le_of_ble_eq_true rfl, Nat.le_of_ble_eq_true rfl⟩ (by omega) p35 (show vwCl[0]? = some (RX0, TX0, 7) from rfl) rfl rfl (Nat.le_of_ble_eq_true rfl) dX3_worst_72 ⟨Nat.le_of_ble_eq_true rfl, Nat.le_of_ble_eq_true rfl⟩ (aft_I (fun f47 hF48 => ?_))
                  rw [hF48]
                  refine r_istore (lv' := [(0, .ref (ad (0))), (1, .int (iI (w))), (2, .int (iI ((wri (fun r o => err (wds (cur s) r) (wds (cur s) o) ((cur s).1 1)) r (wro (fun r o => err (wds (cur s) r) (wds (cur s) o) ((cur s).1 1)) (cur s).2.2.2 (-6, -6, -6) r) d).1))), (3, .int (iI ((wri (fun r o => err (wds (cur s) r) (wds (cur s) o) ((cur s).1 1)) r (wro (fun r o => err (wds (cur s) r) (wds (cur s) o) ((cur s).1 1)) (cur s).2.2.2 (-6, -6, -6) r) d).2.1))), (4, .int (iI ((wri (fun r o => err (wds (cur s) r) (wds (cur s) o) ((cur s).1 1)) r (wro (fun r o => err (wds (cur s) r) (wds (cur s) o) ((cur s).1 1)) (cur s).2.2.2 (-6, -6, -6) r) d).2.2))), (5, .int (iI ((r : Nat) : Int))), (6, .int (iI ((r + 1 + d : Nat) : Int))), (7, .int (iI ((err (wds (cur s) r) (wds (cur s) (r + 1 + d)) ((cur s).1 1) : Nat) : Int)))]) C dX3_worst_75 (by decide) rfl ?_
                  have hwr := wri_rng (er := (fun r o => err (wds (cur s) r) (wds (cur s) o) ((cur s).1 1))) (R := (cur s).2.2.2) (M := 640000) (fun r o h1 h2 => err_le (wds_le ho.1 (by omega)) (wds_le ho.1 (by omega)) (wds_lt _ _) (wds_lt _ _) _) (F0 := -6) (by omega) (r := r) (d := d) (by omega)
                  have her := err_le (wds_le ho.1 (r := r) (by omega)) (wds_le ho.1 (r := r + 1 + d) (by omega)) (wds_lt (cur s) r) (wds_lt (cur s) (r + 1 + d)) ((cur s).1 1)
                  refine r_iload C dX3_worst_77 rfl ?_
                  refine r_iload C dX3_worst_79 rfl ?_
                  refine r_icmp_le (tgt := 94) C ⟨by omega, by omega⟩ ⟨by omega, by omega⟩ dX3_worst_81 (by decide) (fun b49 => ?_) (fun b49 => ?_)
                  · refine r_iinc (lv' := [(0, .ref (ad (0))), (1, .int (iI (w))), (2, .int (iI ((wri (fun r o => err (wds (cur s) r) (wds (cur s) o) ((cur s).1 1)) r (wro (fun r o => err (wds (cur s) r) (wds (cur s) o) ((cur s).1 1)) (cur s).2.2.2 (-6, -6, -6) r) d).1))), (3, .int (iI ((wri (fun r o => err (wds (cur s) r) (wds (cur s) o) ((cur s).1 1)) r (wro (fun r o => err (wds (cur s) r) (wds (cur s) o) ((cur s).1 1)) (cur s).2.2.2 (-6, -6, -6) r) d).2.1))), (4, .int (iI ((wri (fun r o => err (wds (cur s) r) (wds (cur s) o) ((cur s).1 1)) r (wro (fun r o => err (wds (cur s) r) (wds (cur s) o) ((cur s).1 1)) (cur s).2.2.2 (-6, -6, -6) r) d).2.2))), (5, .int (iI ((r : Nat) : Int))), (6, .int (iI ((r + 1 + (d + 1) : Nat) : Int))), (7, .int (iI ((err (wds (cur s) r) (wds (cur s) (r + 1 + d)) ((cur s).1 1) : Nat) : Int)))]) C ((r + 1 + (d + 1) : Nat) : Int) (by omega) dX3_worst_94 rfl (by decide) rfl ?_
                    refine r_lveq (lv' := [(0, .ref (ad (0))), (1, .int (iI (w))), (2, .int (iI ((wri (fun r o => err (wds (cur s) r) (wds (cur s) o) ((cur s).1 1)) r (wro (fun r o => err (wds (cur s) r) (wds (cur s) o) ((cur s).1 1)) (cur s).2.2.2 (-6, -6, -6) r) (d + 1)).1))), (3, .int (iI ((wri (fun r o => err (wds (cur s) r) (wds (cur s) o) ((cur s).1 1)) r (wro (fun r o => err (wds (cur s) r) (wds (cur s) o) ((cur s).1 1)) (cur s).2.2.2 (-6, -6, -6) r) (d + 1)).2.1))), (4, .int (iI ((wri (fun r o => err (wds (cur s) r) (wds (cur s) o) ((cur s).1 1)) r (wro (fun r o => err (wds (cur s) r) (wds (cur s) o) ((cur s).1 1)) (cur s).2.2.2 (-6, -6, -6) r) (d + 1)).2.2))), (5, .int (iI ((r : Nat) : Int))), (6, .int (iI ((r + 1 + (d + 1) : Nat) : Int))), (7, .int (iI ((err (wds (cur s) r) (wds (cur s) (r + 1 + d)) ((cur s).1 1) : Nat) : Int)))]) (by rw [wri_old (by omega)]) ?_
                    refine r_goto (tgt := 43) C dX3_worst_97 (by decide) ?_
                    refine r_sub (ks := [0, 1, 2, 3, 4, 5, 6]) (lv' := [(0, .ref (ad (0))), (1, .int (iI (w))), (2, .int (iI ((wri (fun r o => err (wds (cur s) r) (wds (cur s) o) ((cur s).1 1)) r (wro (fun r o => err (wds (cur s) r) (wds (cur s) o) ((cur s).1 1)) (cur s).2.2.2 (-6, -6, -6) r) (d + 1)).1))), (3, .int (iI ((wri (fun r o => err (wds (cur s) r) (wds (cur s) o) ((cur s).1 1)) r (wro (fun r o => err (wds (cur s) r) (wds (cur s) o) ((cur s).1 1)) (cur s).2.2.2 (-6, -6, -6) r) (d + 1)).2.1))), (4, .int (iI ((wri (fun r o => err (wds (cur s) r) (wds (cur s) o) ((cur s).1 1)) r (wro (fun r o => err (wds (cur s) r) (wds (cur s) o) ((cur s).1 1)) (cur s).2.2.2 (-6, -6, -6) r) (d + 1)).2.2))), (5, .int (iI ((r : Nat) : Int))), (6, .int (iI ((r + 1 + (d + 1) : Nat) : Int)))]) rfl ?_
                    exact ih21 (d + 1) f40 (fun q hq => ((ow31 _ (by omega))).trans (ho18 _ (by omega))) hx29 (by omega) (by omega)
                  · refine r_iload C dX3_worst_84 rfl ?_
                    refine r_istore_n (lv' := [(0, .ref (ad (0))), (1, .int (iI (w))), (2, .int (iI ((r : Nat) : Int))), (3, .int (iI ((wri (fun r o => err (wds (cur s) r) (wds (cur s) o) ((cur s).1 1)) r (wro (fun r o => err (wds (cur s) r) (wds (cur s) o) ((cur s).1 1)) (cur s).2.2.2 (-6, -6, -6) r) d).2.1))), (4, .int (iI ((wri (fun r o => err (wds (cur s) r) (wds (cur s) o) ((cur s).1 1)) r (wro (fun r o => err (wds (cur s) r) (wds (cur s) o) ((cur s).1 1)) (cur s).2.2.2 (-6, -6, -6) r) d).2.2))), (5, .int (iI ((r : Nat) : Int))), (6, .int (iI ((r + 1 + d : Nat) : Int))), (7, .int (iI ((err (wds (cur s) r) (wds (cur s) (r + 1 + d)) ((cur s).1 1) : Nat) : Int)))]) C dX3_worst_86 rfl (by decide) rfl ?_
                    refine r_iload C dX3_worst_87 rfl ?_
                    refine r_istore_n (lv' := [(0, .ref (ad (0))), (1, .int (iI (w))), (2, .int (iI ((r : Nat) : Int))), (3, .int (iI ((r + 1 + d : Nat) : Int))), (4, .int (iI ((wri (fun r o => err (wds (cur s) r) (wds (cur s) o) ((cur s).1 1)) r (wro (fun r o => err (wds (cur s) r) (wds (cur s) o) ((cur s).1 1)) (cur s).2.2.2 (-6, -6, -6) r) d).2.2))), (5, .int (iI ((r : Nat) : Int))), (6, .int (iI ((r + 1 + d : Nat) : Int))), (7, .int (iI ((err (wds (cur s) r) (wds (cur s) (r + 1 + d)) ((cur s).1 1) : Nat) : Int)))]) C dX3_worst_89 rfl (by decide) rfl ?_
                    refine r_iload C dX3_worst_90 rfl ?_
                    refine r_istore (lv' := [(0, .ref (ad (0))), (1, .int (iI (w))), (2, .int (iI ((r : Nat) : Int))), (3, .int (iI ((r + 1 + d : Nat) : Int))), (4, .int (iI ((err (wds (cur s) r) (wds (cur s) (r + 1 + d)) ((cur s).1 1) : Nat) : Int))), (5, .int (iI ((r : Nat) : Int))), (6, .int (iI ((r + 1 + d : Nat) : Int))), (7, .int (iI ((err (wds (cur s) r) (wds (cur s) (r + 1 + d)) ((cur s).1 1) : Nat) : Int)))]) C dX3_worst_92 (by decide) rfl ?_
                    refine r_iinc (lv' := [(0, .ref (ad (0))), (1, .int (iI (w))), (2, .int (iI ((r : Nat) : Int))), (3, .int (iI ((r + 1 + d : Nat) : Int))), (4, .int (iI ((err (wds (cur s) r) (wds (cur s) (r + 1 + d)) ((cur s).1 1) : Nat) : Int))), (5, .int (iI ((r : Nat) : Int))), (6, .int (iI ((r + 1 + (d + 1) : Nat) : Int))), (7, .int (iI ((err (wds (cur s) r) (wds (cur s) (r + 1 + d)) ((cur s).1 1) : Nat) : Int)))]) C ((r + 1 + (d + 1) : Nat) : Int) (by omega) dX3_worst_94 rfl (by decide) rfl ?_
                    refine r_lveq (lv' := [(0, .ref (ad (0))), (1, .int (iI (w))), (2, .int (iI ((wri (fun r o => err (wds (cur s) r) (wds (cur s) o) ((cur s).1 1)) r (wro (fun r o => err (wds (cur s) r) (wds (cur s) o) ((cur s).1 1)) (cur s).2.2.2 (-6, -6, -6) r) (d + 1)).1))), (3, .int (iI ((wri (fun r o => err (wds (cur s) r) (wds (cur s) o) ((cur s).1 1)) r (wro (fun r o => err (wds (cur s) r) (wds (cur s) o) ((cur s).1 1)) (cur s).2.2.2 (-6, -6, -6) r) (d + 1)).2.1))), (4, .int (iI ((wri (fun r o => err (wds (cur s) r) (wds (cur s) o) ((cur s).1 1)) r (wro (fun r o => err (wds (cur s) r) (wds (cur s) o) ((cur s).1 1)) (cur s).2.2.2 (-6, -6, -6) r) (d + 1)).2.2))), (5, .int (iI ((r : Nat) : Int))), (6, .int (iI ((r + 1 + (d + 1) : Nat) : Int))), (7, .int (iI ((err (wds (cur s) r) (wds (cur s) (r + 1 + d)) ((cur s).1 1) : Nat) : Int)))]) (by rw [wri_new (by omega)]) ?_
                    refine r_goto (tgt := 43) C dX3_worst_97 (by decide) ?_
                    refine r_sub (ks := [0, 1, 2, 3, 4, 5, 6]) (lv' := [(0, .ref (ad (0))), (1, .int (iI (w))), (2, .int (iI ((wri (fun r o => err (wds (cur s) r) (wds (cur s) o) ((cur s).1 1)) r (wro (fun r o => err (wds (cur s) r) (wds (cur s) o) ((cur s).1 1)) (cur s).2.2.2 (-6, -6, -6) r) (d + 1)).1))), (3, .int (iI ((wri (fun r o => err (wds (cur s) r) (wds (cur s) o) ((cur s).1 1)) r (wro (fun r o => err (wds (cur s) r) (wds (cur s) o) ((cur s).1 1)) (cur s).2.2.2 (-6, -6, -6) r) (d + 1)).2.1))), (4, .int (iI ((wri (fun r o => err (wds (cur s) r) (wds (cur s) o) ((cur s).1 1)) r (wro (fun r o => err (wds (cur s) r) (wds (cur s) o) ((cur s).1 1)) (cur s).2.2.2 (-6, -6, -6) r) (d + 1)).2.2))), (5, .int (iI ((r : Nat) : Int))), (6, .int (iI ((r + 1 + (d + 1) : Nat) : Int)))]) rfl ?_
                    exact ih21 (d + 1) f40 (fun q hq => ((ow31 _ (by omega))).trans (ho18 _ (by omega))) hx29 (by omega) (by omega)
            exact hL19 _ 0 f3 (fun _ _ => rfl) hXl (by omega) (Nat.lt_succ_self _)
      exact hL5 _ 0 f (fun _ _ => rfl) hX (by omega) (Nat.lt_succ_self _)
    · refine r_bipush C ((-2)) (by decide) dX3_worst_9 ?_
      exact hret f ((-2)) _ _ dX3_worst_11 (by unfold aWor; rw [if_neg (by omega)]) (⟨hX, fun _ _ => rfl⟩)
end XN1
