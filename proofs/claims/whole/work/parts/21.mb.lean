section MB1
theorem cod_s (g : Nat → Nat) (st k : Nat) : cod g st (k + 1) = cod g st k * 27 + g (st + k) := rfl
/-- half h of the reference's rows holds these words -/
def MW (c v o n : Nat → Int32) (h : Nat) (w : WW) : Prop := n h = iI ((w.1 : Nat) : Int) ∧ ∀ j, j < w.1 → v (64 * h + j) = iI ((w.2.1 j : Nat) : Int) ∧ c (64 * h + j) = iI ((w.2.2.1 j : Nat) : Int) ∧ o (64 * h + j) = iI ((w.2.2.2 j : Nat) : Int)
/-- the other half is as it was -/
def KO (c' v' o' n' c v o n : Nat → Int32) (h : Nat) : Prop := (∀ j, (j < 64 * h ∨ 64 * h + 64 ≤ j) → c' j = c j ∧ v' j = v j ∧ o' j = o j) ∧ ∀ j, j ≠ h → n' j = n j
theorem ko_trans {c1 v1 o1 n1 c2 v2 o2 n2 c v o n : Nat → Int32} {h : Nat} (h1 : KO c1 v1 o1 n1 c2 v2 o2 n2 h) (h2 : KO c2 v2 o2 n2 c v o n h) : KO c1 v1 o1 n1 c v o n h :=
  ⟨fun j hj => ⟨(h1.1 j hj).1.trans (h2.1 j hj).1, (h1.1 j hj).2.1.trans (h2.1 j hj).2.1, (h1.1 j hj).2.2.trans (h2.1 j hj).2.2⟩, fun j hj => (h1.2 j hj).trans (h2.2 j hj)⟩
theorem ko_0 {c v o n : Nat → Int32} {h : Nat} {y : Int32} : KO c v o (upd n h y) c v o n h :=
  ⟨fun _ _ => ⟨rfl, rfl, rfl⟩, fun j hj => by unfold upd; rw [if_neg hj]⟩
theorem mw_0 {c v o n : Nat → Int32} {h : Nat} {g b c0 : Nat → Nat} : MW c v o (upd n h (iI ((0 : Nat) : Int))) h (0, g, b, c0) :=
  ⟨by unfold upd; rw [if_pos rfl], fun j hj => absurd hj (Nat.not_lt_zero _)⟩
theorem ko_hit {c v o n : Nat → Int32} {h k : Nat} {y : Int32} (hk : k < 64) : KO c v (upd o (64 * h + k) y) n c v o n h :=
  ⟨fun j hj => ⟨rfl, rfl, by unfold upd; rw [if_neg (by omega)]⟩, fun _ _ => rfl⟩
theorem mw_hit {c v o n : Nat → Int32} {h k x cd : Nat} {w : WW} (hW : MW c v o n h w) (hp : posn w.2.1 x w.1 = k) (hk : k < w.1) (hx : w.2.1 k = x) : MW c v (upd o (64 * h + k) (iI ((w.2.2.2 k + 1 : Nat) : Int))) n h (ins w x cd) := by
  have e : ins w x cd = (w.1, w.2.1, w.2.2.1, fun j => if j = k then w.2.2.2 j + 1 else w.2.2.2 j) := by
    unfold ins
    rw [hp, if_pos ⟨hk, hx⟩]
  rw [e]
  refine ⟨hW.1, fun j hj => ⟨(hW.2 j hj).1, (hW.2 j hj).2.1, ?_⟩⟩
  unfold upd
  dsimp only
  by_cases q : j = k
  · rw [if_pos (by omega), if_pos q, q]
  · rw [if_neg (by omega), if_neg q]
    exact (hW.2 j hj).2.2
def shf (a : Nat → Int32) (t lo : Nat) : Nat → Int32 := fun j => if lo < j ∧ j ≤ t then a (j - 1) else a j
theorem shf_0 (a : Nat → Int32) (t : Nat) : shf a t t = a := by
  funext j
  unfold shf
  rw [if_neg (by omega)]
theorem shf_s {a : Nat → Int32} {b t m : Nat} (hm : 0 < m) (ht : b + m ≤ t) : upd (shf a t (b + m)) (b + m) (shf a t (b + m) (b + (m - 1))) = shf a t (b + (m - 1)) := by
  funext j
  unfold upd shf
  by_cases q : j = b + m
  · rw [if_pos q, if_neg (by omega), if_pos (by omega), q, show b + m - 1 = b + (m - 1) from by omega]
  · rw [if_neg q]
    by_cases q2 : b + m < j ∧ j ≤ t
    · rw [if_pos q2, if_pos (by omega)]
    · rw [if_neg q2, if_neg (by omega)]
theorem shf_row {a : Nat → Int32} {b : Nat → Nat} {B m k y : Nat} (hk : k ≤ m) (h : ∀ j, j < m → a (B + j) = iI ((b j : Nat) : Int)) : ∀ j, j < m + 1 → upd (shf a (B + m) (B + k)) (B + k) (iI ((y : Nat) : Int)) (B + j) = iI ((insF b m k y j : Nat) : Int) := by
  intro j hj
  unfold upd shf insF
  by_cases h1 : j = k
  · rw [if_pos (by omega), if_neg (by omega), if_pos h1]
  · rw [if_neg (by omega)]
    by_cases h2 : j < k
    · rw [if_neg (by omega), if_pos h2]
      exact h j (by omega)
    · rw [if_pos (by omega), if_neg h2, if_neg h1, if_pos (by omega), show B + j - 1 = B + (j - 1) from by omega, h _ (by omega)]
theorem shf_out {a : Nat → Int32} {B m k j : Nat} {y : Int32} (hm : m ≤ 63) (hk : k ≤ m) (hj : j < B ∨ B + 64 ≤ j) : upd (shf a (B + m) (B + k)) (B + k) y j = a j := by
  unfold upd shf
  rw [if_neg (by omega), if_neg (by omega)]
theorem ko_new {c v o n : Nat → Int32} {h k m : Nat} {y1 y2 y3 y4 : Int32} (hm : m ≤ 63) (hk : k ≤ m) : KO (upd (shf c (64 * h + m) (64 * h + k)) (64 * h + k) y1) (upd (shf v (64 * h + m) (64 * h + k)) (64 * h + k) y2) (upd (shf o (64 * h + m) (64 * h + k)) (64 * h + k) y3) (upd n h y4) c v o n h :=
  ⟨fun j hj => ⟨shf_out hm hk hj, shf_out hm hk hj, shf_out hm hk hj⟩, fun j hj => by unfold upd; rw [if_neg hj]⟩
theorem mw_new {c v o n : Nat → Int32} {h k x cd : Nat} {w : WW} (hW : MW c v o n h w) (hp : posn w.2.1 x w.1 = k) (hn : ¬ (k < w.1 ∧ w.2.1 k = x)) : MW (upd (shf c (64 * h + w.1) (64 * h + k)) (64 * h + k) (iI ((cd : Nat) : Int))) (upd (shf v (64 * h + w.1) (64 * h + k)) (64 * h + k) (iI ((x : Nat) : Int))) (upd (shf o (64 * h + w.1) (64 * h + k)) (64 * h + k) (iI ((1 : Nat) : Int))) (upd n h (iI ((w.1 + 1 : Nat) : Int))) h (ins w x cd) := by
  have hk : k ≤ w.1 := by rw [← hp]; exact posn_le _ _ _
  have e : ins w x cd = (w.1 + 1, insF w.2.1 w.1 k x, insF w.2.2.1 w.1 k cd, insF w.2.2.2 w.1 k 1) := by
    unfold ins
    rw [hp, if_neg hn]
  rw [e]
  exact ⟨by unfold upd; rw [if_pos rfl], fun j hj => ⟨shf_row hk (fun j hj => (hW.2 j hj).1) j hj, shf_row hk (fun j hj => (hW.2 j hj).2.1) j hj, shf_row hk (fun j hj => (hW.2 j hj).2.2) j hj⟩⟩
theorem mw_keep {c v o n c' v' o' n' : Nat → Int32} {h h2 : Nat} {w : WW} (hW : MW c v o n h w) (hO : KO c' v' o' n' c v o n h2) (hne : h ≠ h2) (hw : w.1 ≤ 64) : MW c' v' o' n' h w :=
  ⟨(hO.2 h hne).trans hW.1, fun j hj => ⟨(hO.1 _ (by omega)).2.1.trans (hW.2 j hj).1, (hO.1 _ (by omega)).1.trans (hW.2 j hj).2.1, (hO.1 _ (by omega)).2.2.trans (hW.2 j hj).2.2⟩⟩
theorem mw_v0 {c v o n : Nat → Int32} {w : WW} (hW : MW c v o n 0 w) : ∀ j, j < w.1 → v j = iI ((w.2.1 j : Nat) : Int) := fun j hj => by
  have := (hW.2 j hj).1
  rw [show 64 * 0 + j = j from by omega] at this
  exact this
theorem mw_c0 {c v o n : Nat → Int32} {w : WW} (hW : MW c v o n 0 w) : ∀ j, j < w.1 → c j = iI ((w.2.2.1 j : Nat) : Int) := fun j hj => by
  have := (hW.2 j hj).2.1
  rw [show 64 * 0 + j = j from by omega] at this
  exact this
theorem mw_o0 {c v o n : Nat → Int32} {w : WW} (hW : MW c v o n 0 w) : ∀ j, j < w.1 → o j = iI ((w.2.2.2 j : Nat) : Int) := fun j hj => by
  have := (hW.2 j hj).2.2
  rw [show 64 * 0 + j = j from by omega] at this
  exact this
theorem mw_v1 {c v o n : Nat → Int32} {w : WW} (hW : MW c v o n 1 w) : ∀ j, j < w.1 → v (64 + j) = iI ((w.2.1 j : Nat) : Int) := fun j hj => (hW.2 j hj).1
theorem M_re {tc : Nat → ClassId} {ad : Nat → Nat} {s : SG} {f f' : Nat → va_E} {x1 x2 x3 x4 : Int32} {c v o n : Nat → Int32} (hM : MI tc ad f s) (h88 : f' 88 = oM ad (kno s) (pln s) x1 x2 x3 x4) (h94 : f' 94 = eI tc 128 c) (h95 : f' 95 = eI tc 128 v) (h96 : f' 96 = eI tc 128 o) (h97 : f' 97 = eI tc 2 n) (hfr : ∀ q, 89 ≤ q → q < 94 → f' q = f q) : MI tc ad f' s := by
  obtain ⟨-, h2, h3, h4, ⟨g, h5, h5'⟩, h6, h7⟩ := hM
  exact ⟨⟨_, _, _, _, h88⟩, (hfr _ (by omega) (by omega)).trans h2, h3.fr (hfr _ (by omega) (by omega)), h4.fr (hfr _ (by omega) (by omega)), ⟨g, (hfr _ (by omega) (by omega)).trans h5, h5'⟩, (hfr _ (by omega) (by omega)).trans h6, ⟨_, _, _, _, h94, h95, h96, h97⟩⟩
theorem vatN_or (w : WW) (i : Nat) : (i < w.1 ∧ vatN w i = w.2.1 i) ∨ (w.1 ≤ i ∧ vatN w i = 1000003) := by
  unfold vatN
  split
  · exact Or.inl ⟨by assumption, rfl⟩
  · exact Or.inr ⟨by omega, rfl⟩
def rst (a b : WW) (kp : Nat) : Nat := min (a.1 - (mg a b (cmw a b kp)).1) (b.1 - (mg a b (cmw a b kp)).2.1)
theorem mcw_rst (a b : WW) (kp : Nat) : mcw a b kp = lcw a b kp + rst a b kp := rfl
theorem cnt_le {a b : WW} (ha : ∀ j, j < a.1 → a.2.1 j < 1000003) (hb : ∀ j, j < b.1 → b.2.1 j < 1000003) : ∀ d t, (mg a b t).1 + (mg a b t).2.1 = t + (mg a b t).2.2 → a.1 + b.1 ≤ t + d → t ≤ eit a b := by
  intro d
  induction d with
  | zero =>
    intro t hc hd
    have h := mg_in ha hb t
    have := mg_fin ha hb (k := t) (by omega) (by omega) hc
    omega
  | succ d ih =>
    intro t hc hd
    have h := mg_in ha hb t
    have n1 := vatN_end ha (mg a b t).1
    have n2 := vatN_end hb (mg a b t).2.1
    by_cases hn : vatN a (mg a b t).1 = 1000003 ∧ vatN b (mg a b t).2.1 = 1000003
    · have := mg_fin ha hb (k := t) (by omega) (by omega) hc
      omega
    · obtain ⟨s1, s2, s3⟩ := mg_step a b t hn
      have := ih (t + 1) (by omega) (by omega)
      omega
theorem cmw_at {a b : WW} {kp t : Nat} (ha : ∀ j, j < a.1 → a.2.1 j < 1000003) (hb : ∀ j, j < b.1 → b.2.1 j < 1000003) (hc : (mg a b t).1 + (mg a b t).2.1 = t + (mg a b t).2.2) (hk : t ≤ kp) (he : kp ≤ t ∨ (a.1 ≤ (mg a b t).1 ∧ b.1 ≤ (mg a b t).2.1)) : t = cmw a b kp := by
  have h1 := cnt_le ha hb (a.1 + b.1) t hc (by omega)
  unfold cmw
  rcases he with he | ⟨h2, h3⟩
  · omega
  · have := mg_fin ha hb h2 h3 hc
    omega
theorem mg_over {a b : WW} (ha : ∀ j, j < a.1 → a.2.1 j < 1000003) (hb : ∀ j, j < b.1 → b.2.1 j < 1000003) {t : Nat} (h : a.1 ≤ (mg a b t).1 ∨ b.1 ≤ (mg a b t).2.1) : ∀ d, (mg a b (t + d)).2.2 = (mg a b t).2.2 ∧ (mg a b t).1 ≤ (mg a b (t + d)).1 ∧ (mg a b t).2.1 ≤ (mg a b (t + d)).2.1
  | 0 => ⟨rfl, Nat.le_refl _, Nat.le_refl _⟩
  | d + 1 => by
    have ih := mg_over ha hb h d
    have n1 := vatN_end ha (mg a b (t + d)).1
    have n2 := vatN_end hb (mg a b (t + d)).2.1
    show (mg a b (t + d + 1)).2.2 = _ ∧ _ ≤ (mg a b (t + d + 1)).1 ∧ _ ≤ (mg a b (t + d + 1)).2.1
    by_cases hn : vatN a (mg a b (t + d)).1 = 1000003 ∧ vatN b (mg a b (t + d)).2.1 = 1000003
    · rw [mg, if_pos hn]
      exact ih
    · obtain ⟨s1, s2, s3⟩ := mg_step a b (t + d) hn
      omega
theorem mg_rest {a b : WW} (ha : ∀ j, j < a.1 → a.2.1 j < 1000003) (hb : ∀ j, j < b.1 → b.2.1 j < 1000003) {t : Nat} (h : a.1 ≤ (mg a b t).1 ∨ b.1 ≤ (mg a b t).2.1) (hc : (mg a b t).1 + (mg a b t).2.1 = t + (mg a b t).2.2) : (mg a b t).2.2 = bth a b := by
  have h1 := mg_in ha hb t
  have h2 := (mg_over ha hb h (a.1 + b.1 - t)).1
  rw [show t + (a.1 + b.1 - t) = a.1 + b.1 from by omega] at h2
  exact h2.symm
set_option maxHeartbeats 4000000 in
set_option maxRecDepth 100000 in
/-- codeAt(r, p) -/
theorem c_X4_codeAt (G : va_G) (tc : Nat → ClassId) (l : Launch) (ad : Nat → Nat) (N : Nat) (f : Nat → va_E) (s : SG) (hM : MI tc ad f s) (ho : okS s) (hN : 98 ≤ N) (r p : Nat) (hr : r < 10) (hp : p + (cur s).1 0 ≤ 64)   : Ct G tc l yX4_codeAt wsX4_codeAt { frames := 1, cells := 0, slots := 0, locals := 22 } 0 0 [.ref (ad (88)), .int (iI ((r : Nat) : Int)), .int (iI ((p : Nat) : Int))] ad N f (poI ad N (((cod (cur s).2.2.1 (r * 64 + p) ((cur s).1 0) : Nat) : Int)) (fun f' => f' = f)) := by
  obtain ⟨⟨x1, x2, x3, x4, m88⟩, m89', ⟨bb, m90, hbb⟩, ⟨sb, m91, hsb⟩, ⟨ig, m92, hig⟩, m93, ⟨wc, wv, wo, wn, m94, m95, m96, m97⟩⟩ := id hM
  have m89 : f 89 = eI tc 655 (fun j => iI ((nwF ((cur s).1, (cur s).2.1, (cur s).2.2.1, (cur s).2.2.2) j : Nat) : Int)) := m89'
  obtain ⟨⟨⟨a1, a2⟩, ⟨a3, a4⟩, ⟨a5, a6⟩, a7, a8, a9, a10⟩, o2, o3, o4, o5, o6⟩ := id ho
  refine stI (cc := cX4_codeAt) (maxL := 5) (lv := [(0, .ref (ad (88))), (1, .int (iI ((r : Nat) : Int))), (2, .int (iI ((p : Nat) : Int)))]) (by decide) rfl (Nat.le_of_ble_eq_true rfl) rfl (fun X C hret => ?_)
  have m0 : Cond.fieldLink RX4 7 "WordSamplesModel" "now" "[I" ∈ wsX4_codeAt := by decide +kernel
  have m1 : ∀ w ∈ wsX40, w ∈ wsX4_codeAt := by decide +kernel
  refine r_iconst C ((0 : Nat) : Int) (by decide) dX4_codeAt_0 ?_
  refine r_istore_n (lv' := [(0, .ref (ad (88))), (1, .int (iI ((r : Nat) : Int))), (2, .int (iI ((p : Nat) : Int))), (3, .int (iI ((0 : Nat) : Int)))]) C dX4_codeAt_1 rfl (by decide) rfl ?_
  refine r_iconst C ((0 : Nat) : Int) (by decide) dX4_codeAt_2 ?_
  refine r_istore (lv' := [(0, .ref (ad (88))), (1, .int (iI ((r : Nat) : Int))), (2, .int (iI ((p : Nat) : Int))), (3, .int (iI ((0 : Nat) : Int))), (4, .int (iI ((0 : Nat) : Int)))]) C dX4_codeAt_3 (by decide) rfl ?_
  have hL1 : ∀ (m_2 : Nat) (k : Nat) (hk : k ≤ (cur s).1 0), (cur s).1 0 - k < m_2 → VV X ad N f 0 0 5 [(0, .ref (ad (88))), (1, .int (iI ((r : Nat) : Int))), (2, .int (iI ((p : Nat) : Int))), (3, .int (iI ((cod (cur s).2.2.1 (r * 64 + p) k : Nat) : Int))), (4, .int (iI ((k : Nat) : Int)))] [] := by
    intro m_2
    induction m_2 with
    | zero => intros; omega
    | succ m_2 ih3 =>
      intro k hk hm4
      refine r_iload C dX4_codeAt_5 rfl ?_
      refine r_aload_n C dX4_codeAt_7 rfl rfl ?_
      refine r_get (v := .ref (ad (89))) C (by omega) m88 (show vwCl[4]? = some (RX4, TX4, 15) from rfl) m1 0 (by decide) m0 rfl rfl dX4_codeAt_8 ?_
      refine r_iconst C ((0 : Nat) : Int) (by decide) dX4_codeAt_11 ?_
      refine r_iald (x := (iI (((cur s).1 0 : Nat) : Int))) C (by omega) m89 (0) rfl (by omega) (Nat.le_of_ble_eq_true rfl) (rfl) dX4_codeAt_12 ?_
      refine r_icmp_ge (tgt := 37) C ⟨by omega, by omega⟩ ⟨by omega, by omega⟩ dX4_codeAt_13 (by decide) (fun b5 => ?_) (fun b5 => ?_)
      · refine r_iload_n C dX4_codeAt_37 rfl rfl ?_
        exact hret f ((cod (cur s).2.2.1 (r * 64 + p) k : Nat) : Int) _ _ dX4_codeAt_38 (by rw [show k = (cur s).1 0 from by omega]) rfl
      · refine r_bipush C ((27 : Nat) : Int) (by decide) dX4_codeAt_16 ?_
        refine r_iload_n C dX4_codeAt_18 rfl rfl ?_
        refine r_imul C ((27 * (cod (cur s).2.2.1 (r * 64 + p) k) : Nat) : Int) (by omega) dX4_codeAt_19 ?_
        refine r_aload_n C dX4_codeAt_20 rfl rfl ?_
        refine r_iload_n C dX4_codeAt_21 rfl rfl ?_
        refine r_iload_n C dX4_codeAt_22 rfl rfl ?_
        refine r_iload C dX4_codeAt_23 rfl ?_
        refine r_iadd C ((p + k : Nat) : Int) (by omega) dX4_codeAt_25 ?_
        refine r_callV (As := [.int (iI ((r : Nat) : Int)), .int (iI ((p + k : Nat) : Int))]) (rest := [.int (iI ((27 * (cod (cur s).2.2.1 (r * 64 + p) k) : Nat) : Int))]) (na := 2) C (c_X4_at G tc l ad N _ s hM ho hN r (p + k) hr (by omega)) gX4_codeAt_X4_at rfl rfl rfl (by decide +kernel) ⟨Nat.le_of_ble_eq_true rfl, Nat.le_of_ble_eq_true rfl⟩ (by omega) m88 (show vwCl[4]? = some (RX4, TX4, 15) from rfl) rfl rfl (Nat.le_of_ble_eq_true rfl) dX4_codeAt_26 ⟨Nat.le_of_ble_eq_true rfl, Nat.le_of_ble_eq_true rfl⟩ (aft_I (fun f6 hF7 => ?_))
        rw [hF7]
        refine r_iadd C ((cod (cur s).2.2.1 (r * 64 + p) (k + 1) : Nat) : Int) (by rw [cod_s, show r * 64 + (p + k) = r * 64 + p + k from by omega]; omega) dX4_codeAt_29 ?_
        refine r_istore_n (lv' := [(0, .ref (ad (88))), (1, .int (iI ((r : Nat) : Int))), (2, .int (iI ((p : Nat) : Int))), (3, .int (iI ((cod (cur s).2.2.1 (r * 64 + p) (k + 1) : Nat) : Int))), (4, .int (iI ((k : Nat) : Int)))]) C dX4_codeAt_30 rfl (by decide) rfl ?_
        refine r_iinc (lv' := [(0, .ref (ad (88))), (1, .int (iI ((r : Nat) : Int))), (2, .int (iI ((p : Nat) : Int))), (3, .int (iI ((cod (cur s).2.2.1 (r * 64 + p) (k + 1) : Nat) : Int))), (4, .int (iI ((k + 1 : Nat) : Int)))]) C ((k + 1 : Nat) : Int) (by omega) dX4_codeAt_31 rfl (by decide) rfl ?_
        refine r_goto (tgt := 5) C dX4_codeAt_34 (by decide) ?_
        exact ih3 (k + 1) (by omega) (by omega)
  exact hL1 _ 0 (by omega) (Nat.lt_succ_self _)
set_option maxHeartbeats 4000000 in
set_option maxRecDepth 100000 in
/-- valueOf(c) -/
theorem c_X4_valueOf (G : va_G) (tc : Nat → ClassId) (l : Launch) (ad : Nat → Nat) (N : Nat) (f : Nat → va_E) (s : SG) (hM : MI tc ad f s) (ho : okS s) (hN : 98 ≤ N) (c : Nat) (hc : c ≤ 531440)   : Ct G tc l yX4_valueOf wsX4_valueOf { frames := 0, cells := 0, slots := 0, locals := 0 } 0 0 [.ref (ad (88)), .int (iI ((c : Nat) : Int))] ad N f (poI ad N (((vlu ((cur s).1 2) ((cur s).1 3) c : Nat) : Int)) (fun f' => f' = f)) := by
  obtain ⟨⟨x1, x2, x3, x4, m88⟩, m89', ⟨bb, m90, hbb⟩, ⟨sb, m91, hsb⟩, ⟨ig, m92, hig⟩, m93, ⟨wc, wv, wo, wn, m94, m95, m96, m97⟩⟩ := id hM
  have m89 : f 89 = eI tc 655 (fun j => iI ((nwF ((cur s).1, (cur s).2.1, (cur s).2.2.1, (cur s).2.2.2) j : Nat) : Int)) := m89'
  obtain ⟨⟨⟨a1, a2⟩, ⟨a3, a4⟩, ⟨a5, a6⟩, a7, a8, a9, a10⟩, o2, o3, o4, o5, o6⟩ := id ho
  refine stI (cc := cX4_valueOf) (maxL := 2) (lv := [(0, .ref (ad (88))), (1, .int (iI ((c : Nat) : Int)))]) (by decide) rfl (Nat.le_of_ble_eq_true rfl) rfl (fun X C hret => ?_)
  have m0 : Cond.fieldLink RX4 7 "WordSamplesModel" "now" "[I" ∈ wsX4_valueOf := by decide +kernel
  have m1 : ∀ w ∈ wsX40, w ∈ wsX4_valueOf := by decide +kernel
  have m2 : Cond.constantLong RX4 84 (1000003) ∈ wsX4_valueOf := by decide +kernel
  have hM2 : c * (cur s).1 2 ≤ 531440 * 1000002 := Nat.mul_le_mul hc a6
  have hV := vlu_lt ((cur s).1 2) ((cur s).1 3) c
  refine r_iload_n C dX4_valueOf_0 rfl rfl ?_
  refine r_i2l C dX4_valueOf_1 ?_
  rw [show (.long (((iI ((c : Nat) : Int))).toInt64) : Value) = .long (jI ((c : Nat) : Int)) from by rw [iI_long (by omega)]]
  refine r_aload_n C dX4_valueOf_2 rfl rfl ?_
  refine r_get (v := .ref (ad (89))) C (by omega) m88 (show vwCl[4]? = some (RX4, TX4, 15) from rfl) m1 0 (by decide) m0 rfl rfl dX4_valueOf_3 ?_
  refine r_iconst C ((2 : Nat) : Int) (by decide) dX4_valueOf_6 ?_
  refine r_iald (x := (iI (((cur s).1 2 : Nat) : Int))) C (by omega) m89 (2) rfl (by omega) (Nat.le_of_ble_eq_true rfl) (rfl) dX4_valueOf_7 ?_
  refine r_i2l C dX4_valueOf_8 ?_
  rw [show (.long (((iI (((cur s).1 2 : Nat) : Int))).toInt64) : Value) = .long (jI (((cur s).1 2 : Nat) : Int)) from by rw [iI_long (by omega)]]
  refine r_lmul C dX4_valueOf_9 ?_
  rw [show (.long ((jI ((c : Nat) : Int)) * (jI (((cur s).1 2 : Nat) : Int))) : Value) = .long (jI ((c * (cur s).1 2 : Nat) : Int)) from by rw [jI_mul]]
  refine r_aload_n C dX4_valueOf_10 rfl rfl ?_
  refine r_get (v := .ref (ad (89))) C (by omega) m88 (show vwCl[4]? = some (RX4, TX4, 15) from rfl) m1 0 (by decide) m0 rfl rfl dX4_valueOf_11 ?_
  refine r_iconst C ((3 : Nat) : Int) (by decide) dX4_valueOf_14 ?_
  refine r_iald (x := (iI (((cur s).1 3 : Nat) : Int))) C (by omega) m89 (3) rfl (by omega) (Nat.le_of_ble_eq_true rfl) (rfl) dX4_valueOf_15 ?_
  refine r_i2l C dX4_valueOf_16 ?_
  rw [show (.long (((iI (((cur s).1 3 : Nat) : Int))).toInt64) : Value) = .long (jI (((cur s).1 3 : Nat) : Int)) from by rw [iI_long (by omega)]]
  refine r_ladd C dX4_valueOf_17 ?_
  rw [show (.long ((jI ((c * (cur s).1 2 : Nat) : Int)) + (jI (((cur s).1 3 : Nat) : Int))) : Value) = .long (jI ((c * (cur s).1 2 + (cur s).1 3 : Nat) : Int)) from by rw [jI_add]]
  refine r_ldc2 C 1000003 (by decide) m2 dX4_valueOf_18 ?_
  refine r_lrem C dX4_valueOf_21 (by decide) ?_
  rw [show (.long ((jI ((c * (cur s).1 2 + (cur s).1 3 : Nat) : Int)) - (jI ((c * (cur s).1 2 + (cur s).1 3 : Nat) : Int)) / (jI 1000003) * (jI 1000003)) : Value) = .long (jI ((vlu ((cur s).1 2) ((cur s).1 3) c : Nat) : Int)) from by rw [show jI 1000003 = jI ((1000003 : Nat) : Int) from rfl, jI_rem (by omega) (by decide) (by decide)]; rfl]
  refine r_l2i C dX4_valueOf_22 ?_
  rw [show (.int ((jI ((vlu ((cur s).1 2) ((cur s).1 3) c : Nat) : Int)).toInt32) : Value) = .int (iI ((vlu ((cur s).1 2) ((cur s).1 3) c : Nat) : Int)) from by rw [jI_int (by omega)]]
  exact hret f ((vlu ((cur s).1 2) ((cur s).1 3) c : Nat) : Int) _ _ dX4_valueOf_23 rfl rfl
set_option maxHeartbeats 4000000 in
set_option maxRecDepth 100000 in
/-- note(h, code) -/
theorem c_X4_note (G : va_G) (tc : Nat → ClassId) (l : Launch) (ad : Nat → Nat) (N : Nat) (f : Nat → va_E) (s : SG) (hM : MI tc ad f s) (ho : okS s) (hN : 98 ≤ N) (c v o n : Nat → Int32) (h94 : f 94 = eI tc 128 c) (h95 : f 95 = eI tc 128 v) (h96 : f 96 = eI tc 128 o) (h97 : f 97 = eI tc 2 n) (h : Nat) (hh : h < 2) (w : WW) (hW : MW c v o n h w) (hw63 : w.1 ≤ 63) (hwv : ∀ j, j < w.1 → w.2.1 j < 1000003) (cd : Nat) (hc : cd ≤ 531440)   : Ct G tc l yX4_note wsX4_note { frames := 1, cells := 0, slots := 0, locals := 21 } 0 0 [.ref (ad (88)), .int (iI ((h : Nat) : Int)), .int (iI ((cd : Nat) : Int))] ad N f (poV ad N (fun f' => (∃ c' v' o' n' : Nat → Int32, f' 94 = eI tc 128 c' ∧ f' 95 = eI tc 128 v' ∧ f' 96 = eI tc 128 o' ∧ f' 97 = eI tc 2 n' ∧ MW c' v' o' n' h (ins w (vlu ((cur s).1 2) ((cur s).1 3) cd) cd) ∧ KO c' v' o' n' c v o n h) ∧ ∀ q, (q < 94 ∨ 98 ≤ q) → f' q = f q)) := by
  obtain ⟨⟨x1, x2, x3, x4, m88⟩, m89', ⟨bb, m90, hbb⟩, ⟨sb, m91, hsb⟩, ⟨ig, m92, hig⟩, m93, ⟨wc, wv, wo, wn, m94, m95, m96, m97⟩⟩ := id hM
  have m89 : f 89 = eI tc 655 (fun j => iI ((nwF ((cur s).1, (cur s).2.1, (cur s).2.2.1, (cur s).2.2.2) j : Nat) : Int)) := m89'
  obtain ⟨⟨⟨a1, a2⟩, ⟨a3, a4⟩, ⟨a5, a6⟩, a7, a8, a9, a10⟩, o2, o3, o4, o5, o6⟩ := id ho
  refine stV (cc := cX4_note) (maxL := 7) (lv := [(0, .ref (ad (88))), (1, .int (iI ((h : Nat) : Int))), (2, .int (iI ((cd : Nat) : Int)))]) (by decide) rfl (Nat.le_of_ble_eq_true rfl) rfl (fun X C hret => ?_)
  have m0 : Cond.fieldLink RX4 35 "WordSamplesModel" "words" "[I" ∈ wsX4_note := by decide +kernel
  have m1 : ∀ w ∈ wsX40, w ∈ wsX4_note := by decide +kernel
  have m2 : Cond.fieldLink RX4 26 "WordSamplesModel" "codes" "[I" ∈ wsX4_note := by decide +kernel
  have m3 : Cond.fieldLink RX4 29 "WordSamplesModel" "values" "[I" ∈ wsX4_note := by decide +kernel
  have m4 : Cond.fieldLink RX4 32 "WordSamplesModel" "often" "[I" ∈ wsX4_note := by decide +kernel
  refine r_aload_n C dX4_note_0 rfl rfl ?_
  refine r_iload_n C dX4_note_1 rfl rfl ?_
  refine r_callV (As := [.int (iI ((cd : Nat) : Int))]) (rest := []) (na := 1) C (c_X4_valueOf G tc l ad N _ s hM ho hN cd hc) gX4_note_X4_valueOf rfl rfl rfl (by decide +kernel) ⟨Nat.le_of_ble_eq_true rfl, Nat.le_of_ble_eq_true rfl⟩ (by omega) m88 (show vwCl[4]? = some (RX4, TX4, 15) from rfl) rfl rfl (Nat.le_of_ble_eq_true rfl) dX4_note_2 ⟨Nat.le_of_ble_eq_true rfl, Nat.le_of_ble_eq_true rfl⟩ (aft_I (fun f1 hF2 => ?_))
  rw [hF2]
  refine r_istore_n (lv' := [(0, .ref (ad (88))), (1, .int (iI ((h : Nat) : Int))), (2, .int (iI ((cd : Nat) : Int))), (3, .int (iI ((vlu ((cur s).1 2) ((cur s).1 3) cd : Nat) : Int)))]) C dX4_note_5 rfl (by decide) rfl ?_
  have hxl := vlu_lt ((cur s).1 2) ((cur s).1 3) cd
  refine r_bipush C ((64 : Nat) : Int) (by decide) dX4_note_6 ?_
  refine r_iload_n C dX4_note_8 rfl rfl ?_
  refine r_imul C ((64 * h : Nat) : Int) (by omega) dX4_note_9 ?_
  refine r_istore (lv' := [(0, .ref (ad (88))), (1, .int (iI ((h : Nat) : Int))), (2, .int (iI ((cd : Nat) : Int))), (3, .int (iI ((vlu ((cur s).1 2) ((cur s).1 3) cd : Nat) : Int))), (4, .int (iI ((64 * h : Nat) : Int)))]) C dX4_note_10 (by decide) rfl ?_
  refine r_iload C dX4_note_12 rfl ?_
  refine r_istore (lv' := [(0, .ref (ad (88))), (1, .int (iI ((h : Nat) : Int))), (2, .int (iI ((cd : Nat) : Int))), (3, .int (iI ((vlu ((cur s).1 2) ((cur s).1 3) cd : Nat) : Int))), (4, .int (iI ((64 * h : Nat) : Int))), (5, .int (iI ((64 * h : Nat) : Int)))]) C dX4_note_14 (by decide) rfl ?_
  have hL3 : ∀ (m_4 : Nat) (k : Nat) (hk : k ≤ w.1) (hlt : ∀ j, j < k → w.2.1 j < vlu ((cur s).1 2) ((cur s).1 3) cd), w.1 - k < m_4 → VV X ad N f 0 0 16 [(0, .ref (ad (88))), (1, .int (iI ((h : Nat) : Int))), (2, .int (iI ((cd : Nat) : Int))), (3, .int (iI ((vlu ((cur s).1 2) ((cur s).1 3) cd : Nat) : Int))), (4, .int (iI ((64 * h : Nat) : Int))), (5, .int (iI ((64 * h + k : Nat) : Int)))] [] := by
    intro m_4
    induction m_4 with
    | zero => intros; omega
    | succ m_4 ih5 =>
      intro k hk hlt hm6
      refine r_iload C dX4_note_16 rfl ?_
      refine r_iload C dX4_note_18 rfl ?_
      refine r_aload_n C dX4_note_20 rfl rfl ?_
      refine r_get (v := .ref (ad (97))) C (by omega) m88 (show vwCl[4]? = some (RX4, TX4, 15) from rfl) m1 10 (by decide) m0 rfl rfl dX4_note_21 ?_
      refine r_iload_n C dX4_note_24 rfl rfl ?_
      refine r_iald (x := (iI ((w.1 : Nat) : Int))) C (by omega) h97 (h) rfl (by omega) (Nat.le_of_ble_eq_true rfl) (hW.1) dX4_note_25 ?_
      refine r_iadd C ((64 * h + w.1 : Nat) : Int) (by omega) dX4_note_26 ?_
      refine r_icmp_ge (tgt := 47) C ⟨by omega, by omega⟩ ⟨by omega, by omega⟩ dX4_note_27 (by decide) (fun b7 => ?_) (fun b7 => ?_)
      · have hpos : posn w.2.1 (vlu ((cur s).1 2) ((cur s).1 3) cd) w.1 = k := posn_eq hk hlt (fun h => by omega)
        have hJ8 : ∀  (hn2 : ¬ (k < w.1 ∧ w.2.1 k = vlu ((cur s).1 2) ((cur s).1 3) cd)), VV X ad N f 0 0 84 [(0, .ref (ad (88))), (1, .int (iI ((h : Nat) : Int))), (2, .int (iI ((cd : Nat) : Int))), (3, .int (iI ((vlu ((cur s).1 2) ((cur s).1 3) cd : Nat) : Int))), (4, .int (iI ((64 * h : Nat) : Int))), (5, .int (iI ((64 * h + k : Nat) : Int)))] [] := by
          intro hn2
          refine r_iload C dX4_note_84 rfl ?_
          refine r_aload_n C dX4_note_86 rfl rfl ?_
          refine r_get (v := .ref (ad (97))) C (by omega) m88 (show vwCl[4]? = some (RX4, TX4, 15) from rfl) m1 10 (by decide) m0 rfl rfl dX4_note_87 ?_
          refine r_iload_n C dX4_note_90 rfl rfl ?_
          refine r_iald (x := (iI ((w.1 : Nat) : Int))) C (by omega) h97 (h) rfl (by omega) (Nat.le_of_ble_eq_true rfl) (hW.1) dX4_note_91 ?_
          refine r_iadd C ((64 * h + w.1 : Nat) : Int) (by omega) dX4_note_92 ?_
          refine r_istore (lv' := [(0, .ref (ad (88))), (1, .int (iI ((h : Nat) : Int))), (2, .int (iI ((cd : Nat) : Int))), (3, .int (iI ((vlu ((cur s).1 2) ((cur s).1 3) cd : Nat) : Int))), (4, .int (iI ((64 * h : Nat) : Int))), (5, .int (iI ((64 * h + k : Nat) : Int))), (6, .int (iI ((64 * h + w.1 : Nat) : Int)))]) C dX4_note_93 (by decide) rfl ?_
          have hL14 : ∀ (m_15 : Nat) (m : Nat) (f9 : Nat → va_E) (hm10 : f9 (94) = eI tc 128 ((shf c (64 * h + w.1) (64 * h + m)))) (hm11 : f9 (95) = eI tc 128 ((shf v (64 * h + w.1) (64 * h + m)))) (hm12 : f9 (96) = eI tc 128 ((shf o (64 * h + w.1) (64 * h + m)))) (ho13 : ∀ q, (q < 94 ∨ 97 ≤ q) → f9 q = f q) (hm : m ≤ w.1) (hmk : k ≤ m), m < m_15 → VV X ad N f9 0 0 95 [(0, .ref (ad (88))), (1, .int (iI ((h : Nat) : Int))), (2, .int (iI ((cd : Nat) : Int))), (3, .int (iI ((vlu ((cur s).1 2) ((cur s).1 3) cd : Nat) : Int))), (4, .int (iI ((64 * h : Nat) : Int))), (5, .int (iI ((64 * h + k : Nat) : Int))), (6, .int (iI ((64 * h + m : Nat) : Int)))] [] := by
            intro m_15
            induction m_15 with
            | zero => intros; omega
            | succ m_15 ih16 =>
              intro m f9 hm10 hm11 hm12 ho13 hm hmk hm17
              refine r_iload C dX4_note_95 rfl ?_
              refine r_iload C dX4_note_97 rfl ?_
              refine r_icmp_le (tgt := 156) C ⟨by omega, by omega⟩ ⟨by omega, by omega⟩ dX4_note_99 (by decide) (fun b18 => ?_) (fun b18 => ?_)
              · have hme : m = k := by omega
                rw [hme] at hm10
                rw [hme] at hm11
                rw [hme] at hm12
                refine r_aload_n C dX4_note_156 rfl rfl ?_
                have c19 : f9 (88) = eO 4 [.ref (ad (89)), .ref (ad (90)), .int (iI ((kno s : Nat) : Int)), .ref (ad (91)), .ref (ad (92)), .ref (ad (93)), .int (iI ((pln s : Nat) : Int)), .ref (ad (94)), .ref (ad (95)), .ref (ad (96)), .ref (ad (97)), .int (x1), .int (x2), .int (x3), .int (x4)] := (ho13 _ (by omega)).trans m88
                refine r_get (v := .ref (ad (94))) C (by omega) c19 (show vwCl[4]? = some (RX4, TX4, 15) from rfl) m1 7 (by decide) m2 rfl rfl dX4_note_157 ?_
                refine r_iload C dX4_note_160 rfl ?_
                refine r_iload_n C dX4_note_162 rfl rfl ?_
                refine r_iast C (by omega) hm10 (64 * h + k) rfl (by omega) (Nat.le_of_ble_eq_true rfl) dX4_note_163 (fun f20 hs21 ho22 => ?_)
                refine r_aload_n C dX4_note_164 rfl rfl ?_
                have c23 : f20 (88) = eO 4 [.ref (ad (89)), .ref (ad (90)), .int (iI ((kno s : Nat) : Int)), .ref (ad (91)), .ref (ad (92)), .ref (ad (93)), .int (iI ((pln s : Nat) : Int)), .ref (ad (94)), .ref (ad (95)), .ref (ad (96)), .ref (ad (97)), .int (x1), .int (x2), .int (x3), .int (x4)] := (ho22 _ (by omega)).trans c19
                refine r_get (v := .ref (ad (95))) C (by omega) c23 (show vwCl[4]? = some (RX4, TX4, 15) from rfl) m1 8 (by decide) m3 rfl rfl dX4_note_165 ?_
                refine r_iload C dX4_note_168 rfl ?_
                refine r_iload_n C dX4_note_170 rfl rfl ?_
                have c24 : f20 (95) = eI tc 128 ((shf v (64 * h + w.1) (64 * h + k))) := (ho22 _ (by omega)).trans hm11
                refine r_iast C (by omega) c24 (64 * h + k) rfl (by omega) (Nat.le_of_ble_eq_true rfl) dX4_note_171 (fun f25 hs26 ho27 => ?_)
                refine r_aload_n C dX4_note_172 rfl rfl ?_
                have c28 : f25 (88) = eO 4 [.ref (ad (89)), .ref (ad (90)), .int (iI ((kno s : Nat) : Int)), .ref (ad (91)), .ref (ad (92)), .ref (ad (93)), .int (iI ((pln s : Nat) : Int)), .ref (ad (94)), .ref (ad (95)), .ref (ad (96)), .ref (ad (97)), .int (x1), .int (x2), .int (x3), .int (x4)] := (ho27 _ (by omega)).trans c23
                refine r_get (v := .ref (ad (96))) C (by omega) c28 (show vwCl[4]? = some (RX4, TX4, 15) from rfl) m1 9 (by decide) m4 rfl rfl dX4_note_173 ?_
                refine r_iload C dX4_note_176 rfl ?_
                refine r_iconst C ((1 : Nat) : Int) (by decide) dX4_note_178 ?_
                have c29 : f20 (96) = eI tc 128 ((shf o (64 * h + w.1) (64 * h + k))) := (ho22 _ (by omega)).trans hm12
                have c30 : f25 (96) = eI tc 128 ((shf o (64 * h + w.1) (64 * h + k))) := (ho27 _ (by omega)).trans c29
                refine r_iast C (by omega) c30 (64 * h + k) rfl (by omega) (Nat.le_of_ble_eq_true rfl) dX4_note_179 (fun f31 hs32 ho33 => ?_)
                refine r_aload_n C dX4_note_180 rfl rfl ?_
                have c34 : f31 (88) = eO 4 [.ref (ad (89)), .ref (ad (90)), .int (iI ((kno s : Nat) : Int)), .ref (ad (91)), .ref (ad (92)), .ref (ad (93)), .int (iI ((pln s : Nat) : Int)), .ref (ad (94)), .ref (ad (95)), .ref (ad (96)), .ref (ad (97)), .int (x1), .int (x2), .int (x3), .int (x4)] := (ho33 _ (by omega)).trans c28
                refine r_get (v := .ref (ad (97))) C (by omega) c34 (show vwCl[4]? = some (RX4, TX4, 15) from rfl) m1 10 (by decide) m0 rfl rfl dX4_note_181 ?_
                refine r_iload_n C dX4_note_184 rfl rfl ?_
                refine r_dup2 C dX4_note_185 rfl rfl ?_
                have c35 : f9 (97) = eI tc 2 (n) := (ho13 _ (by omega)).trans h97
                have c36 : f20 (97) = eI tc 2 (n) := (ho22 _ (by omega)).trans c35
                have c37 : f25 (97) = eI tc 2 (n) := (ho27 _ (by omega)).trans c36
                have c38 : f31 (97) = eI tc 2 (n) := (ho33 _ (by omega)).trans c37
                refine r_iald (x := (iI ((w.1 : Nat) : Int))) C (by omega) c38 (h) rfl (by omega) (Nat.le_of_ble_eq_true rfl) (hW.1) dX4_note_186 ?_
                refine r_iconst C ((1 : Nat) : Int) (by decide) dX4_note_187 ?_
                refine r_iadd C ((w.1 + 1 : Nat) : Int) (by omega) dX4_note_188 ?_
                refine r_iast C (by omega) c38 (h) rfl (by omega) (Nat.le_of_ble_eq_true rfl) dX4_note_189 (fun f39 hs40 ho41 => ?_)
                have c42 : f25 (94) = eI tc 128 (upd ((shf c (64 * h + w.1) (64 * h + k))) (64 * h + k) ((iI ((cd : Nat) : Int)))) := (ho27 _ (by omega)).trans hs21
                have c43 : f31 (94) = eI tc 128 (upd ((shf c (64 * h + w.1) (64 * h + k))) (64 * h + k) ((iI ((cd : Nat) : Int)))) := (ho33 _ (by omega)).trans c42
                have c44 : f39 (94) = eI tc 128 (upd ((shf c (64 * h + w.1) (64 * h + k))) (64 * h + k) ((iI ((cd : Nat) : Int)))) := (ho41 _ (by omega)).trans c43
                have c45 : f31 (95) = eI tc 128 (upd ((shf v (64 * h + w.1) (64 * h + k))) (64 * h + k) ((iI ((vlu ((cur s).1 2) ((cur s).1 3) cd : Nat) : Int)))) := (ho33 _ (by omega)).trans hs26
                have c46 : f39 (95) = eI tc 128 (upd ((shf v (64 * h + w.1) (64 * h + k))) (64 * h + k) ((iI ((vlu ((cur s).1 2) ((cur s).1 3) cd : Nat) : Int)))) := (ho41 _ (by omega)).trans c45
                have c47 : f39 (96) = eI tc 128 (upd ((shf o (64 * h + w.1) (64 * h + k))) (64 * h + k) ((iI ((1 : Nat) : Int)))) := (ho41 _ (by omega)).trans hs32
                exact hret f39 _ _ dX4_note_190 (⟨⟨_, _, _, _, c44, c46, c47, hs40, mw_new hW hpos hn2, ko_new (by omega) hk⟩, fun q hq => (((((ho41 _ (by omega))).trans (ho33 _ (by omega))).trans (ho27 _ (by omega))).trans (ho22 _ (by omega))).trans (ho13 _ (by omega))⟩)
              · have hm0 : 0 < m := by omega
                refine r_aload_n C dX4_note_102 rfl rfl ?_
                have c48 : f9 (88) = eO 4 [.ref (ad (89)), .ref (ad (90)), .int (iI ((kno s : Nat) : Int)), .ref (ad (91)), .ref (ad (92)), .ref (ad (93)), .int (iI ((pln s : Nat) : Int)), .ref (ad (94)), .ref (ad (95)), .ref (ad (96)), .ref (ad (97)), .int (x1), .int (x2), .int (x3), .int (x4)] := (ho13 _ (by omega)).trans m88
                refine r_get (v := .ref (ad (94))) C (by omega) c48 (show vwCl[4]? = some (RX4, TX4, 15) from rfl) m1 7 (by decide) m2 rfl rfl dX4_note_103 ?_
                refine r_iload C dX4_note_106 rfl ?_
                refine r_aload_n C dX4_note_108 rfl rfl ?_
                refine r_get (v := .ref (ad (94))) C (by omega) c48 (show vwCl[4]? = some (RX4, TX4, 15) from rfl) m1 7 (by decide) m2 rfl rfl dX4_note_109 ?_
                refine r_iload C dX4_note_112 rfl ?_
                refine r_iconst C ((1 : Nat) : Int) (by decide) dX4_note_114 ?_
                refine r_isub C ((64 * h + (m - 1) : Nat) : Int) (by omega) dX4_note_115 ?_
                refine r_iald (x := ((shf c (64 * h + w.1) (64 * h + m)) (64 * h + (m - 1)))) C (by omega) hm10 (64 * h + (m - 1)) rfl (by omega) (Nat.le_of_ble_eq_true rfl) (rfl) dX4_note_116 ?_
                refine r_iast C (by omega) hm10 (64 * h + m) rfl (by omega) (Nat.le_of_ble_eq_true rfl) dX4_note_117 (fun f49 hs50 ho51 => ?_)
                have c52 : f49 (94) = eI tc 128 ((shf c (64 * h + w.1) (64 * h + (m - 1)))) := hs50.trans (congrArg (fun g => eI tc 128 g) (shf_s hm0 (by omega)))
                refine r_aload_n C dX4_note_118 rfl rfl ?_
                have c53 : f49 (88) = eO 4 [.ref (ad (89)), .ref (ad (90)), .int (iI ((kno s : Nat) : Int)), .ref (ad (91)), .ref (ad (92)), .ref (ad (93)), .int (iI ((pln s : Nat) : Int)), .ref (ad (94)), .ref (ad (95)), .ref (ad (96)), .ref (ad (97)), .int (x1), .int (x2), .int (x3), .int (x4)] := (ho51 _ (by omega)).trans c48
                refine r_get (v := .ref (ad (95))) C (by omega) c53 (show vwCl[4]? = some (RX4, TX4, 15) from rfl) m1 8 (by decide) m3 rfl rfl dX4_note_119 ?_
                refine r_iload C dX4_note_122 rfl ?_
                refine r_aload_n C dX4_note_124 rfl rfl ?_
                refine r_get (v := .ref (ad (95))) C (by omega) c53 (show vwCl[4]? = some (RX4, TX4, 15) from rfl) m1 8 (by decide) m3 rfl rfl dX4_note_125 ?_
                refine r_iload C dX4_note_128 rfl ?_
                refine r_iconst C ((1 : Nat) : Int) (by decide) dX4_note_130 ?_
                refine r_isub C ((64 * h + (m - 1) : Nat) : Int) (by omega) dX4_note_131 ?_
                have c54 : f49 (95) = eI tc 128 ((shf v (64 * h + w.1) (64 * h + m))) := (ho51 _ (by omega)).trans hm11
                refine r_iald (x := ((shf v (64 * h + w.1) (64 * h + m)) (64 * h + (m - 1)))) C (by omega) c54 (64 * h + (m - 1)) rfl (by omega) (Nat.le_of_ble_eq_true rfl) (rfl) dX4_note_132 ?_
                refine r_iast C (by omega) c54 (64 * h + m) rfl (by omega) (Nat.le_of_ble_eq_true rfl) dX4_note_133 (fun f55 hs56 ho57 => ?_)
                have c58 : f55 (95) = eI tc 128 ((shf v (64 * h + w.1) (64 * h + (m - 1)))) := hs56.trans (congrArg (fun g => eI tc 128 g) (shf_s hm0 (by omega)))
                refine r_aload_n C dX4_note_134 rfl rfl ?_
                have c59 : f55 (88) = eO 4 [.ref (ad (89)), .ref (ad (90)), .int (iI ((kno s : Nat) : Int)), .ref (ad (91)), .ref (ad (92)), .ref (ad (93)), .int (iI ((pln s : Nat) : Int)), .ref (ad (94)), .ref (ad (95)), .ref (ad (96)), .ref (ad (97)), .int (x1), .int (x2), .int (x3), .int (x4)] := (ho57 _ (by omega)).trans c53
                refine r_get (v := .ref (ad (96))) C (by omega) c59 (show vwCl[4]? = some (RX4, TX4, 15) from rfl) m1 9 (by decide) m4 rfl rfl dX4_note_135 ?_
                refine r_iload C dX4_note_138 rfl ?_
                refine r_aload_n C dX4_note_140 rfl rfl ?_
                refine r_get (v := .ref (ad (96))) C (by omega) c59 (show vwCl[4]? = some (RX4, TX4, 15) from rfl) m1 9 (by decide) m4 rfl rfl dX4_note_141 ?_
                refine r_iload C dX4_note_144 rfl ?_
                refine r_iconst C ((1 : Nat) : Int) (by decide) dX4_note_146 ?_
                refine r_isub C ((64 * h + (m - 1) : Nat) : Int) (by omega) dX4_note_147 ?_
                have c60 : f49 (96) = eI tc 128 ((shf o (64 * h + w.1) (64 * h + m))) := (ho51 _ (by omega)).trans hm12
                have c61 : f55 (96) = eI tc 128 ((shf o (64 * h + w.1) (64 * h + m))) := (ho57 _ (by omega)).trans c60
                refine r_iald (x := ((shf o (64 * h + w.1) (64 * h + m)) (64 * h + (m - 1)))) C (by omega) c61 (64 * h + (m - 1)) rfl (by omega) (Nat.le_of_ble_eq_true rfl) (rfl) dX4_note_148 ?_
                refine r_iast C (by omega) c61 (64 * h + m) rfl (by omega) (Nat.le_of_ble_eq_true rfl) dX4_note_149 (fun f62 hs63 ho64 => ?_)
                have c65 : f62 (96) = eI tc 128 ((shf o (64 * h + w.1) (64 * h + (m - 1)))) := hs63.trans (congrArg (fun g => eI tc 128 g) (shf_s hm0 (by omega)))
                refine r_iinc (lv' := [(0, .ref (ad (88))), (1, .int (iI ((h : Nat) : Int))), (2, .int (iI ((cd : Nat) : Int))), (3, .int (iI ((vlu ((cur s).1 2) ((cur s).1 3) cd : Nat) : Int))), (4, .int (iI ((64 * h : Nat) : Int))), (5, .int (iI ((64 * h + k : Nat) : Int))), (6, .int (iI ((64 * h + (m - 1) : Nat) : Int)))]) C ((64 * h + (m - 1) : Nat) : Int) (by omega) dX4_note_150 rfl (by decide) rfl ?_
                refine r_goto (tgt := 95) C dX4_note_153 (by decide) ?_
                have c66 : f55 (94) = eI tc 128 ((shf c (64 * h + w.1) (64 * h + (m - 1)))) := (ho57 _ (by omega)).trans c52
                have c67 : f62 (94) = eI tc 128 ((shf c (64 * h + w.1) (64 * h + (m - 1)))) := (ho64 _ (by omega)).trans c66
                have c68 : f62 (95) = eI tc 128 ((shf v (64 * h + w.1) (64 * h + (m - 1)))) := (ho64 _ (by omega)).trans c58
                exact ih16 (m - 1) f62 c67 c68 c65 (fun q hq => ((((ho64 _ (by omega))).trans (ho57 _ (by omega))).trans (ho51 _ (by omega))).trans (ho13 _ (by omega))) (by omega) (by omega) (by omega)
          exact hL14 _ w.1 f (by rw [shf_0]; exact h94) (by rw [shf_0]; exact h95) (by rw [shf_0]; exact h96) (fun _ _ => rfl) (by omega) (by omega) (Nat.lt_succ_self _)
        refine r_iload C dX4_note_47 rfl ?_
        refine r_iload C dX4_note_49 rfl ?_
        refine r_aload_n C dX4_note_51 rfl rfl ?_
        refine r_get (v := .ref (ad (97))) C (by omega) m88 (show vwCl[4]? = some (RX4, TX4, 15) from rfl) m1 10 (by decide) m0 rfl rfl dX4_note_52 ?_
        refine r_iload_n C dX4_note_55 rfl rfl ?_
        refine r_iald (x := (iI ((w.1 : Nat) : Int))) C (by omega) h97 (h) rfl (by omega) (Nat.le_of_ble_eq_true rfl) (hW.1) dX4_note_56 ?_
        refine r_iadd C ((64 * h + w.1 : Nat) : Int) (by omega) dX4_note_57 ?_
        refine r_icmp_ge (tgt := 84) C ⟨by omega, by omega⟩ ⟨by omega, by omega⟩ dX4_note_58 (by decide) (fun b69 => ?_) (fun b69 => ?_)
        · exact hJ8 (by omega)
        · have hvk := hwv k (by omega)
          refine r_aload_n C dX4_note_61 rfl rfl ?_
          refine r_get (v := .ref (ad (95))) C (by omega) m88 (show vwCl[4]? = some (RX4, TX4, 15) from rfl) m1 8 (by decide) m3 rfl rfl dX4_note_62 ?_
          refine r_iload C dX4_note_65 rfl ?_
          refine r_iald (x := (iI ((w.2.1 k : Nat) : Int))) C (by omega) h95 (64 * h + k) rfl (by omega) (Nat.le_of_ble_eq_true rfl) ((hW.2 k (by omega)).1) dX4_note_67 ?_
          refine r_iload_n C dX4_note_68 rfl rfl ?_
          refine r_icmp_ne (tgt := 84) C ⟨by omega, by omega⟩ ⟨by omega, by omega⟩ dX4_note_69 (by decide) (fun b70 => ?_) (fun b70 => ?_)
          · exact hJ8 (by omega)
          · have hk2 : k < w.1 ∧ w.2.1 k = vlu ((cur s).1 2) ((cur s).1 3) cd := ⟨by omega, by omega⟩
            refine r_aload_n C dX4_note_72 rfl rfl ?_
            refine r_get (v := .ref (ad (96))) C (by omega) m88 (show vwCl[4]? = some (RX4, TX4, 15) from rfl) m1 9 (by decide) m4 rfl rfl dX4_note_73 ?_
            refine r_iload C dX4_note_76 rfl ?_
            refine r_dup2 C dX4_note_78 rfl rfl ?_
            refine r_iald (x := (iI ((w.2.2.2 k : Nat) : Int))) C (by omega) h96 (64 * h + k) rfl (by omega) (Nat.le_of_ble_eq_true rfl) ((hW.2 k (by omega)).2.2) dX4_note_79 ?_
            refine r_iconst C ((1 : Nat) : Int) (by decide) dX4_note_80 ?_
            refine r_iadd C ((w.2.2.2 k + 1 : Nat) : Int) (by omega) dX4_note_81 ?_
            refine r_iast C (by omega) h96 (64 * h + k) rfl (by omega) (Nat.le_of_ble_eq_true rfl) dX4_note_82 (fun f71 hs72 ho73 => ?_)
            have c74 : f71 (94) = eI tc 128 (c) := (ho73 _ (by omega)).trans h94
            have c75 : f71 (95) = eI tc 128 (v) := (ho73 _ (by omega)).trans h95
            have c76 : f71 (97) = eI tc 2 (n) := (ho73 _ (by omega)).trans h97
            exact hret f71 _ _ dX4_note_83 (⟨⟨_, _, _, _, c74, c75, hs72, c76, mw_hit hW hpos hk2.1 hk2.2, ko_hit (by omega)⟩, fun q hq => (ho73 _ (by omega))⟩)
      · refine r_aload_n C dX4_note_30 rfl rfl ?_
        refine r_get (v := .ref (ad (95))) C (by omega) m88 (show vwCl[4]? = some (RX4, TX4, 15) from rfl) m1 8 (by decide) m3 rfl rfl dX4_note_31 ?_
        refine r_iload C dX4_note_34 rfl ?_
        have hvk := hwv k (by omega)
        refine r_iald (x := (iI ((w.2.1 k : Nat) : Int))) C (by omega) h95 (64 * h + k) rfl (by omega) (Nat.le_of_ble_eq_true rfl) ((hW.2 k (by omega)).1) dX4_note_36 ?_
        refine r_iload_n C dX4_note_37 rfl rfl ?_
        refine r_icmp_ge (tgt := 47) C ⟨by omega, by omega⟩ ⟨by omega, by omega⟩ dX4_note_38 (by decide) (fun b77 => ?_) (fun b77 => ?_)
        · have hpos : posn w.2.1 (vlu ((cur s).1 2) ((cur s).1 3) cd) w.1 = k := posn_eq hk hlt (fun h => by omega)
          have hJ78 : ∀  (hn2 : ¬ (k < w.1 ∧ w.2.1 k = vlu ((cur s).1 2) ((cur s).1 3) cd)), VV X ad N f 0 0 84 [(0, .ref (ad (88))), (1, .int (iI ((h : Nat) : Int))), (2, .int (iI ((cd : Nat) : Int))), (3, .int (iI ((vlu ((cur s).1 2) ((cur s).1 3) cd : Nat) : Int))), (4, .int (iI ((64 * h : Nat) : Int))), (5, .int (iI ((64 * h + k : Nat) : Int)))] [] := by
            intro hn2
            refine r_iload C dX4_note_84 rfl ?_
            refine r_aload_n C dX4_note_86 rfl rfl ?_
            refine r_get (v := .ref (ad (97))) C (by omega) m88 (show vwCl[4]? = some (RX4, TX4, 15) from rfl) m1 10 (by decide) m0 rfl rfl dX4_note_87 ?_
            refine r_iload_n C dX4_note_90 rfl rfl ?_
            refine r_iald (x := (iI ((w.1 : Nat) : Int))) C (by omega) h97 (h) rfl (by omega) (Nat.le_of_ble_eq_true rfl) (hW.1) dX4_note_91 ?_
            refine r_iadd C ((64 * h + w.1 : Nat) : Int) (by omega) dX4_note_92 ?_
            refine r_istore (lv' := [(0, .ref (ad (88))), (1, .int (iI ((h : Nat) : Int))), (2, .int (iI ((cd : Nat) : Int))), (3, .int (iI ((vlu ((cur s).1 2) ((cur s).1 3) cd : Nat) : Int))), (4, .int (iI ((64 * h : Nat) : Int))), (5, .int (iI ((64 * h + k : Nat) : Int))), (6, .int (iI ((64 * h + w.1 : Nat) : Int)))]) C dX4_note_93 (by decide) rfl ?_
            have hL84 : ∀ (m_85 : Nat) (m : Nat) (f79 : Nat → va_E) (hm80 : f79 (94) = eI tc 128 ((shf c (64 * h + w.1) (64 * h + m)))) (hm81 : f79 (95) = eI tc 128 ((shf v (64 * h + w.1) (64 * h + m)))) (hm82 : f79 (96) = eI tc 128 ((shf o (64 * h + w.1) (64 * h + m)))) (ho83 : ∀ q, (q < 94 ∨ 97 ≤ q) → f79 q = f q) (hm : m ≤ w.1) (hmk : k ≤ m), m < m_85 → VV X ad N f79 0 0 95 [(0, .ref (ad (88))), (1, .int (iI ((h : Nat) : Int))), (2, .int (iI ((cd : Nat) : Int))), (3, .int (iI ((vlu ((cur s).1 2) ((cur s).1 3) cd : Nat) : Int))), (4, .int (iI ((64 * h : Nat) : Int))), (5, .int (iI ((64 * h + k : Nat) : Int))), (6, .int (iI ((64 * h + m : Nat) : Int)))] [] := by
              intro m_85
              induction m_85 with
              | zero => intros; omega
              | succ m_85 ih86 =>
                intro m f79 hm80 hm81 hm82 ho83 hm hmk hm87
                refine r_iload C dX4_note_95 rfl ?_
                refine r_iload C dX4_note_97 rfl ?_
                refine r_icmp_le (tgt := 156) C ⟨by omega, by omega⟩ ⟨by omega, by omega⟩ dX4_note_99 (by decide) (fun b88 => ?_) (fun b88 => ?_)
                · have hme : m = k := by omega
                  rw [hme] at hm80
                  rw [hme] at hm81
                  rw [hme] at hm82
                  refine r_aload_n C dX4_note_156 rfl rfl ?_
                  have c89 : f79 (88) = eO 4 [.ref (ad (89)), .ref (ad (90)), .int (iI ((kno s : Nat) : Int)), .ref (ad (91)), .ref (ad (92)), .ref (ad (93)), .int (iI ((pln s : Nat) : Int)), .ref (ad (94)), .ref (ad (95)), .ref (ad (96)), .ref (ad (97)), .int (x1), .int (x2), .int (x3), .int (x4)] := (ho83 _ (by omega)).trans m88
                  refine r_get (v := .ref (ad (94))) C (by omega) c89 (show vwCl[4]? = some (RX4, TX4, 15) from rfl) m1 7 (by decide) m2 rfl rfl dX4_note_157 ?_
                  refine r_iload C dX4_note_160 rfl ?_
                  refine r_iload_n C dX4_note_162 rfl rfl ?_
                  refine r_iast C (by omega) hm80 (64 * h + k) rfl (by omega) (Nat.le_of_ble_eq_true rfl) dX4_note_163 (fun f90 hs91 ho92 => ?_)
                  refine r_aload_n C dX4_note_164 rfl rfl ?_
                  have c93 : f90 (88) = eO 4 [.ref (ad (89)), .ref (ad (90)), .int (iI ((kno s : Nat) : Int)), .ref (ad (91)), .ref (ad (92)), .ref (ad (93)), .int (iI ((pln s : Nat) : Int)), .ref (ad (94)), .ref (ad (95)), .ref (ad (96)), .ref (ad (97)), .int (x1), .int (x2), .int (x3), .int (x4)] := (ho92 _ (by omega)).trans c89
                  refine r_get (v := .ref (ad (95))) C (by omega) c93 (show vwCl[4]? = some (RX4, TX4, 15) from rfl) m1 8 (by decide) m3 rfl rfl dX4_note_165 ?_
                  refine r_iload C dX4_note_168 rfl ?_
                  refine r_iload_n C dX4_note_170 rfl rfl ?_
                  have c94 : f90 (95) = eI tc 128 ((shf v (64 * h + w.1) (64 * h + k))) := (ho92 _ (by omega)).trans hm81
                  refine r_iast C (by omega) c94 (64 * h + k) rfl (by omega) (Nat.le_of_ble_eq_true rfl) dX4_note_171 (fun f95 hs96 ho97 => ?_)
                  refine r_aload_n C dX4_note_172 rfl rfl ?_
                  have c98 : f95 (88) = eO 4 [.ref (ad (89)), .ref (ad (90)), .int (iI ((kno s : Nat) : Int)), .ref (ad (91)), .ref (ad (92)), .ref (ad (93)), .int (iI ((pln s : Nat) : Int)), .ref (ad (94)), .ref (ad (95)), .ref (ad (96)), .ref (ad (97)), .int (x1), .int (x2), .int (x3), .int (x4)] := (ho97 _ (by omega)).trans c93
                  refine r_get (v := .ref (ad (96))) C (by omega) c98 (show vwCl[4]? = some (RX4, TX4, 15) from rfl) m1 9 (by decide) m4 rfl rfl dX4_note_173 ?_
                  refine r_iload C dX4_note_176 rfl ?_
                  refine r_iconst C ((1 : Nat) : Int) (by decide) dX4_note_178 ?_
                  have c99 : f90 (96) = eI tc 128 ((shf o (64 * h + w.1) (64 * h + k))) := (ho92 _ (by omega)).trans hm82
                  have c100 : f95 (96) = eI tc 128 ((shf o (64 * h + w.1) (64 * h + k))) := (ho97 _ (by omega)).trans c99
                  refine r_iast C (by omega) c100 (64 * h + k) rfl (by omega) (Nat.le_of_ble_eq_true rfl) dX4_note_179 (fun f101 hs102 ho103 => ?_)
                  refine r_aload_n C dX4_note_180 rfl rfl ?_
                  have c104 : f101 (88) = eO 4 [.ref (ad (89)), .ref (ad (90)), .int (iI ((kno s : Nat) : Int)), .ref (ad (91)), .ref (ad (92)), .ref (ad (93)), .int (iI ((pln s : Nat) : Int)), .ref (ad (94)), .ref (ad (95)), .ref (ad (96)), .ref (ad (97)), .int (x1), .int (x2), .int (x3), .int (x4)] := (ho103 _ (by omega)).trans c98
                  refine r_get (v := .ref (ad (97))) C (by omega) c104 (show vwCl[4]? = some (RX4, TX4, 15) from rfl) m1 10 (by decide) m0 rfl rfl dX4_note_181 ?_
                  refine r_iload_n C dX4_note_184 rfl rfl ?_
                  refine r_dup2 C dX4_note_185 rfl rfl ?_
                  have c105 : f79 (97) = eI tc 2 (n) := (ho83 _ (by omega)).trans h97
                  have c106 : f90 (97) = eI tc 2 (n) := (ho92 _ (by omega)).trans c105
                  have c107 : f95 (97) = eI tc 2 (n) := (ho97 _ (by omega)).trans c106
                  have c108 : f101 (97) = eI tc 2 (n) := (ho103 _ (by omega)).trans c107
                  refine r_iald (x := (iI ((w.1 : Nat) : Int))) C (by omega) c108 (h) rfl (by omega) (Nat.le_of_ble_eq_true rfl) (hW.1) dX4_note_186 ?_
                  refine r_iconst C ((1 : Nat) : Int) (by decide) dX4_note_187 ?_
                  refine r_iadd C ((w.1 + 1 : Nat) : Int) (by omega) dX4_note_188 ?_
                  refine r_iast C (by omega) c108 (h) rfl (by omega) (Nat.le_of_ble_eq_true rfl) dX4_note_189 (fun f109 hs110 ho111 => ?_)
                  have c112 : f95 (94) = eI tc 128 (upd ((shf c (64 * h + w.1) (64 * h + k))) (64 * h + k) ((iI ((cd : Nat) : Int)))) := (ho97 _ (by omega)).trans hs91
                  have c113 : f101 (94) = eI tc 128 (upd ((shf c (64 * h + w.1) (64 * h + k))) (64 * h + k) ((iI ((cd : Nat) : Int)))) := (ho103 _ (by omega)).trans c112
                  have c114 : f109 (94) = eI tc 128 (upd ((shf c (64 * h + w.1) (64 * h + k))) (64 * h + k) ((iI ((cd : Nat) : Int)))) := (ho111 _ (by omega)).trans c113
                  have c115 : f101 (95) = eI tc 128 (upd ((shf v (64 * h + w.1) (64 * h + k))) (64 * h + k) ((iI ((vlu ((cur s).1 2) ((cur s).1 3) cd : Nat) : Int)))) := (ho103 _ (by omega)).trans hs96
                  have c116 : f109 (95) = eI tc 128 (upd ((shf v (64 * h + w.1) (64 * h + k))) (64 * h + k) ((iI ((vlu ((cur s).1 2) ((cur s).1 3) cd : Nat) : Int)))) := (ho111 _ (by omega)).trans c115
                  have c117 : f109 (96) = eI tc 128 (upd ((shf o (64 * h + w.1) (64 * h + k))) (64 * h + k) ((iI ((1 : Nat) : Int)))) := (ho111 _ (by omega)).trans hs102
                  exact hret f109 _ _ dX4_note_190 (⟨⟨_, _, _, _, c114, c116, c117, hs110, mw_new hW hpos hn2, ko_new (by omega) hk⟩, fun q hq => (((((ho111 _ (by omega))).trans (ho103 _ (by omega))).trans (ho97 _ (by omega))).trans (ho92 _ (by omega))).trans (ho83 _ (by omega))⟩)
                · have hm0 : 0 < m := by omega
                  refine r_aload_n C dX4_note_102 rfl rfl ?_
                  have c118 : f79 (88) = eO 4 [.ref (ad (89)), .ref (ad (90)), .int (iI ((kno s : Nat) : Int)), .ref (ad (91)), .ref (ad (92)), .ref (ad (93)), .int (iI ((pln s : Nat) : Int)), .ref (ad (94)), .ref (ad (95)), .ref (ad (96)), .ref (ad (97)), .int (x1), .int (x2), .int (x3), .int (x4)] := (ho83 _ (by omega)).trans m88
                  refine r_get (v := .ref (ad (94))) C (by omega) c118 (show vwCl[4]? = some (RX4, TX4, 15) from rfl) m1 7 (by decide) m2 rfl rfl dX4_note_103 ?_
                  refine r_iload C dX4_note_106 rfl ?_
                  refine r_aload_n C dX4_note_108 rfl rfl ?_
                  refine r_get (v := .ref (ad (94))) C (by omega) c118 (show vwCl[4]? = some (RX4, TX4, 15) from rfl) m1 7 (by decide) m2 rfl rfl dX4_note_109 ?_
                  refine r_iload C dX4_note_112 rfl ?_
                  refine r_iconst C ((1 : Nat) : Int) (by decide) dX4_note_114 ?_
                  refine r_isub C ((64 * h + (m - 1) : Nat) : Int) (by omega) dX4_note_115 ?_
                  refine r_iald (x := ((shf c (64 * h + w.1) (64 * h + m)) (64 * h + (m - 1)))) C (by omega) hm80 (64 * h + (m - 1)) rfl (by omega) (Nat.le_of_ble_eq_true rfl) (rfl) dX4_note_116 ?_
                  refine r_iast C (by omega) hm80 (64 * h + m) rfl (by omega) (Nat.le_of_ble_eq_true rfl) dX4_note_117 (fun f119 hs120 ho121 => ?_)
                  have c122 : f119 (94) = eI tc 128 ((shf c (64 * h + w.1) (64 * h + (m - 1)))) := hs120.trans (congrArg (fun g => eI tc 128 g) (shf_s hm0 (by omega)))
                  refine r_aload_n C dX4_note_118 rfl rfl ?_
                  have c123 : f119 (88) = eO 4 [.ref (ad (89)), .ref (ad (90)), .int (iI ((kno s : Nat) : Int)), .ref (ad (91)), .ref (ad (92)), .ref (ad (93)), .int (iI ((pln s : Nat) : Int)), .ref (ad (94)), .ref (ad (95)), .ref (ad (96)), .ref (ad (97)), .int (x1), .int (x2), .int (x3), .int (x4)] := (ho121 _ (by omega)).trans c118
                  refine r_get (v := .ref (ad (95))) C (by omega) c123 (show vwCl[4]? = some (RX4, TX4, 15) from rfl) m1 8 (by decide) m3 rfl rfl dX4_note_119 ?_
                  refine r_iload C dX4_note_122 rfl ?_
                  refine r_aload_n C dX4_note_124 rfl rfl ?_
                  refine r_get (v := .ref (ad (95))) C (by omega) c123 (show vwCl[4]? = some (RX4, TX4, 15) from rfl) m1 8 (by decide) m3 rfl rfl dX4_note_125 ?_
                  refine r_iload C dX4_note_128 rfl ?_
                  refine r_iconst C ((1 : Nat) : Int) (by decide) dX4_note_130 ?_
                  refine r_isub C ((64 * h + (m - 1) : Nat) : Int) (by omega) dX4_note_131 ?_
                  have c124 : f119 (95) = eI tc 128 ((shf v (64 * h + w.1) (64 * h + m))) := (ho121 _ (by omega)).trans hm81
                  refine r_iald (x := ((shf v (64 * h + w.1) (64 * h + m)) (64 * h + (m - 1)))) C (by omega) c124 (64 * h + (m - 1)) rfl (by omega) (Nat.le_of_ble_eq_true rfl) (rfl) dX4_note_132 ?_
                  refine r_iast C (by omega) c124 (64 * h + m) rfl (by omega) (Nat.le_of_ble_eq_true rfl) dX4_note_133 (fun f125 hs126 ho127 => ?_)
                  have c128 : f125 (95) = eI tc 128 ((shf v (64 * h + w.1) (64 * h + (m - 1)))) := hs126.trans (congrArg (fun g => eI tc 128 g) (shf_s hm0 (by omega)))
                  refine r_aload_n C dX4_note_134 rfl rfl ?_
                  have c129 : f125 (88) = eO 4 [.ref (ad (89)), .ref (ad (90)), .int (iI ((kno s : Nat) : Int)), .ref (ad (91)), .ref (ad (92)), .ref (ad (93)), .int (iI ((pln s : Nat) : Int)), .ref (ad (94)), .ref (ad (95)), .ref (ad (96)), .ref (ad (97)), .int (x1), .int (x2), .int (x3), .int (x4)] := (ho127 _ (by omega)).trans c123
                  refine r_get (v := .ref (ad (96))) C (by omega) c129 (show vwCl[4]? = some (RX4, TX4, 15) from rfl) m1 9 (by decide) m4 rfl rfl dX4_note_135 ?_
                  refine r_iload C dX4_note_138 rfl ?_
                  refine r_aload_n C dX4_note_140 rfl rfl ?_
                  refine r_get (v := .ref (ad (96))) C (by omega) c129 (show vwCl[4]? = some (RX4, TX4, 15) from rfl) m1 9 (by decide) m4 rfl rfl dX4_note_141 ?_
                  refine r_iload C dX4_note_144 rfl ?_
                  refine r_iconst C ((1 : Nat) : Int) (by decide) dX4_note_146 ?_
                  refine r_isub C ((64 * h + (m - 1) : Nat) : Int) (by omega) dX4_note_147 ?_
                  have c130 : f119 (96) = eI tc 128 ((shf o (64 * h + w.1) (64 * h + m))) := (ho121 _ (by omega)).trans hm82
                  have c131 : f125 (96) = eI tc 128 ((shf o (64 * h + w.1) (64 * h + m))) := (ho127 _ (by omega)).trans c130
                  refine r_iald (x := ((shf o (64 * h + w.1) (64 * h + m)) (64 * h + (m - 1)))) C (by omega) c131 (64 * h + (m - 1)) rfl (by omega) (Nat.le_of_ble_eq_true rfl) (rfl) dX4_note_148 ?_
                  refine r_iast C (by omega) c131 (64 * h + m) rfl (by omega) (Nat.le_of_ble_eq_true rfl) dX4_note_149 (fun f132 hs133 ho134 => ?_)
                  have c135 : f132 (96) = eI tc 128 ((shf o (64 * h + w.1) (64 * h + (m - 1)))) := hs133.trans (congrArg (fun g => eI tc 128 g) (shf_s hm0 (by omega)))
                  refine r_iinc (lv' := [(0, .ref (ad (88))), (1, .int (iI ((h : Nat) : Int))), (2, .int (iI ((cd : Nat) : Int))), (3, .int (iI ((vlu ((cur s).1 2) ((cur s).1 3) cd : Nat) : Int))), (4, .int (iI ((64 * h : Nat) : Int))), (5, .int (iI ((64 * h + k : Nat) : Int))), (6, .int (iI ((64 * h + (m - 1) : Nat) : Int)))]) C ((64 * h + (m - 1) : Nat) : Int) (by omega) dX4_note_150 rfl (by decide) rfl ?_
                  refine r_goto (tgt := 95) C dX4_note_153 (by decide) ?_
                  have c136 : f125 (94) = eI tc 128 ((shf c (64 * h + w.1) (64 * h + (m - 1)))) := (ho127 _ (by omega)).trans c122
                  have c137 : f132 (94) = eI tc 128 ((shf c (64 * h + w.1) (64 * h + (m - 1)))) := (ho134 _ (by omega)).trans c136
                  have c138 : f132 (95) = eI tc 128 ((shf v (64 * h + w.1) (64 * h + (m - 1)))) := (ho134 _ (by omega)).trans c128
                  exact ih86 (m - 1) f132 c137 c138 c135 (fun q hq => ((((ho134 _ (by omega))).trans (ho127 _ (by omega))).trans (ho121 _ (by omega))).trans (ho83 _ (by omega))) (by omega) (by omega) (by omega)
            exact hL84 _ w.1 f (by rw [shf_0]; exact h94) (by rw [shf_0]; exact h95) (by rw [shf_0]; exact h96) (fun _ _ => rfl) (by omega) (by omega) (Nat.lt_succ_self _)
          refine r_iload C dX4_note_47 rfl ?_
          refine r_iload C dX4_note_49 rfl ?_
          refine r_aload_n C dX4_note_51 rfl rfl ?_
          refine r_get (v := .ref (ad (97))) C (by omega) m88 (show vwCl[4]? = some (RX4, TX4, 15) from rfl) m1 10 (by decide) m0 rfl rfl dX4_note_52 ?_
          refine r_iload_n C dX4_note_55 rfl rfl ?_
          refine r_iald (x := (iI ((w.1 : Nat) : Int))) C (by omega) h97 (h) rfl (by omega) (Nat.le_of_ble_eq_true rfl) (hW.1) dX4_note_56 ?_
          refine r_iadd C ((64 * h + w.1 : Nat) : Int) (by omega) dX4_note_57 ?_
          refine r_icmp_ge (tgt := 84) C ⟨by omega, by omega⟩ ⟨by omega, by omega⟩ dX4_note_58 (by decide) (fun b139 => ?_) (fun b139 => ?_)
          · exact hJ78 (by omega)
          · have hvk := hwv k (by omega)
            refine r_aload_n C dX4_note_61 rfl rfl ?_
            refine r_get (v := .ref (ad (95))) C (by omega) m88 (show vwCl[4]? = some (RX4, TX4, 15) from rfl) m1 8 (by decide) m3 rfl rfl dX4_note_62 ?_
            refine r_iload C dX4_note_65 rfl ?_
            refine r_iald (x := (iI ((w.2.1 k : Nat) : Int))) C (by omega) h95 (64 * h + k) rfl (by omega) (Nat.le_of_ble_eq_true rfl) ((hW.2 k (by omega)).1) dX4_note_67 ?_
            refine r_iload_n C dX4_note_68 rfl rfl ?_
            refine r_icmp_ne (tgt := 84) C ⟨by omega, by omega⟩ ⟨by omega, by omega⟩ dX4_note_69 (by decide) (fun b140 => ?_) (fun b140 => ?_)
            · exact hJ78 (by omega)
            · have hk2 : k < w.1 ∧ w.2.1 k = vlu ((cur s).1 2) ((cur s).1 3) cd := ⟨by omega, by omega⟩
              refine r_aload_n C dX4_note_72 rfl rfl ?_
              refine r_get (v := .ref (ad (96))) C (by omega) m88 (show vwCl[4]? = some (RX4, TX4, 15) from rfl) m1 9 (by decide) m4 rfl rfl dX4_note_73 ?_
              refine r_iload C dX4_note_76 rfl ?_
              refine r_dup2 C dX4_note_78 rfl rfl ?_
              refine r_iald (x := (iI ((w.2.2.2 k : Nat) : Int))) C (by omega) h96 (64 * h + k) rfl (by omega) (Nat.le_of_ble_eq_true rfl) ((hW.2 k (by omega)).2.2) dX4_note_79 ?_
              refine r_iconst C ((1 : Nat) : Int) (by decide) dX4_note_80 ?_
              refine r_iadd C ((w.2.2.2 k + 1 : Nat) : Int) (by omega) dX4_note_81 ?_
              refine r_iast C (by omega) h96 (64 * h + k) rfl (by omega) (Nat.le_of_ble_eq_true rfl) dX4_note_82 (fun f141 hs142 ho143 => ?_)
              have c144 : f141 (94) = eI tc 128 (c) := (ho143 _ (by omega)).trans h94
              have c145 : f141 (95) = eI tc 128 (v) := (ho143 _ (by omega)).trans h95
              have c146 : f141 (97) = eI tc 2 (n) := (ho143 _ (by omega)).trans h97
              exact hret f141 _ _ dX4_note_83 (⟨⟨_, _, _, _, c144, c145, hs142, c146, mw_hit hW hpos hk2.1 hk2.2, ko_hit (by omega)⟩, fun q hq => (ho143 _ (by omega))⟩)
        · refine r_iinc (lv' := [(0, .ref (ad (88))), (1, .int (iI ((h : Nat) : Int))), (2, .int (iI ((cd : Nat) : Int))), (3, .int (iI ((vlu ((cur s).1 2) ((cur s).1 3) cd : Nat) : Int))), (4, .int (iI ((64 * h : Nat) : Int))), (5, .int (iI ((64 * h + (k + 1) : Nat) : Int)))]) C ((64 * h + (k + 1) : Nat) : Int) (by omega) dX4_note_41 rfl (by decide) rfl ?_
          refine r_goto (tgt := 16) C dX4_note_44 (by decide) ?_
          exact ih5 (k + 1) (by omega) (fun j hj => if h : j < k then hlt j h else (by have e : j = k := (by omega); rw [e]; omega)) (by omega)
  exact hL3 _ 0 (by omega) (fun j hj => absurd hj (Nat.not_lt_zero _)) (Nat.lt_succ_self _)
set_option maxHeartbeats 4000000 in
set_option maxRecDepth 100000 in
/-- find(h, r): the words of row r come to half h -/
theorem c_X4_find (G : va_G) (tc : Nat → ClassId) (l : Launch) (ad : Nat → Nat) (N : Nat) (f : Nat → va_E) (s : SG) (hM : MI tc ad f s) (ho : okS s) (hN : 98 ≤ N) (c v o n : Nat → Int32) (h94 : f 94 = eI tc 128 c) (h95 : f 95 = eI tc 128 v) (h96 : f 96 = eI tc 128 o) (h97 : f 97 = eI tc 2 n) (h : Nat) (hh : h < 2) (r : Nat) (hr : r < 10)   : Ct G tc l yX4_find wsX4_find { frames := 2, cells := 0, slots := 0, locals := 47 } 0 0 [.ref (ad (88)), .int (iI ((h : Nat) : Int)), .int (iI ((r : Nat) : Int))] ad N f (poV ad N (fun f' => (∃ c' v' o' n' : Nat → Int32, f' 94 = eI tc 128 c' ∧ f' 95 = eI tc 128 v' ∧ f' 96 = eI tc 128 o' ∧ f' 97 = eI tc 2 n' ∧ MW c' v' o' n' h (wds (cur s) r) ∧ KO c' v' o' n' c v o n h) ∧ ∀ q, (q < 94 ∨ 98 ≤ q) → f' q = f q)) := by
  obtain ⟨⟨x1, x2, x3, x4, m88⟩, m89', ⟨bb, m90, hbb⟩, ⟨sb, m91, hsb⟩, ⟨ig, m92, hig⟩, m93, ⟨wc, wv, wo, wn, m94, m95, m96, m97⟩⟩ := id hM
  have m89 : f 89 = eI tc 655 (fun j => iI ((nwF ((cur s).1, (cur s).2.1, (cur s).2.2.1, (cur s).2.2.2) j : Nat) : Int)) := m89'
  obtain ⟨⟨⟨a1, a2⟩, ⟨a3, a4⟩, ⟨a5, a6⟩, a7, a8, a9, a10⟩, o2, o3, o4, o5, o6⟩ := id ho
  refine stV (cc := cX4_find) (maxL := 4) (lv := [(0, .ref (ad (88))), (1, .int (iI ((h : Nat) : Int))), (2, .int (iI ((r : Nat) : Int)))]) (by decide) rfl (Nat.le_of_ble_eq_true rfl) rfl (fun X C hret => ?_)
  have m0 : Cond.fieldLink RX4 35 "WordSamplesModel" "words" "[I" ∈ wsX4_find := by decide +kernel
  have m1 : ∀ w ∈ wsX40, w ∈ wsX4_find := by decide +kernel
  have m2 : Cond.fieldLink RX4 7 "WordSamplesModel" "now" "[I" ∈ wsX4_find := by decide +kernel
  have q9 := a9 r hr
  refine r_aload_n C dX4_find_0 rfl rfl ?_
  refine r_get (v := .ref (ad (97))) C (by omega) m88 (show vwCl[4]? = some (RX4, TX4, 15) from rfl) m1 10 (by decide) m0 rfl rfl dX4_find_1 ?_
  refine r_iload_n C dX4_find_4 rfl rfl ?_
  refine r_iconst C ((0 : Nat) : Int) (by decide) dX4_find_5 ?_
  refine r_iast C (by omega) h97 (h) rfl (by omega) (Nat.le_of_ble_eq_true rfl) dX4_find_6 (fun f1 hs2 ho3 => ?_)
  refine r_iconst C ((0 : Nat) : Int) (by decide) dX4_find_7 ?_
  refine r_istore_n (lv' := [(0, .ref (ad (88))), (1, .int (iI ((h : Nat) : Int))), (2, .int (iI ((r : Nat) : Int))), (3, .int (iI ((0 : Nat) : Int)))]) C dX4_find_8 rfl (by decide) rfl ?_
  have hL10 : ∀ (m_11 : Nat) (p : Nat) (c' : Nat → Int32) (v' : Nat → Int32) (o' : Nat → Int32) (n' : Nat → Int32) (f4 : Nat → va_E) (hm5 : f4 (94) = eI tc 128 (c')) (hm6 : f4 (95) = eI tc 128 (v')) (hm7 : f4 (96) = eI tc 128 (o')) (hm8 : f4 (97) = eI tc 2 (n')) (ho9 : ∀ q, (q < 94 ∨ 98 ≤ q) → f4 q = f1 q) (hp : p ≤ (cur s).2.1 r + 1 - (cur s).1 0) (hW : MW c' v' o' n' h (gth (cur s) r p)) (hO : KO c' v' o' n' c v o n h), (cur s).2.1 r + 1 - (cur s).1 0 - p < m_11 → VV X ad N f4 0 0 9 [(0, .ref (ad (88))), (1, .int (iI ((h : Nat) : Int))), (2, .int (iI ((r : Nat) : Int))), (3, .int (iI ((p : Nat) : Int)))] [] := by
    intro m_11
    induction m_11 with
    | zero => intros; omega
    | succ m_11 ih12 =>
      intro p c' v' o' n' f4 hm5 hm6 hm7 hm8 ho9 hp hW hO hm13
      refine r_iload_n C dX4_find_9 rfl rfl ?_
      refine r_aload_n C dX4_find_10 rfl rfl ?_
      have c14 : f1 (88) = eO 4 [.ref (ad (89)), .ref (ad (90)), .int (iI ((kno s : Nat) : Int)), .ref (ad (91)), .ref (ad (92)), .ref (ad (93)), .int (iI ((pln s : Nat) : Int)), .ref (ad (94)), .ref (ad (95)), .ref (ad (96)), .ref (ad (97)), .int (x1), .int (x2), .int (x3), .int (x4)] := (ho3 _ (by omega)).trans m88
      have c15 : f4 (88) = eO 4 [.ref (ad (89)), .ref (ad (90)), .int (iI ((kno s : Nat) : Int)), .ref (ad (91)), .ref (ad (92)), .ref (ad (93)), .int (iI ((pln s : Nat) : Int)), .ref (ad (94)), .ref (ad (95)), .ref (ad (96)), .ref (ad (97)), .int (x1), .int (x2), .int (x3), .int (x4)] := (ho9 _ (by omega)).trans c14
      refine r_get (v := .ref (ad (89))) C (by omega) c15 (show vwCl[4]? = some (RX4, TX4, 15) from rfl) m1 0 (by decide) m2 rfl rfl dX4_find_11 ?_
      refine r_iconst C ((0 : Nat) : Int) (by decide) dX4_find_14 ?_
      have c16 : f1 (89) = eI tc 655 (fun j => iI ((nwF ((cur s).1, (cur s).2.1, (cur s).2.2.1, (cur s).2.2.2) j : Nat) : Int)) := (ho3 _ (by omega)).trans m89
      have c17 : f4 (89) = eI tc 655 (fun j => iI ((nwF ((cur s).1, (cur s).2.1, (cur s).2.2.1, (cur s).2.2.2) j : Nat) : Int)) := (ho9 _ (by omega)).trans c16
      refine r_iald (x := (iI (((cur s).1 0 : Nat) : Int))) C (by omega) c17 (0) rfl (by omega) (Nat.le_of_ble_eq_true rfl) (rfl) dX4_find_15 ?_
      refine r_iadd C ((p + ((cur s).1 0) : Nat) : Int) (by omega) dX4_find_16 ?_
      refine r_aload_n C dX4_find_17 rfl rfl ?_
      refine r_get (v := .ref (ad (89))) C (by omega) c15 (show vwCl[4]? = some (RX4, TX4, 15) from rfl) m1 0 (by decide) m2 rfl rfl dX4_find_18 ?_
      refine r_iconst C ((5 : Nat) : Int) (by decide) dX4_find_21 ?_
      refine r_iload_n C dX4_find_22 rfl rfl ?_
      refine r_iadd C ((5 + r : Nat) : Int) (by omega) dX4_find_23 ?_
      refine r_iald (x := (iI (((cur s).2.1 r : Nat) : Int))) C (by omega) c17 (5 + r) rfl (by omega) (Nat.le_of_ble_eq_true rfl) (congrArg (fun q : Nat => iI ((q : Nat) : Int)) (nwL (by omega))) dX4_find_24 ?_
      refine r_icmp_gt (tgt := 45) C ⟨by omega, by omega⟩ ⟨by omega, by omega⟩ dX4_find_25 (by decide) (fun b18 => ?_) (fun b18 => ?_)
      · have hpe : p = (cur s).2.1 r + 1 - (cur s).1 0 := by omega
        rw [hpe] at hW
        exact hret f4 _ _ dX4_find_45 (⟨⟨_, _, _, _, hm5, hm6, hm7, hm8, hW, hO⟩, fun q hq => ((ho9 _ (by omega))).trans (ho3 _ (by omega))⟩)
      · have hMi19 : MI tc ad f4 s := M_re hM c15 hm5 hm6 hm7 hm8 (fun q g1 g2 => ((ho9 _ (by omega))).trans (ho3 _ (by omega)))
        have hC : cod (cur s).2.2.1 (r * 64 + p) ((cur s).1 0) ≤ 531440 := cod_le a2 (fun j hj => a10 _ (by omega))
        have hG := gth_le (cur s) r p
        refine r_aload_n C dX4_find_28 rfl rfl ?_
        refine r_iload_n C dX4_find_29 rfl rfl ?_
        refine r_aload_n C dX4_find_30 rfl rfl ?_
        refine r_iload_n C dX4_find_31 rfl rfl ?_
        refine r_iload_n C dX4_find_32 rfl rfl ?_
        refine r_callV (As := [.int (iI ((r : Nat) : Int)), .int (iI ((p : Nat) : Int))]) (rest := [.int (iI ((h : Nat) : Int)), .ref (ad (88))]) (na := 2) C (c_X4_codeAt G tc l ad N _ s hMi19 ho hN r p hr (by omega)) gX4_find_X4_codeAt rfl rfl rfl (by decide +kernel) ⟨Nat.le_of_ble_eq_true rfl, Nat.le_of_ble_eq_true rfl⟩ (by omega) c15 (show vwCl[4]? = some (RX4, TX4, 15) from rfl) rfl rfl (Nat.le_of_ble_eq_true rfl) dX4_find_33 ⟨Nat.le_of_ble_eq_true rfl, Nat.le_of_ble_eq_true rfl⟩ (aft_I (fun f20 hF21 => ?_))
        rw [hF21]
        refine r_callV (As := [.int (iI ((h : Nat) : Int)), .int (iI ((cod (cur s).2.2.1 (r * 64 + p) ((cur s).1 0) : Nat) : Int))]) (rest := []) (na := 2) C (c_X4_note G tc l ad N _ s hMi19 ho hN _ _ _ _ hm5 hm6 hm7 hm8 h hh _ hW (by omega) (gth_lt (cur s) r p) (cod (cur s).2.2.1 (r * 64 + p) ((cur s).1 0)) hC) gX4_find_X4_note rfl rfl rfl (by decide +kernel) ⟨Nat.le_of_ble_eq_true rfl, Nat.le_of_ble_eq_true rfl⟩ (by omega) c15 (show vwCl[4]? = some (RX4, TX4, 15) from rfl) rfl rfl (Nat.le_of_ble_eq_true rfl) dX4_find_36 ⟨Nat.le_of_ble_eq_true rfl, Nat.le_of_ble_eq_true rfl⟩ (aft_V (fun f22 hF23 => ?_))
        obtain ⟨⟨c2, v2, o2, n2, k94, k95, k96, k97, hW2, hO2⟩, hoE⟩ := hF23
        refine r_iinc (lv' := [(0, .ref (ad (88))), (1, .int (iI ((h : Nat) : Int))), (2, .int (iI ((r : Nat) : Int))), (3, .int (iI ((p + 1 : Nat) : Int)))]) C ((p + 1 : Nat) : Int) (by omega) dX4_find_39 rfl (by decide) rfl ?_
        refine r_goto (tgt := 9) C dX4_find_42 (by decide) ?_
        exact ih12 (p + 1) c2 v2 o2 n2 f22 k94 k95 k96 k97 (fun q hq => ((hoE _ (by omega))).trans (ho9 _ (by omega))) (by omega) hW2 (ko_trans hO2 hO) (by omega)
  have c24 : f1 (94) = eI tc 128 (c) := (ho3 _ (by omega)).trans h94
  have c25 : f1 (95) = eI tc 128 (v) := (ho3 _ (by omega)).trans h95
  have c26 : f1 (96) = eI tc 128 (o) := (ho3 _ (by omega)).trans h96
  exact hL10 _ 0 c v o (upd (n) (h) ((iI ((0 : Nat) : Int)))) f1 c24 c25 c26 hs2 (fun _ _ => rfl) (by omega) mw_0 ko_0 (Nat.lt_succ_self _)
set_option maxHeartbeats 4000000 in
set_option maxRecDepth 100000 in
/-- compare(r, o, kept) -/
theorem c_X4_compare (G : va_G) (tc : Nat → ClassId) (l : Launch) (ad : Nat → Nat) (N : Nat) (f : Nat → va_E) (s : SG) (hM : MI tc ad f s) (ho : okS s) (hN : 98 ≤ N) (r o kp : Nat) (hr : r < 10) (ho2 : o < 10) (hkp : kp ≤ 2147483647) (a b : WW) (hae : wds (cur s) r = a) (hbe : wds (cur s) o = b)   : Ct G tc l yX4_compare wsX4_compare { frames := 3, cells := 0, slots := 0, locals := 70 } 0 0 [.ref (ad (88)), .int (iI ((r : Nat) : Int)), .int (iI ((o : Nat) : Int)), .int (iI ((kp : Nat) : Int))] ad N f (poV ad N (fun f' => (∃ c v o' n : Nat → Int32, f' 94 = eI tc 128 c ∧ f' 95 = eI tc 128 v ∧ f' 96 = eI tc 128 o' ∧ f' 97 = eI tc 2 n ∧ MW c v o' n 0 a ∧ MW c v o' n 1 b) ∧ f' 88 = oM ad (kno s) (pln s) (iI ((cmw a b kp : Nat) : Int)) (iI ((lcw a b kp : Nat) : Int)) (iI ((bth a b : Nat) : Int)) (iI ((rst a b kp : Nat) : Int)) ∧ ∀ q, (q ≠ 88 ∧ (q < 94 ∨ 98 ≤ q)) → f' q = f q)) := by
  obtain ⟨⟨x1, x2, x3, x4, m88⟩, m89', ⟨bb, m90, hbb⟩, ⟨sb, m91, hsb⟩, ⟨ig, m92, hig⟩, m93, ⟨wc, wv, wo, wn, m94, m95, m96, m97⟩⟩ := id hM
  have m89 : f 89 = eI tc 655 (fun j => iI ((nwF ((cur s).1, (cur s).2.1, (cur s).2.2.1, (cur s).2.2.2) j : Nat) : Int)) := m89'
  obtain ⟨⟨⟨a1, a2⟩, ⟨a3, a4⟩, ⟨a5, a6⟩, a7, a8, a9, a10⟩, o2, o3, o4, o5, o6⟩ := id ho
  have ha : ∀ j, j < a.1 → a.2.1 j < 1000003 := by rw [← hae]; exact wds_lt _ _
  have hb : ∀ j, j < b.1 → b.2.1 j < 1000003 := by rw [← hbe]; exact wds_lt _ _
  have ha64 : a.1 ≤ 64 := by rw [← hae]; exact wds_le ho.1 hr
  have hb64 : b.1 ≤ 64 := by rw [← hbe]; exact wds_le ho.1 ho2
  refine stV (cc := cX4_compare) (maxL := 8) (lv := [(0, .ref (ad (88))), (1, .int (iI ((r : Nat) : Int))), (2, .int (iI ((o : Nat) : Int))), (3, .int (iI ((kp : Nat) : Int)))]) (by decide) rfl (Nat.le_of_ble_eq_true rfl) rfl (fun X C hret => ?_)
  have m0 : Cond.fieldLink RX4 99 "WordSamplesModel" "common" "I" ∈ wsX4_compare := by decide +kernel
  have m1 : ∀ w ∈ wsX40, w ∈ wsX4_compare := by decide +kernel
  have m2 : Cond.fieldLink RX4 102 "WordSamplesModel" "shared" "I" ∈ wsX4_compare := by decide +kernel
  have m3 : Cond.fieldLink RX4 105 "WordSamplesModel" "rest" "I" ∈ wsX4_compare := by decide +kernel
  have m4 : Cond.fieldLink RX4 108 "WordSamplesModel" "both" "I" ∈ wsX4_compare := by decide +kernel
  have m5 : Cond.fieldLink RX4 35 "WordSamplesModel" "words" "[I" ∈ wsX4_compare := by decide +kernel
  have m6 : Cond.fieldLink RX4 29 "WordSamplesModel" "values" "[I" ∈ wsX4_compare := by decide +kernel
  refine r_aload_n C dX4_compare_0 rfl rfl ?_
  refine r_iconst C ((0 : Nat) : Int) (by decide) dX4_compare_1 ?_
  refine r_iload_n C dX4_compare_2 rfl rfl ?_
  refine r_callV (As := [.int (iI ((0 : Nat) : Int)), .int (iI ((r : Nat) : Int))]) (rest := []) (na := 2) C (c_X4_find G tc l ad N _ s hM ho hN _ _ _ _ m94 m95 m96 m97 0 (by omega) r hr) gX4_compare_X4_find rfl rfl rfl (by decide +kernel) ⟨Nat.le_of_ble_eq_true rfl, Nat.le_of_ble_eq_true rfl⟩ (by omega) m88 (show vwCl[4]? = some (RX4, TX4, 15) from rfl) rfl rfl (Nat.le_of_ble_eq_true rfl) dX4_compare_3 ⟨Nat.le_of_ble_eq_true rfl, Nat.le_of_ble_eq_true rfl⟩ (aft_V (fun f1 hF2 => ?_))
  obtain ⟨⟨c1, v1, o1, n1, u94, u95, u96, u97, hW1, -⟩, hoU⟩ := hF2
  refine r_aload_n C dX4_compare_6 rfl rfl ?_
  refine r_iconst C ((1 : Nat) : Int) (by decide) dX4_compare_7 ?_
  refine r_iload_n C dX4_compare_8 rfl rfl ?_
  have c3 : f1 (88) = eO 4 [.ref (ad (89)), .ref (ad (90)), .int (iI ((kno s : Nat) : Int)), .ref (ad (91)), .ref (ad (92)), .ref (ad (93)), .int (iI ((pln s : Nat) : Int)), .ref (ad (94)), .ref (ad (95)), .ref (ad (96)), .ref (ad (97)), .int (x1), .int (x2), .int (x3), .int (x4)] := (hoU _ (by omega)).trans m88
  have hMi4 : MI tc ad f1 s := M_re hM c3 u94 u95 u96 u97 (fun q g1 g2 => (hoU _ (by omega)))
  refine r_callV (As := [.int (iI ((1 : Nat) : Int)), .int (iI ((o : Nat) : Int))]) (rest := []) (na := 2) C (c_X4_find G tc l ad N _ s hMi4 ho hN _ _ _ _ u94 u95 u96 u97 1 (by omega) o ho2) gX4_compare_X4_find rfl rfl rfl (by decide +kernel) ⟨Nat.le_of_ble_eq_true rfl, Nat.le_of_ble_eq_true rfl⟩ (by omega) c3 (show vwCl[4]? = some (RX4, TX4, 15) from rfl) rfl rfl (Nat.le_of_ble_eq_true rfl) dX4_compare_9 ⟨Nat.le_of_ble_eq_true rfl, Nat.le_of_ble_eq_true rfl⟩ (aft_V (fun f5 hF6 => ?_))
  obtain ⟨⟨c2, v2, o2, n2, w94, w95, w96, w97, hW2, hO2⟩, hoW⟩ := hF6
  rw [hae] at hW1
  rw [hbe] at hW2
  have hWa := mw_keep hW1 hO2 (by omega) ha64
  have hA := mw_v0 hWa
  have hB := mw_v1 hW2
  refine r_iconst C ((0 : Nat) : Int) (by decide) dX4_compare_12 ?_
  refine r_istore (lv' := [(0, .ref (ad (88))), (1, .int (iI ((r : Nat) : Int))), (2, .int (iI ((o : Nat) : Int))), (3, .int (iI ((kp : Nat) : Int))), (4, .int (iI ((0 : Nat) : Int)))]) C dX4_compare_13 (by decide) rfl ?_
  refine r_iconst C ((0 : Nat) : Int) (by decide) dX4_compare_15 ?_
  refine r_istore (lv' := [(0, .ref (ad (88))), (1, .int (iI ((r : Nat) : Int))), (2, .int (iI ((o : Nat) : Int))), (3, .int (iI ((kp : Nat) : Int))), (4, .int (iI ((0 : Nat) : Int))), (5, .int (iI ((0 : Nat) : Int)))]) C dX4_compare_16 (by decide) rfl ?_
  refine r_aload_n C dX4_compare_18 rfl rfl ?_
  refine r_iconst C ((0 : Nat) : Int) (by decide) dX4_compare_19 ?_
  have c7 : f5 (88) = eO 4 [.ref (ad (89)), .ref (ad (90)), .int (iI ((kno s : Nat) : Int)), .ref (ad (91)), .ref (ad (92)), .ref (ad (93)), .int (iI ((pln s : Nat) : Int)), .ref (ad (94)), .ref (ad (95)), .ref (ad (96)), .ref (ad (97)), .int (x1), .int (x2), .int (x3), .int (x4)] := (hoW _ (by omega)).trans c3
  refine r_put (ty := .int) C (by omega) c7 (show vwCl[4]? = some (RX4, TX4, 15) from rfl) m1 tyX4_ok nmX4 11 (by decide) m0 rfl rfl (by decide +kernel) rfl rfl (Nat.le_of_ble_eq_true rfl) dX4_compare_20 (fun f8 hs9 ho10 => ?_)
  have c11 : f8 (88) = eO 4 [.ref (ad (89)), .ref (ad (90)), .int (iI ((kno s : Nat) : Int)), .ref (ad (91)), .ref (ad (92)), .ref (ad (93)), .int (iI ((pln s : Nat) : Int)), .ref (ad (94)), .ref (ad (95)), .ref (ad (96)), .ref (ad (97)), .int (iI ((0 : Nat) : Int)), .int (x2), .int (x3), .int (x4)] := hs9
  refine r_aload_n C dX4_compare_23 rfl rfl ?_
  refine r_iconst C ((0 : Nat) : Int) (by decide) dX4_compare_24 ?_
  refine r_put (ty := .int) C (by omega) c11 (show vwCl[4]? = some (RX4, TX4, 15) from rfl) m1 tyX4_ok nmX4 12 (by decide) m2 rfl rfl (by decide +kernel) rfl rfl (Nat.le_of_ble_eq_true rfl) dX4_compare_25 (fun f12 hs13 ho14 => ?_)
  have c15 : f12 (88) = eO 4 [.ref (ad (89)), .ref (ad (90)), .int (iI ((kno s : Nat) : Int)), .ref (ad (91)), .ref (ad (92)), .ref (ad (93)), .int (iI ((pln s : Nat) : Int)), .ref (ad (94)), .ref (ad (95)), .ref (ad (96)), .ref (ad (97)), .int (iI ((0 : Nat) : Int)), .int (iI ((0 : Nat) : Int)), .int (x3), .int (x4)] := hs13
  have hL19 : ∀ (m_20 : Nat) (t : Nat) (f16 : Nat → va_E) (hm17 : f16 (88) = eO 4 [.ref (ad (89)), .ref (ad (90)), .int (iI ((kno s : Nat) : Int)), .ref (ad (91)), .ref (ad (92)), .ref (ad (93)), .int (iI ((pln s : Nat) : Int)), .ref (ad (94)), .ref (ad (95)), .ref (ad (96)), .ref (ad (97)), .int (iI ((t : Nat) : Int)), .int (iI (((mg a b t).2.2 : Nat) : Int)), .int (x3), .int (x4)]) (ho18 : ∀ q, q ≠ 88 → f16 q = f12 q) (htk : t ≤ kp) (hinv : (mg a b t).1 + (mg a b t).2.1 = t + (mg a b t).2.2), kp - t < m_20 → VV X ad N f16 0 0 28 [(0, .ref (ad (88))), (1, .int (iI ((r : Nat) : Int))), (2, .int (iI ((o : Nat) : Int))), (3, .int (iI ((kp : Nat) : Int))), (4, .int (iI (((mg a b t).1 : Nat) : Int))), (5, .int (iI (((mg a b t).2.1 : Nat) : Int)))] [] := by
    intro m_20
    induction m_20 with
    | zero => intros; omega
    | succ m_20 ih21 =>
      intro t f16 hm17 ho18 htk hinv hm22
      have hmi := mg_in ha hb t
      have hJ23 : ∀  (ht : t = cmw a b kp), VV X ad N f16 0 0 223 [(0, .ref (ad (88))), (1, .int (iI ((r : Nat) : Int))), (2, .int (iI ((o : Nat) : Int))), (3, .int (iI ((kp : Nat) : Int))), (4, .int (iI (((mg a b t).1 : Nat) : Int))), (5, .int (iI (((mg a b t).2.1 : Nat) : Int)))] [] := by
        intro ht
        have hJ24 : ∀ (m : Nat) (hmr : m = rst a b kp), VV X ad N f16 0 0 266 [(0, .ref (ad (88))), (1, .int (iI ((r : Nat) : Int))), (2, .int (iI ((o : Nat) : Int))), (3, .int (iI ((kp : Nat) : Int))), (4, .int (iI (((mg a b t).1 : Nat) : Int))), (5, .int (iI (((mg a b t).2.1 : Nat) : Int)))] [.int (iI ((m : Nat) : Int)), .ref (ad (88))] := by
          intro m hmr
          refine r_put (ty := .int) C (by omega) hm17 (show vwCl[4]? = some (RX4, TX4, 15) from rfl) m1 tyX4_ok nmX4 14 (by decide) m3 rfl rfl (by decide +kernel) rfl rfl (Nat.le_of_ble_eq_true rfl) dX4_compare_266 (fun f25 hs26 ho27 => ?_)
          have c28 : f25 (88) = eO 4 [.ref (ad (89)), .ref (ad (90)), .int (iI ((kno s : Nat) : Int)), .ref (ad (91)), .ref (ad (92)), .ref (ad (93)), .int (iI ((pln s : Nat) : Int)), .ref (ad (94)), .ref (ad (95)), .ref (ad (96)), .ref (ad (97)), .int (iI ((t : Nat) : Int)), .int (iI (((mg a b t).2.2 : Nat) : Int)), .int (x3), .int (iI ((m : Nat) : Int))] := hs26
          refine r_aload_n C dX4_compare_269 rfl rfl ?_
          refine r_aload_n C dX4_compare_270 rfl rfl ?_
          refine r_get (v := .int (iI (((mg a b t).2.2 : Nat) : Int))) C (by omega) c28 (show vwCl[4]? = some (RX4, TX4, 15) from rfl) m1 12 (by decide) m2 rfl rfl dX4_compare_271 ?_
          refine r_put (ty := .int) C (by omega) c28 (show vwCl[4]? = some (RX4, TX4, 15) from rfl) m1 tyX4_ok nmX4 13 (by decide) m4 rfl rfl (by decide +kernel) rfl rfl (Nat.le_of_ble_eq_true rfl) dX4_compare_274 (fun f29 hs30 ho31 => ?_)
          have c32 : f29 (88) = eO 4 [.ref (ad (89)), .ref (ad (90)), .int (iI ((kno s : Nat) : Int)), .ref (ad (91)), .ref (ad (92)), .ref (ad (93)), .int (iI ((pln s : Nat) : Int)), .ref (ad (94)), .ref (ad (95)), .ref (ad (96)), .ref (ad (97)), .int (iI ((t : Nat) : Int)), .int (iI (((mg a b t).2.2 : Nat) : Int)), .int (iI (((mg a b t).2.2 : Nat) : Int)), .int (iI ((m : Nat) : Int))] := hs30
          have hL36 : ∀ (m_37 : Nat) (u : Nat) (f33 : Nat → va_E) (hm34 : f33 (88) = eO 4 [.ref (ad (89)), .ref (ad (90)), .int (iI ((kno s : Nat) : Int)), .ref (ad (91)), .ref (ad (92)), .ref (ad (93)), .int (iI ((pln s : Nat) : Int)), .ref (ad (94)), .ref (ad (95)), .ref (ad (96)), .ref (ad (97)), .int (iI ((t : Nat) : Int)), .int (iI (((mg a b t).2.2 : Nat) : Int)), .int (iI (((mg a b u).2.2 : Nat) : Int)), .int (iI ((m : Nat) : Int))]) (ho35 : ∀ q, q ≠ 88 → f33 q = f29 q) (hu : (mg a b u).1 + (mg a b u).2.1 = u + (mg a b u).2.2), a.1 + b.1 - u < m_37 → VV X ad N f33 0 0 277 [(0, .ref (ad (88))), (1, .int (iI ((r : Nat) : Int))), (2, .int (iI ((o : Nat) : Int))), (3, .int (iI ((kp : Nat) : Int))), (4, .int (iI (((mg a b u).1 : Nat) : Int))), (5, .int (iI (((mg a b u).2.1 : Nat) : Int)))] [] := by
            intro m_37
            induction m_37 with
            | zero => intros; omega
            | succ m_37 ih38 =>
              intro u f33 hm34 ho35 hu hm39
              have hmu := mg_in ha hb u
              refine r_iload C dX4_compare_277 rfl ?_
              refine r_aload_n C dX4_compare_279 rfl rfl ?_
              refine r_get (v := .ref (ad (97))) C (by omega) hm34 (show vwCl[4]? = some (RX4, TX4, 15) from rfl) m1 10 (by decide) m5 rfl rfl dX4_compare_280 ?_
              refine r_iconst C ((0 : Nat) : Int) (by decide) dX4_compare_283 ?_
              have c40 : f8 (97) = eI tc 2 (n2) := (ho10 _ (by omega)).trans w97
              have c41 : f12 (97) = eI tc 2 (n2) := (ho14 _ (by omega)).trans c40
              have c42 : f16 (97) = eI tc 2 (n2) := (ho18 _ (by omega)).trans c41
              have c43 : f25 (97) = eI tc 2 (n2) := (ho27 _ (by omega)).trans c42
              have c44 : f29 (97) = eI tc 2 (n2) := (ho31 _ (by omega)).trans c43
              have c45 : f33 (97) = eI tc 2 (n2) := (ho35 _ (by omega)).trans c44
              refine r_iald (x := (iI ((a.1 : Nat) : Int))) C (by omega) c45 (0) rfl (by omega) (Nat.le_of_ble_eq_true rfl) (hWa.1) dX4_compare_284 ?_
              refine r_icmp_ge (tgt := 378) C ⟨by omega, by omega⟩ ⟨by omega, by omega⟩ dX4_compare_285 (by decide) (fun b46 => ?_) (fun b46 => ?_)
              · have c47 : f8 (94) = eI tc 128 (c2) := (ho10 _ (by omega)).trans w94
                have c48 : f12 (94) = eI tc 128 (c2) := (ho14 _ (by omega)).trans c47
                have c49 : f16 (94) = eI tc 128 (c2) := (ho18 _ (by omega)).trans c48
                have c50 : f25 (94) = eI tc 128 (c2) := (ho27 _ (by omega)).trans c49
                have c51 : f29 (94) = eI tc 128 (c2) := (ho31 _ (by omega)).trans c50
                have c52 : f33 (94) = eI tc 128 (c2) := (ho35 _ (by omega)).trans c51
                have c53 : f8 (95) = eI tc 128 (v2) := (ho10 _ (by omega)).trans w95
                have c54 : f12 (95) = eI tc 128 (v2) := (ho14 _ (by omega)).trans c53
                have c55 : f16 (95) = eI tc 128 (v2) := (ho18 _ (by omega)).trans c54
                have c56 : f25 (95) = eI tc 128 (v2) := (ho27 _ (by omega)).trans c55
                have c57 : f29 (95) = eI tc 128 (v2) := (ho31 _ (by omega)).trans c56
                have c58 : f33 (95) = eI tc 128 (v2) := (ho35 _ (by omega)).trans c57
                have c59 : f8 (96) = eI tc 128 (o2) := (ho10 _ (by omega)).trans w96
                have c60 : f12 (96) = eI tc 128 (o2) := (ho14 _ (by omega)).trans c59
                have c61 : f16 (96) = eI tc 128 (o2) := (ho18 _ (by omega)).trans c60
                have c62 : f25 (96) = eI tc 128 (o2) := (ho27 _ (by omega)).trans c61
                have c63 : f29 (96) = eI tc 128 (o2) := (ho31 _ (by omega)).trans c62
                have c64 : f33 (96) = eI tc 128 (o2) := (ho35 _ (by omega)).trans c63
                have hbu : (mg a b u).2.2 = bth a b := mg_rest ha hb (by omega) hu
                have hlt : (mg a b t).2.2 = lcw a b kp := by rw [ht]; rfl
                exact hret f33 _ _ dX4_compare_378 (⟨⟨_, _, _, _, c52, c58, c64, c45, hWa, hW2⟩, hm34.trans (by rw [hlt, hbu, hmr, ht]), fun q hq => ((((((((ho35 _ (by omega))).trans (ho31 _ (by omega))).trans (ho27 _ (by omega))).trans (ho18 _ (by omega))).trans (ho14 _ (by omega))).trans (ho10 _ (by omega))).trans (hoW _ (by omega))).trans (hoU _ (by omega))⟩)
              · refine r_iload C dX4_compare_288 rfl ?_
                refine r_aload_n C dX4_compare_290 rfl rfl ?_
                refine r_get (v := .ref (ad (97))) C (by omega) hm34 (show vwCl[4]? = some (RX4, TX4, 15) from rfl) m1 10 (by decide) m5 rfl rfl dX4_compare_291 ?_
                refine r_iconst C ((1 : Nat) : Int) (by decide) dX4_compare_294 ?_
                refine r_iald (x := (iI ((b.1 : Nat) : Int))) C (by omega) c45 (1) rfl (by omega) (Nat.le_of_ble_eq_true rfl) (hW2.1) dX4_compare_295 ?_
                refine r_icmp_ge (tgt := 378) C ⟨by omega, by omega⟩ ⟨by omega, by omega⟩ dX4_compare_296 (by decide) (fun b65 => ?_) (fun b65 => ?_)
                · have c66 : f8 (94) = eI tc 128 (c2) := (ho10 _ (by omega)).trans w94
                  have c67 : f12 (94) = eI tc 128 (c2) := (ho14 _ (by omega)).trans c66
                  have c68 : f16 (94) = eI tc 128 (c2) := (ho18 _ (by omega)).trans c67
                  have c69 : f25 (94) = eI tc 128 (c2) := (ho27 _ (by omega)).trans c68
                  have c70 : f29 (94) = eI tc 128 (c2) := (ho31 _ (by omega)).trans c69
                  have c71 : f33 (94) = eI tc 128 (c2) := (ho35 _ (by omega)).trans c70
                  have c72 : f8 (95) = eI tc 128 (v2) := (ho10 _ (by omega)).trans w95
                  have c73 : f12 (95) = eI tc 128 (v2) := (ho14 _ (by omega)).trans c72
                  have c74 : f16 (95) = eI tc 128 (v2) := (ho18 _ (by omega)).trans c73
                  have c75 : f25 (95) = eI tc 128 (v2) := (ho27 _ (by omega)).trans c74
                  have c76 : f29 (95) = eI tc 128 (v2) := (ho31 _ (by omega)).trans c75
                  have c77 : f33 (95) = eI tc 128 (v2) := (ho35 _ (by omega)).trans c76
                  have c78 : f8 (96) = eI tc 128 (o2) := (ho10 _ (by omega)).trans w96
                  have c79 : f12 (96) = eI tc 128 (o2) := (ho14 _ (by omega)).trans c78
                  have c80 : f16 (96) = eI tc 128 (o2) := (ho18 _ (by omega)).trans c79
                  have c81 : f25 (96) = eI tc 128 (o2) := (ho27 _ (by omega)).trans c80
                  have c82 : f29 (96) = eI tc 128 (o2) := (ho31 _ (by omega)).trans c81
                  have c83 : f33 (96) = eI tc 128 (o2) := (ho35 _ (by omega)).trans c82
                  have hbu : (mg a b u).2.2 = bth a b := mg_rest ha hb (by omega) hu
                  have hlt : (mg a b t).2.2 = lcw a b kp := by rw [ht]; rfl
                  exact hret f33 _ _ dX4_compare_378 (⟨⟨_, _, _, _, c71, c77, c83, c45, hWa, hW2⟩, hm34.trans (by rw [hlt, hbu, hmr, ht]), fun q hq => ((((((((ho35 _ (by omega))).trans (ho31 _ (by omega))).trans (ho27 _ (by omega))).trans (ho18 _ (by omega))).trans (ho14 _ (by omega))).trans (ho10 _ (by omega))).trans (hoW _ (by omega))).trans (hoU _ (by omega))⟩)
                · have l1 := vatN_le ha (mg a b u).1
                  have l2 := vatN_le hb (mg a b u).2.1
                  have nn1 := vatN_end ha (mg a b u).1
                  have nn2 := vatN_end hb (mg a b u).2.1
                  have or1 := vatN_or a (mg a b u).1
                  have or2 := vatN_or b (mg a b u).2.1
                  have hnot : ¬ (vatN a (mg a b u).1 = 1000003 ∧ vatN b (mg a b u).2.1 = 1000003) := by omega
                  obtain ⟨s1, s2, s3⟩ := mg_step a b u hnot
                  have hmu2 := mg_in ha hb (u + 1)
                  refine r_aload_n C dX4_compare_299 rfl rfl ?_
                  refine r_get (v := .ref (ad (95))) C (by omega) hm34 (show vwCl[4]? = some (RX4, TX4, 15) from rfl) m1 8 (by decide) m6 rfl rfl dX4_compare_300 ?_
                  refine r_iload C dX4_compare_303 rfl ?_
                  have c84 : f8 (95) = eI tc 128 (v2) := (ho10 _ (by omega)).trans w95
                  have c85 : f12 (95) = eI tc 128 (v2) := (ho14 _ (by omega)).trans c84
                  have c86 : f16 (95) = eI tc 128 (v2) := (ho18 _ (by omega)).trans c85
                  have c87 : f25 (95) = eI tc 128 (v2) := (ho27 _ (by omega)).trans c86
                  have c88 : f29 (95) = eI tc 128 (v2) := (ho31 _ (by omega)).trans c87
                  have c89 : f33 (95) = eI tc 128 (v2) := (ho35 _ (by omega)).trans c88
                  refine r_iald (x := (iI ((a.2.1 (mg a b u).1 : Nat) : Int))) C (by omega) c89 ((mg a b u).1) rfl (by omega) (Nat.le_of_ble_eq_true rfl) (hA _ (by omega)) dX4_compare_305 ?_
                  refine r_istore (lv' := [(0, .ref (ad (88))), (1, .int (iI ((r : Nat) : Int))), (2, .int (iI ((o : Nat) : Int))), (3, .int (iI ((kp : Nat) : Int))), (4, .int (iI (((mg a b u).1 : Nat) : Int))), (5, .int (iI (((mg a b u).2.1 : Nat) : Int))), (6, .int (iI ((a.2.1 (mg a b u).1 : Nat) : Int)))]) C dX4_compare_306 (by decide) rfl ?_
                  refine r_aload_n C dX4_compare_308 rfl rfl ?_
                  refine r_get (v := .ref (ad (95))) C (by omega) hm34 (show vwCl[4]? = some (RX4, TX4, 15) from rfl) m1 8 (by decide) m6 rfl rfl dX4_compare_309 ?_
                  refine r_bipush C ((64 : Nat) : Int) (by decide) dX4_compare_312 ?_
                  refine r_iload C dX4_compare_314 rfl ?_
                  refine r_iadd C ((64 + ((mg a b u).2.1) : Nat) : Int) (by omega) dX4_compare_316 ?_
                  refine r_iald (x := (iI ((b.2.1 (mg a b u).2.1 : Nat) : Int))) C (by omega) c89 (64 + ((mg a b u).2.1)) rfl (by omega) (Nat.le_of_ble_eq_true rfl) (hB _ (by omega)) dX4_compare_317 ?_
                  refine r_istore (lv' := [(0, .ref (ad (88))), (1, .int (iI ((r : Nat) : Int))), (2, .int (iI ((o : Nat) : Int))), (3, .int (iI ((kp : Nat) : Int))), (4, .int (iI (((mg a b u).1 : Nat) : Int))), (5, .int (iI (((mg a b u).2.1 : Nat) : Int))), (6, .int (iI ((a.2.1 (mg a b u).1 : Nat) : Int))), (7, .int (iI ((b.2.1 (mg a b u).2.1 : Nat) : Int)))]) C dX4_compare_318 (by decide) rfl ?_
                  refine r_aload_n C dX4_compare_320 rfl rfl ?_
                  refine r_dup C dX4_compare_321 rfl ?_
                  refine r_get (v := .int (iI (((mg a b u).2.2 : Nat) : Int))) C (by omega) hm34 (show vwCl[4]? = some (RX4, TX4, 15) from rfl) m1 13 (by decide) m4 rfl rfl dX4_compare_322 ?_
                  have hJ90 : ∀ (t4 : Nat) (ht4 : (vatN a (mg a b u).1 = vatN b (mg a b u).2.1 ∧ t4 = 1) ∨ (¬ vatN a (mg a b u).1 = vatN b (mg a b u).2.1 ∧ t4 = 0)), VV X ad N f33 0 0 337 [(0, .ref (ad (88))), (1, .int (iI ((r : Nat) : Int))), (2, .int (iI ((o : Nat) : Int))), (3, .int (iI ((kp : Nat) : Int))), (4, .int (iI (((mg a b u).1 : Nat) : Int))), (5, .int (iI (((mg a b u).2.1 : Nat) : Int))), (6, .int (iI ((a.2.1 (mg a b u).1 : Nat) : Int))), (7, .int (iI ((b.2.1 (mg a b u).2.1 : Nat) : Int)))] [.int (iI ((t4 : Nat) : Int)), .int (iI (((mg a b u).2.2 : Nat) : Int)), .ref (ad (88))] := by
                    intro t4 ht4
                    refine r_iadd C (((mg a b (u + 1)).2.2 : Nat) : Int) (by omega) dX4_compare_337 ?_
                    refine r_put (ty := .int) C (by omega) hm34 (show vwCl[4]? = some (RX4, TX4, 15) from rfl) m1 tyX4_ok nmX4 13 (by decide) m4 rfl rfl (by decide +kernel) rfl rfl (Nat.le_of_ble_eq_true rfl) dX4_compare_338 (fun f91 hs92 ho93 => ?_)
                    have c94 : f91 (88) = eO 4 [.ref (ad (89)), .ref (ad (90)), .int (iI ((kno s : Nat) : Int)), .ref (ad (91)), .ref (ad (92)), .ref (ad (93)), .int (iI ((pln s : Nat) : Int)), .ref (ad (94)), .ref (ad (95)), .ref (ad (96)), .ref (ad (97)), .int (iI ((t : Nat) : Int)), .int (iI (((mg a b t).2.2 : Nat) : Int)), .int (iI (((mg a b (u + 1)).2.2 : Nat) : Int)), .int (iI ((m : Nat) : Int))] := hs92
                    refine r_iload C dX4_compare_341 rfl ?_
                    have hJ95 : ∀ (t5 : Nat) (ht5 : (vatN a (mg a b u).1 ≤ vatN b (mg a b u).2.1 ∧ t5 = 1) ∨ (¬ vatN a (mg a b u).1 ≤ vatN b (mg a b u).2.1 ∧ t5 = 0)), VV X ad N f91 0 0 355 [(0, .ref (ad (88))), (1, .int (iI ((r : Nat) : Int))), (2, .int (iI ((o : Nat) : Int))), (3, .int (iI ((kp : Nat) : Int))), (4, .int (iI (((mg a b u).1 : Nat) : Int))), (5, .int (iI (((mg a b u).2.1 : Nat) : Int))), (6, .int (iI ((a.2.1 (mg a b u).1 : Nat) : Int))), (7, .int (iI ((b.2.1 (mg a b u).2.1 : Nat) : Int)))] [.int (iI ((t5 : Nat) : Int)), .int (iI (((mg a b u).1 : Nat) : Int))] := by
                      intro t5 ht5
                      refine r_iadd C (((mg a b (u + 1)).1 : Nat) : Int) (by omega) dX4_compare_355 ?_
                      refine r_istore (lv' := [(0, .ref (ad (88))), (1, .int (iI ((r : Nat) : Int))), (2, .int (iI ((o : Nat) : Int))), (3, .int (iI ((kp : Nat) : Int))), (4, .int (iI (((mg a b (u + 1)).1 : Nat) : Int))), (5, .int (iI (((mg a b u).2.1 : Nat) : Int))), (6, .int (iI ((a.2.1 (mg a b u).1 : Nat) : Int))), (7, .int (iI ((b.2.1 (mg a b u).2.1 : Nat) : Int)))]) C dX4_compare_356 (by decide) rfl ?_
                      refine r_iload C dX4_compare_358 rfl ?_
                      have hJ96 : ∀ (t6 : Nat) (ht6 : (vatN b (mg a b u).2.1 ≤ vatN a (mg a b u).1 ∧ t6 = 1) ∨ (¬ vatN b (mg a b u).2.1 ≤ vatN a (mg a b u).1 ∧ t6 = 0)), VV X ad N f91 0 0 372 [(0, .ref (ad (88))), (1, .int (iI ((r : Nat) : Int))), (2, .int (iI ((o : Nat) : Int))), (3, .int (iI ((kp : Nat) : Int))), (4, .int (iI (((mg a b (u + 1)).1 : Nat) : Int))), (5, .int (iI (((mg a b u).2.1 : Nat) : Int))), (6, .int (iI ((a.2.1 (mg a b u).1 : Nat) : Int))), (7, .int (iI ((b.2.1 (mg a b u).2.1 : Nat) : Int)))] [.int (iI ((t6 : Nat) : Int)), .int (iI (((mg a b u).2.1 : Nat) : Int))] := by
                        intro t6 ht6
                        refine r_iadd C (((mg a b (u + 1)).2.1 : Nat) : Int) (by omega) dX4_compare_372 ?_
                        refine r_istore (lv' := [(0, .ref (ad (88))), (1, .int (iI ((r : Nat) : Int))), (2, .int (iI ((o : Nat) : Int))), (3, .int (iI ((kp : Nat) : Int))), (4, .int (iI (((mg a b (u + 1)).1 : Nat) : Int))), (5, .int (iI (((mg a b (u + 1)).2.1 : Nat) : Int))), (6, .int (iI ((a.2.1 (mg a b u).1 : Nat) : Int))), (7, .int (iI ((b.2.1 (mg a b u).2.1 : Nat) : Int)))]) C dX4_compare_373 (by decide) rfl ?_
                        refine r_goto (tgt := 277) C dX4_compare_375 (by decide) ?_
                        refine r_sub (ks := [0, 1, 2, 3, 4, 5]) (lv' := [(0, .ref (ad (88))), (1, .int (iI ((r : Nat) : Int))), (2, .int (iI ((o : Nat) : Int))), (3, .int (iI ((kp : Nat) : Int))), (4, .int (iI (((mg a b (u + 1)).1 : Nat) : Int))), (5, .int (iI (((mg a b (u + 1)).2.1 : Nat) : Int)))]) rfl ?_
                        exact ih38 (u + 1) f91 c94 (fun q hq => ((ho93 _ (by omega))).trans (ho35 _ (by omega))) (by omega) (by omega)
                      refine r_iload C dX4_compare_360 rfl ?_
                      refine r_iload C dX4_compare_362 rfl ?_
                      refine r_icmp_gt (tgt := 371) C ⟨by omega, by omega⟩ ⟨by omega, by omega⟩ dX4_compare_364 (by decide) (fun b97 => ?_) (fun b97 => ?_)
                      · refine r_iconst C ((0 : Nat) : Int) (by decide) dX4_compare_371 ?_
                        exact hJ96 0 (by omega)
                      · refine r_iconst C ((1 : Nat) : Int) (by decide) dX4_compare_367 ?_
                        refine r_goto (tgt := 372) C dX4_compare_368 (by decide) ?_
                        exact hJ96 1 (by omega)
                    refine r_iload C dX4_compare_343 rfl ?_
                    refine r_iload C dX4_compare_345 rfl ?_
                    refine r_icmp_gt (tgt := 354) C ⟨by omega, by omega⟩ ⟨by omega, by omega⟩ dX4_compare_347 (by decide) (fun b98 => ?_) (fun b98 => ?_)
                    · refine r_iconst C ((0 : Nat) : Int) (by decide) dX4_compare_354 ?_
                      exact hJ95 0 (by omega)
                    · refine r_iconst C ((1 : Nat) : Int) (by decide) dX4_compare_350 ?_
                      refine r_goto (tgt := 355) C dX4_compare_351 (by decide) ?_
                      exact hJ95 1 (by omega)
                  refine r_iload C dX4_compare_325 rfl ?_
                  refine r_iload C dX4_compare_327 rfl ?_
                  refine r_icmp_ne (tgt := 336) C ⟨by omega, by omega⟩ ⟨by omega, by omega⟩ dX4_compare_329 (by decide) (fun b99 => ?_) (fun b99 => ?_)
                  · refine r_iconst C ((0 : Nat) : Int) (by decide) dX4_compare_336 ?_
                    exact hJ90 0 (by omega)
                  · refine r_iconst C ((1 : Nat) : Int) (by decide) dX4_compare_332 ?_
                    refine r_goto (tgt := 337) C dX4_compare_333 (by decide) ?_
                    exact hJ90 1 (by omega)
          exact hL36 _ t f29 c32 (fun _ _ => rfl) (by omega) (Nat.lt_succ_self _)
        refine r_aload_n C dX4_compare_223 rfl rfl ?_
        refine r_aload_n C dX4_compare_224 rfl rfl ?_
        refine r_get (v := .ref (ad (97))) C (by omega) hm17 (show vwCl[4]? = some (RX4, TX4, 15) from rfl) m1 10 (by decide) m5 rfl rfl dX4_compare_225 ?_
        refine r_iconst C ((0 : Nat) : Int) (by decide) dX4_compare_228 ?_
        have c100 : f8 (97) = eI tc 2 (n2) := (ho10 _ (by omega)).trans w97
        have c101 : f12 (97) = eI tc 2 (n2) := (ho14 _ (by omega)).trans c100
        have c102 : f16 (97) = eI tc 2 (n2) := (ho18 _ (by omega)).trans c101
        refine r_iald (x := (iI ((a.1 : Nat) : Int))) C (by omega) c102 (0) rfl (by omega) (Nat.le_of_ble_eq_true rfl) (hWa.1) dX4_compare_229 ?_
        refine r_iload C dX4_compare_230 rfl ?_
        refine r_isub C ((a.1 - (mg a b t).1 : Nat) : Int) (by omega) dX4_compare_232 ?_
        refine r_aload_n C dX4_compare_233 rfl rfl ?_
        refine r_get (v := .ref (ad (97))) C (by omega) hm17 (show vwCl[4]? = some (RX4, TX4, 15) from rfl) m1 10 (by decide) m5 rfl rfl dX4_compare_234 ?_
        refine r_iconst C ((1 : Nat) : Int) (by decide) dX4_compare_237 ?_
        refine r_iald (x := (iI ((b.1 : Nat) : Int))) C (by omega) c102 (1) rfl (by omega) (Nat.le_of_ble_eq_true rfl) (hW2.1) dX4_compare_238 ?_
        refine r_iload C dX4_compare_239 rfl ?_
        refine r_isub C ((b.1 - (mg a b t).2.1 : Nat) : Int) (by omega) dX4_compare_241 ?_
        refine r_icmp_ge (tgt := 257) C ⟨by omega, by omega⟩ ⟨by omega, by omega⟩ dX4_compare_242 (by decide) (fun b103 => ?_) (fun b103 => ?_)
        · refine r_aload_n C dX4_compare_257 rfl rfl ?_
          refine r_get (v := .ref (ad (97))) C (by omega) hm17 (show vwCl[4]? = some (RX4, TX4, 15) from rfl) m1 10 (by decide) m5 rfl rfl dX4_compare_258 ?_
          refine r_iconst C ((1 : Nat) : Int) (by decide) dX4_compare_261 ?_
          refine r_iald (x := (iI ((b.1 : Nat) : Int))) C (by omega) c102 (1) rfl (by omega) (Nat.le_of_ble_eq_true rfl) (hW2.1) dX4_compare_262 ?_
          refine r_iload C dX4_compare_263 rfl ?_
          refine r_isub C ((b.1 - (mg a b t).2.1 : Nat) : Int) (by omega) dX4_compare_265 ?_
          exact hJ24 (b.1 - (mg a b t).2.1) (by rw [rst, ← ht]; omega)
        · refine r_aload_n C dX4_compare_245 rfl rfl ?_
          refine r_get (v := .ref (ad (97))) C (by omega) hm17 (show vwCl[4]? = some (RX4, TX4, 15) from rfl) m1 10 (by decide) m5 rfl rfl dX4_compare_246 ?_
          refine r_iconst C ((0 : Nat) : Int) (by decide) dX4_compare_249 ?_
          refine r_iald (x := (iI ((a.1 : Nat) : Int))) C (by omega) c102 (0) rfl (by omega) (Nat.le_of_ble_eq_true rfl) (hWa.1) dX4_compare_250 ?_
          refine r_iload C dX4_compare_251 rfl ?_
          refine r_isub C ((a.1 - (mg a b t).1 : Nat) : Int) (by omega) dX4_compare_253 ?_
          refine r_goto (tgt := 266) C dX4_compare_254 (by decide) ?_
          exact hJ24 (a.1 - (mg a b t).1) (by rw [rst, ← ht]; omega)
      refine r_aload_n C dX4_compare_28 rfl rfl ?_
      refine r_get (v := .int (iI ((t : Nat) : Int))) C (by omega) hm17 (show vwCl[4]? = some (RX4, TX4, 15) from rfl) m1 11 (by decide) m0 rfl rfl dX4_compare_29 ?_
      refine r_iload_n C dX4_compare_32 rfl rfl ?_
      refine r_icmp_ge (tgt := 223) C ⟨by omega, by omega⟩ ⟨by omega, by omega⟩ dX4_compare_33 (by decide) (fun b104 => ?_) (fun b104 => ?_)
      · exact hJ23 (cmw_at ha hb hinv (by omega) (by omega))
      · refine r_iload C dX4_compare_36 rfl ?_
        refine r_aload_n C dX4_compare_38 rfl rfl ?_
        refine r_get (v := .ref (ad (97))) C (by omega) hm17 (show vwCl[4]? = some (RX4, TX4, 15) from rfl) m1 10 (by decide) m5 rfl rfl dX4_compare_39 ?_
        refine r_iconst C ((0 : Nat) : Int) (by decide) dX4_compare_42 ?_
        have c105 : f8 (97) = eI tc 2 (n2) := (ho10 _ (by omega)).trans w97
        have c106 : f12 (97) = eI tc 2 (n2) := (ho14 _ (by omega)).trans c105
        have c107 : f16 (97) = eI tc 2 (n2) := (ho18 _ (by omega)).trans c106
        refine r_iald (x := (iI ((a.1 : Nat) : Int))) C (by omega) c107 (0) rfl (by omega) (Nat.le_of_ble_eq_true rfl) (hWa.1) dX4_compare_43 ?_
        refine r_icmp_lt (tgt := 58) C ⟨by omega, by omega⟩ ⟨by omega, by omega⟩ dX4_compare_44 (by decide) (fun b108 => ?_) (fun b108 => ?_)
        · have l1 := vatN_le ha (mg a b t).1
          have l2 := vatN_le hb (mg a b t).2.1
          have nn1 := vatN_end ha (mg a b t).1
          have nn2 := vatN_end hb (mg a b t).2.1
          have or1 := vatN_or a (mg a b t).1
          have or2 := vatN_or b (mg a b t).2.1
          have hJ109 : ∀ (b1 : Nat) (hb1 : (vatN a (mg a b t).1 ≤ vatN b (mg a b t).2.1 ∧ b1 = 1) ∨ (¬ vatN a (mg a b t).1 ≤ vatN b (mg a b t).2.1 ∧ b1 = 0)), VV X ad N f16 0 0 107 [(0, .ref (ad (88))), (1, .int (iI ((r : Nat) : Int))), (2, .int (iI ((o : Nat) : Int))), (3, .int (iI ((kp : Nat) : Int))), (4, .int (iI (((mg a b t).1 : Nat) : Int))), (5, .int (iI (((mg a b t).2.1 : Nat) : Int))), (6, .int (iI ((b1 : Nat) : Int)))] [] := by
            intro b1 hb1
            have hJ110 : ∀ (b2 : Nat) (hb2 : (vatN b (mg a b t).2.1 ≤ vatN a (mg a b t).1 ∧ b2 = 1) ∨ (¬ vatN b (mg a b t).2.1 ≤ vatN a (mg a b t).1 ∧ b2 = 0)), VV X ad N f16 0 0 156 [(0, .ref (ad (88))), (1, .int (iI ((r : Nat) : Int))), (2, .int (iI ((o : Nat) : Int))), (3, .int (iI ((kp : Nat) : Int))), (4, .int (iI (((mg a b t).1 : Nat) : Int))), (5, .int (iI (((mg a b t).2.1 : Nat) : Int))), (6, .int (iI ((b1 : Nat) : Int))), (7, .int (iI ((b2 : Nat) : Int)))] [] := by
              intro b2 hb2
              have hnot : ¬ (vatN a (mg a b t).1 = 1000003 ∧ vatN b (mg a b t).2.1 = 1000003) := by omega
              obtain ⟨s1, s2, s3⟩ := mg_step a b t hnot
              have hmi2 := mg_in ha hb (t + 1)
              refine r_aload_n C dX4_compare_156 rfl rfl ?_
              refine r_dup C dX4_compare_157 rfl ?_
              refine r_get (v := .int (iI ((t : Nat) : Int))) C (by omega) hm17 (show vwCl[4]? = some (RX4, TX4, 15) from rfl) m1 11 (by decide) m0 rfl rfl dX4_compare_158 ?_
              refine r_iconst C ((1 : Nat) : Int) (by decide) dX4_compare_161 ?_
              refine r_iadd C ((t + 1 : Nat) : Int) (by omega) dX4_compare_162 ?_
              refine r_put (ty := .int) C (by omega) hm17 (show vwCl[4]? = some (RX4, TX4, 15) from rfl) m1 tyX4_ok nmX4 11 (by decide) m0 rfl rfl (by decide +kernel) rfl rfl (Nat.le_of_ble_eq_true rfl) dX4_compare_163 (fun f111 hs112 ho113 => ?_)
              have c114 : f111 (88) = eO 4 [.ref (ad (89)), .ref (ad (90)), .int (iI ((kno s : Nat) : Int)), .ref (ad (91)), .ref (ad (92)), .ref (ad (93)), .int (iI ((pln s : Nat) : Int)), .ref (ad (94)), .ref (ad (95)), .ref (ad (96)), .ref (ad (97)), .int (iI ((t + 1 : Nat) : Int)), .int (iI (((mg a b t).2.2 : Nat) : Int)), .int (x3), .int (x4)] := hs112
              refine r_aload_n C dX4_compare_166 rfl rfl ?_
              refine r_dup C dX4_compare_167 rfl ?_
              refine r_get (v := .int (iI (((mg a b t).2.2 : Nat) : Int))) C (by omega) c114 (show vwCl[4]? = some (RX4, TX4, 15) from rfl) m1 12 (by decide) m2 rfl rfl dX4_compare_168 ?_
              have hJ115 : ∀ (t3 : Nat) (ht3 : (vatN a (mg a b t).1 = vatN b (mg a b t).2.1 ∧ t3 = 1) ∨ (¬ vatN a (mg a b t).1 = vatN b (mg a b t).2.1 ∧ t3 = 0)), VV X ad N f111 0 0 186 [(0, .ref (ad (88))), (1, .int (iI ((r : Nat) : Int))), (2, .int (iI ((o : Nat) : Int))), (3, .int (iI ((kp : Nat) : Int))), (4, .int (iI (((mg a b t).1 : Nat) : Int))), (5, .int (iI (((mg a b t).2.1 : Nat) : Int))), (6, .int (iI ((b1 : Nat) : Int))), (7, .int (iI ((b2 : Nat) : Int)))] [.int (iI ((t3 : Nat) : Int)), .int (iI (((mg a b t).2.2 : Nat) : Int)), .ref (ad (88))] := by
                intro t3 ht3
                refine r_iadd C (((mg a b (t + 1)).2.2 : Nat) : Int) (by omega) dX4_compare_186 ?_
                refine r_put (ty := .int) C (by omega) c114 (show vwCl[4]? = some (RX4, TX4, 15) from rfl) m1 tyX4_ok nmX4 12 (by decide) m2 rfl rfl (by decide +kernel) rfl rfl (Nat.le_of_ble_eq_true rfl) dX4_compare_187 (fun f116 hs117 ho118 => ?_)
                have c119 : f116 (88) = eO 4 [.ref (ad (89)), .ref (ad (90)), .int (iI ((kno s : Nat) : Int)), .ref (ad (91)), .ref (ad (92)), .ref (ad (93)), .int (iI ((pln s : Nat) : Int)), .ref (ad (94)), .ref (ad (95)), .ref (ad (96)), .ref (ad (97)), .int (iI ((t + 1 : Nat) : Int)), .int (iI (((mg a b (t + 1)).2.2 : Nat) : Int)), .int (x3), .int (x4)] := hs117
                refine r_iload C dX4_compare_190 rfl ?_
                have hJ120 : ∀ (t1 : Nat) (ht1 : (vatN a (mg a b t).1 ≤ vatN b (mg a b t).2.1 ∧ t1 = 1) ∨ (¬ vatN a (mg a b t).1 ≤ vatN b (mg a b t).2.1 ∧ t1 = 0)), VV X ad N f116 0 0 202 [(0, .ref (ad (88))), (1, .int (iI ((r : Nat) : Int))), (2, .int (iI ((o : Nat) : Int))), (3, .int (iI ((kp : Nat) : Int))), (4, .int (iI (((mg a b t).1 : Nat) : Int))), (5, .int (iI (((mg a b t).2.1 : Nat) : Int))), (6, .int (iI ((b1 : Nat) : Int))), (7, .int (iI ((b2 : Nat) : Int)))] [.int (iI ((t1 : Nat) : Int)), .int (iI (((mg a b t).1 : Nat) : Int))] := by
                  intro t1 ht1
                  refine r_iadd C (((mg a b (t + 1)).1 : Nat) : Int) (by omega) dX4_compare_202 ?_
                  refine r_istore (lv' := [(0, .ref (ad (88))), (1, .int (iI ((r : Nat) : Int))), (2, .int (iI ((o : Nat) : Int))), (3, .int (iI ((kp : Nat) : Int))), (4, .int (iI (((mg a b (t + 1)).1 : Nat) : Int))), (5, .int (iI (((mg a b t).2.1 : Nat) : Int))), (6, .int (iI ((b1 : Nat) : Int))), (7, .int (iI ((b2 : Nat) : Int)))]) C dX4_compare_203 (by decide) rfl ?_
                  refine r_iload C dX4_compare_205 rfl ?_
                  have hJ121 : ∀ (t2 : Nat) (ht2 : (vatN b (mg a b t).2.1 ≤ vatN a (mg a b t).1 ∧ t2 = 1) ∨ (¬ vatN b (mg a b t).2.1 ≤ vatN a (mg a b t).1 ∧ t2 = 0)), VV X ad N f116 0 0 217 [(0, .ref (ad (88))), (1, .int (iI ((r : Nat) : Int))), (2, .int (iI ((o : Nat) : Int))), (3, .int (iI ((kp : Nat) : Int))), (4, .int (iI (((mg a b (t + 1)).1 : Nat) : Int))), (5, .int (iI (((mg a b t).2.1 : Nat) : Int))), (6, .int (iI ((b1 : Nat) : Int))), (7, .int (iI ((b2 : Nat) : Int)))] [.int (iI ((t2 : Nat) : Int)), .int (iI (((mg a b t).2.1 : Nat) : Int))] := by
                    intro t2 ht2
                    refine r_iadd C (((mg a b (t + 1)).2.1 : Nat) : Int) (by omega) dX4_compare_217 ?_
                    refine r_istore (lv' := [(0, .ref (ad (88))), (1, .int (iI ((r : Nat) : Int))), (2, .int (iI ((o : Nat) : Int))), (3, .int (iI ((kp : Nat) : Int))), (4, .int (iI (((mg a b (t + 1)).1 : Nat) : Int))), (5, .int (iI (((mg a b (t + 1)).2.1 : Nat) : Int))), (6, .int (iI ((b1 : Nat) : Int))), (7, .int (iI ((b2 : Nat) : Int)))]) C dX4_compare_218 (by decide) rfl ?_
                    refine r_goto (tgt := 28) C dX4_compare_220 (by decide) ?_
                    refine r_sub (ks := [0, 1, 2, 3, 4, 5]) (lv' := [(0, .ref (ad (88))), (1, .int (iI ((r : Nat) : Int))), (2, .int (iI ((o : Nat) : Int))), (3, .int (iI ((kp : Nat) : Int))), (4, .int (iI (((mg a b (t + 1)).1 : Nat) : Int))), (5, .int (iI (((mg a b (t + 1)).2.1 : Nat) : Int)))]) rfl ?_
                    exact ih21 (t + 1) f116 c119 (fun q hq => (((ho118 _ (by omega))).trans (ho113 _ (by omega))).trans (ho18 _ (by omega))) (by omega) (by omega) (by omega)
                  refine r_iload C dX4_compare_207 rfl ?_
                  refine r_if_eq (tgt := 216) C ⟨by omega, by omega⟩ dX4_compare_209 (by decide) (fun b122 => ?_) (fun b122 => ?_)
                  · refine r_iconst C ((0 : Nat) : Int) (by decide) dX4_compare_216 ?_
                    exact hJ121 0 (by omega)
                  · refine r_iconst C ((1 : Nat) : Int) (by decide) dX4_compare_212 ?_
                    refine r_goto (tgt := 217) C dX4_compare_213 (by decide) ?_
                    exact hJ121 1 (by omega)
                refine r_iload C dX4_compare_192 rfl ?_
                refine r_if_eq (tgt := 201) C ⟨by omega, by omega⟩ dX4_compare_194 (by decide) (fun b123 => ?_) (fun b123 => ?_)
                · refine r_iconst C ((0 : Nat) : Int) (by decide) dX4_compare_201 ?_
                  exact hJ120 0 (by omega)
                · refine r_iconst C ((1 : Nat) : Int) (by decide) dX4_compare_197 ?_
                  refine r_goto (tgt := 202) C dX4_compare_198 (by decide) ?_
                  exact hJ120 1 (by omega)
              refine r_iload C dX4_compare_171 rfl ?_
              refine r_if_eq (tgt := 185) C ⟨by omega, by omega⟩ dX4_compare_173 (by decide) (fun b124 => ?_) (fun b124 => ?_)
              · refine r_iconst C ((0 : Nat) : Int) (by decide) dX4_compare_185 ?_
                exact hJ115 0 (by omega)
              · refine r_iload C dX4_compare_176 rfl ?_
                refine r_if_eq (tgt := 185) C ⟨by omega, by omega⟩ dX4_compare_178 (by decide) (fun b125 => ?_) (fun b125 => ?_)
                · refine r_iconst C ((0 : Nat) : Int) (by decide) dX4_compare_185 ?_
                  exact hJ115 0 (by omega)
                · refine r_iconst C ((1 : Nat) : Int) (by decide) dX4_compare_181 ?_
                  refine r_goto (tgt := 186) C dX4_compare_182 (by decide) ?_
                  exact hJ115 1 (by omega)
            refine r_iload C dX4_compare_107 rfl ?_
            refine r_aload_n C dX4_compare_109 rfl rfl ?_
            refine r_get (v := .ref (ad (97))) C (by omega) hm17 (show vwCl[4]? = some (RX4, TX4, 15) from rfl) m1 10 (by decide) m5 rfl rfl dX4_compare_110 ?_
            refine r_iconst C ((0 : Nat) : Int) (by decide) dX4_compare_113 ?_
            refine r_iald (x := (iI ((a.1 : Nat) : Int))) C (by omega) c107 (0) rfl (by omega) (Nat.le_of_ble_eq_true rfl) (hWa.1) dX4_compare_114 ?_
            refine r_icmp_eq (tgt := 149) C ⟨by omega, by omega⟩ ⟨by omega, by omega⟩ dX4_compare_115 (by decide) (fun b126 => ?_) (fun b126 => ?_)
            · refine r_iconst C ((1 : Nat) : Int) (by decide) dX4_compare_149 ?_
              refine r_goto (tgt := 154) C dX4_compare_150 (by decide) ?_
              refine r_istore (lv' := [(0, .ref (ad (88))), (1, .int (iI ((r : Nat) : Int))), (2, .int (iI ((o : Nat) : Int))), (3, .int (iI ((kp : Nat) : Int))), (4, .int (iI (((mg a b t).1 : Nat) : Int))), (5, .int (iI (((mg a b t).2.1 : Nat) : Int))), (6, .int (iI ((b1 : Nat) : Int))), (7, .int (iI ((1 : Nat) : Int)))]) C dX4_compare_154 (by decide) rfl ?_
              exact hJ110 1 (by omega)
            · refine r_iload C dX4_compare_118 rfl ?_
              refine r_aload_n C dX4_compare_120 rfl rfl ?_
              refine r_get (v := .ref (ad (97))) C (by omega) hm17 (show vwCl[4]? = some (RX4, TX4, 15) from rfl) m1 10 (by decide) m5 rfl rfl dX4_compare_121 ?_
              refine r_iconst C ((1 : Nat) : Int) (by decide) dX4_compare_124 ?_
              refine r_iald (x := (iI ((b.1 : Nat) : Int))) C (by omega) c107 (1) rfl (by omega) (Nat.le_of_ble_eq_true rfl) (hW2.1) dX4_compare_125 ?_
              refine r_icmp_ge (tgt := 153) C ⟨by omega, by omega⟩ ⟨by omega, by omega⟩ dX4_compare_126 (by decide) (fun b127 => ?_) (fun b127 => ?_)
              · refine r_iconst C ((0 : Nat) : Int) (by decide) dX4_compare_153 ?_
                refine r_istore (lv' := [(0, .ref (ad (88))), (1, .int (iI ((r : Nat) : Int))), (2, .int (iI ((o : Nat) : Int))), (3, .int (iI ((kp : Nat) : Int))), (4, .int (iI (((mg a b t).1 : Nat) : Int))), (5, .int (iI (((mg a b t).2.1 : Nat) : Int))), (6, .int (iI ((b1 : Nat) : Int))), (7, .int (iI ((0 : Nat) : Int)))]) C dX4_compare_154 (by decide) rfl ?_
                exact hJ110 0 (by omega)
              · have lva := ha _ (show (mg a b t).1 < a.1 by omega)
                have lvb := hb _ (show (mg a b t).2.1 < b.1 by omega)
                refine r_aload_n C dX4_compare_129 rfl rfl ?_
                refine r_get (v := .ref (ad (95))) C (by omega) hm17 (show vwCl[4]? = some (RX4, TX4, 15) from rfl) m1 8 (by decide) m6 rfl rfl dX4_compare_130 ?_
                refine r_bipush C ((64 : Nat) : Int) (by decide) dX4_compare_133 ?_
                refine r_iload C dX4_compare_135 rfl ?_
                refine r_iadd C ((64 + ((mg a b t).2.1) : Nat) : Int) (by omega) dX4_compare_137 ?_
                have c128 : f8 (95) = eI tc 128 (v2) := (ho10 _ (by omega)).trans w95
                have c129 : f12 (95) = eI tc 128 (v2) := (ho14 _ (by omega)).trans c128
                have c130 : f16 (95) = eI tc 128 (v2) := (ho18 _ (by omega)).trans c129
                refine r_iald (x := (iI ((b.2.1 (mg a b t).2.1 : Nat) : Int))) C (by omega) c130 (64 + ((mg a b t).2.1)) rfl (by omega) (Nat.le_of_ble_eq_true rfl) (hB _ (by omega)) dX4_compare_138 ?_
                refine r_aload_n C dX4_compare_139 rfl rfl ?_
                refine r_get (v := .ref (ad (95))) C (by omega) hm17 (show vwCl[4]? = some (RX4, TX4, 15) from rfl) m1 8 (by decide) m6 rfl rfl dX4_compare_140 ?_
                refine r_iload C dX4_compare_143 rfl ?_
                refine r_iald (x := (iI ((a.2.1 (mg a b t).1 : Nat) : Int))) C (by omega) c130 ((mg a b t).1) rfl (by omega) (Nat.le_of_ble_eq_true rfl) (hA _ (by omega)) dX4_compare_145 ?_
                refine r_icmp_gt (tgt := 153) C ⟨by omega, by omega⟩ ⟨by omega, by omega⟩ dX4_compare_146 (by decide) (fun b131 => ?_) (fun b131 => ?_)
                · refine r_iconst C ((0 : Nat) : Int) (by decide) dX4_compare_153 ?_
                  refine r_istore (lv' := [(0, .ref (ad (88))), (1, .int (iI ((r : Nat) : Int))), (2, .int (iI ((o : Nat) : Int))), (3, .int (iI ((kp : Nat) : Int))), (4, .int (iI (((mg a b t).1 : Nat) : Int))), (5, .int (iI (((mg a b t).2.1 : Nat) : Int))), (6, .int (iI ((b1 : Nat) : Int))), (7, .int (iI ((0 : Nat) : Int)))]) C dX4_compare_154 (by decide) rfl ?_
                  exact hJ110 0 (by omega)
                · refine r_iconst C ((1 : Nat) : Int) (by decide) dX4_compare_149 ?_
                  refine r_goto (tgt := 154) C dX4_compare_150 (by decide) ?_
                  refine r_istore (lv' := [(0, .ref (ad (88))), (1, .int (iI ((r : Nat) : Int))), (2, .int (iI ((o : Nat) : Int))), (3, .int (iI ((kp : Nat) : Int))), (4, .int (iI (((mg a b t).1 : Nat) : Int))), (5, .int (iI (((mg a b t).2.1 : Nat) : Int))), (6, .int (iI ((b1 : Nat) : Int))), (7, .int (iI ((1 : Nat) : Int)))]) C dX4_compare_154 (by decide) rfl ?_
                  exact hJ110 1 (by omega)
          refine r_iload C dX4_compare_58 rfl ?_
          refine r_aload_n C dX4_compare_60 rfl rfl ?_
          refine r_get (v := .ref (ad (97))) C (by omega) hm17 (show vwCl[4]? = some (RX4, TX4, 15) from rfl) m1 10 (by decide) m5 rfl rfl dX4_compare_61 ?_
          refine r_iconst C ((1 : Nat) : Int) (by decide) dX4_compare_64 ?_
          refine r_iald (x := (iI ((b.1 : Nat) : Int))) C (by omega) c107 (1) rfl (by omega) (Nat.le_of_ble_eq_true rfl) (hW2.1) dX4_compare_65 ?_
          refine r_icmp_eq (tgt := 100) C ⟨by omega, by omega⟩ ⟨by omega, by omega⟩ dX4_compare_66 (by decide) (fun b132 => ?_) (fun b132 => ?_)
          · refine r_iconst C ((1 : Nat) : Int) (by decide) dX4_compare_100 ?_
            refine r_goto (tgt := 105) C dX4_compare_101 (by decide) ?_
            refine r_istore (lv' := [(0, .ref (ad (88))), (1, .int (iI ((r : Nat) : Int))), (2, .int (iI ((o : Nat) : Int))), (3, .int (iI ((kp : Nat) : Int))), (4, .int (iI (((mg a b t).1 : Nat) : Int))), (5, .int (iI (((mg a b t).2.1 : Nat) : Int))), (6, .int (iI ((1 : Nat) : Int)))]) C dX4_compare_105 (by decide) rfl ?_
            exact hJ109 1 (by omega)
          · refine r_iload C dX4_compare_69 rfl ?_
            refine r_aload_n C dX4_compare_71 rfl rfl ?_
            refine r_get (v := .ref (ad (97))) C (by omega) hm17 (show vwCl[4]? = some (RX4, TX4, 15) from rfl) m1 10 (by decide) m5 rfl rfl dX4_compare_72 ?_
            refine r_iconst C ((0 : Nat) : Int) (by decide) dX4_compare_75 ?_
            refine r_iald (x := (iI ((a.1 : Nat) : Int))) C (by omega) c107 (0) rfl (by omega) (Nat.le_of_ble_eq_true rfl) (hWa.1) dX4_compare_76 ?_
            refine r_icmp_ge (tgt := 104) C ⟨by omega, by omega⟩ ⟨by omega, by omega⟩ dX4_compare_77 (by decide) (fun b133 => ?_) (fun b133 => ?_)
            · refine r_iconst C ((0 : Nat) : Int) (by decide) dX4_compare_104 ?_
              refine r_istore (lv' := [(0, .ref (ad (88))), (1, .int (iI ((r : Nat) : Int))), (2, .int (iI ((o : Nat) : Int))), (3, .int (iI ((kp : Nat) : Int))), (4, .int (iI (((mg a b t).1 : Nat) : Int))), (5, .int (iI (((mg a b t).2.1 : Nat) : Int))), (6, .int (iI ((0 : Nat) : Int)))]) C dX4_compare_105 (by decide) rfl ?_
              exact hJ109 0 (by omega)
            · have lva := ha _ (show (mg a b t).1 < a.1 by omega)
              have lvb := hb _ (show (mg a b t).2.1 < b.1 by omega)
              refine r_aload_n C dX4_compare_80 rfl rfl ?_
              refine r_get (v := .ref (ad (95))) C (by omega) hm17 (show vwCl[4]? = some (RX4, TX4, 15) from rfl) m1 8 (by decide) m6 rfl rfl dX4_compare_81 ?_
              refine r_iload C dX4_compare_84 rfl ?_
              have c134 : f8 (95) = eI tc 128 (v2) := (ho10 _ (by omega)).trans w95
              have c135 : f12 (95) = eI tc 128 (v2) := (ho14 _ (by omega)).trans c134
              have c136 : f16 (95) = eI tc 128 (v2) := (ho18 _ (by omega)).trans c135
              refine r_iald (x := (iI ((a.2.1 (mg a b t).1 : Nat) : Int))) C (by omega) c136 ((mg a b t).1) rfl (by omega) (Nat.le_of_ble_eq_true rfl) (hA _ (by omega)) dX4_compare_86 ?_
              refine r_aload_n C dX4_compare_87 rfl rfl ?_
              refine r_get (v := .ref (ad (95))) C (by omega) hm17 (show vwCl[4]? = some (RX4, TX4, 15) from rfl) m1 8 (by decide) m6 rfl rfl dX4_compare_88 ?_
              refine r_bipush C ((64 : Nat) : Int) (by decide) dX4_compare_91 ?_
              refine r_iload C dX4_compare_93 rfl ?_
              refine r_iadd C ((64 + ((mg a b t).2.1) : Nat) : Int) (by omega) dX4_compare_95 ?_
              refine r_iald (x := (iI ((b.2.1 (mg a b t).2.1 : Nat) : Int))) C (by omega) c136 (64 + ((mg a b t).2.1)) rfl (by omega) (Nat.le_of_ble_eq_true rfl) (hB _ (by omega)) dX4_compare_96 ?_
              refine r_icmp_gt (tgt := 104) C ⟨by omega, by omega⟩ ⟨by omega, by omega⟩ dX4_compare_97 (by decide) (fun b137 => ?_) (fun b137 => ?_)
              · refine r_iconst C ((0 : Nat) : Int) (by decide) dX4_compare_104 ?_
                refine r_istore (lv' := [(0, .ref (ad (88))), (1, .int (iI ((r : Nat) : Int))), (2, .int (iI ((o : Nat) : Int))), (3, .int (iI ((kp : Nat) : Int))), (4, .int (iI (((mg a b t).1 : Nat) : Int))), (5, .int (iI (((mg a b t).2.1 : Nat) : Int))), (6, .int (iI ((0 : Nat) : Int)))]) C dX4_compare_105 (by decide) rfl ?_
                exact hJ109 0 (by omega)
              · refine r_iconst C ((1 : Nat) : Int) (by decide) dX4_compare_100 ?_
                refine r_goto (tgt := 105) C dX4_compare_101 (by decide) ?_
                refine r_istore (lv' := [(0, .ref (ad (88))), (1, .int (iI ((r : Nat) : Int))), (2, .int (iI ((o : Nat) : Int))), (3, .int (iI ((kp : Nat) : Int))), (4, .int (iI (((mg a b t).1 : Nat) : Int))), (5, .int (iI (((mg a b t).2.1 : Nat) : Int))), (6, .int (iI ((1 : Nat) : Int)))]) C dX4_compare_105 (by decide) rfl ?_
                exact hJ109 1 (by omega)
        · refine r_iload C dX4_compare_47 rfl ?_
          refine r_aload_n C dX4_compare_49 rfl rfl ?_
          refine r_get (v := .ref (ad (97))) C (by omega) hm17 (show vwCl[4]? = some (RX4, TX4, 15) from rfl) m1 10 (by decide) m5 rfl rfl dX4_compare_50 ?_
          refine r_iconst C ((1 : Nat) : Int) (by decide) dX4_compare_53 ?_
          refine r_iald (x := (iI ((b.1 : Nat) : Int))) C (by omega) c107 (1) rfl (by omega) (Nat.le_of_ble_eq_true rfl) (hW2.1) dX4_compare_54 ?_
          refine r_icmp_ge (tgt := 223) C ⟨by omega, by omega⟩ ⟨by omega, by omega⟩ dX4_compare_55 (by decide) (fun b138 => ?_) (fun b138 => ?_)
          · exact hJ23 (cmw_at ha hb hinv (by omega) (by omega))
          · have l1 := vatN_le ha (mg a b t).1
            have l2 := vatN_le hb (mg a b t).2.1
            have nn1 := vatN_end ha (mg a b t).1
            have nn2 := vatN_end hb (mg a b t).2.1
            have or1 := vatN_or a (mg a b t).1
            have or2 := vatN_or b (mg a b t).2.1
            have hJ139 : ∀ (b1 : Nat) (hb1 : (vatN a (mg a b t).1 ≤ vatN b (mg a b t).2.1 ∧ b1 = 1) ∨ (¬ vatN a (mg a b t).1 ≤ vatN b (mg a b t).2.1 ∧ b1 = 0)), VV X ad N f16 0 0 107 [(0, .ref (ad (88))), (1, .int (iI ((r : Nat) : Int))), (2, .int (iI ((o : Nat) : Int))), (3, .int (iI ((kp : Nat) : Int))), (4, .int (iI (((mg a b t).1 : Nat) : Int))), (5, .int (iI (((mg a b t).2.1 : Nat) : Int))), (6, .int (iI ((b1 : Nat) : Int)))] [] := by
              intro b1 hb1
              have hJ140 : ∀ (b2 : Nat) (hb2 : (vatN b (mg a b t).2.1 ≤ vatN a (mg a b t).1 ∧ b2 = 1) ∨ (¬ vatN b (mg a b t).2.1 ≤ vatN a (mg a b t).1 ∧ b2 = 0)), VV X ad N f16 0 0 156 [(0, .ref (ad (88))), (1, .int (iI ((r : Nat) : Int))), (2, .int (iI ((o : Nat) : Int))), (3, .int (iI ((kp : Nat) : Int))), (4, .int (iI (((mg a b t).1 : Nat) : Int))), (5, .int (iI (((mg a b t).2.1 : Nat) : Int))), (6, .int (iI ((b1 : Nat) : Int))), (7, .int (iI ((b2 : Nat) : Int)))] [] := by
                intro b2 hb2
                have hnot : ¬ (vatN a (mg a b t).1 = 1000003 ∧ vatN b (mg a b t).2.1 = 1000003) := by omega
                obtain ⟨s1, s2, s3⟩ := mg_step a b t hnot
                have hmi2 := mg_in ha hb (t + 1)
                refine r_aload_n C dX4_compare_156 rfl rfl ?_
                refine r_dup C dX4_compare_157 rfl ?_
                refine r_get (v := .int (iI ((t : Nat) : Int))) C (by omega) hm17 (show vwCl[4]? = some (RX4, TX4, 15) from rfl) m1 11 (by decide) m0 rfl rfl dX4_compare_158 ?_
                refine r_iconst C ((1 : Nat) : Int) (by decide) dX4_compare_161 ?_
                refine r_iadd C ((t + 1 : Nat) : Int) (by omega) dX4_compare_162 ?_
                refine r_put (ty := .int) C (by omega) hm17 (show vwCl[4]? = some (RX4, TX4, 15) from rfl) m1 tyX4_ok nmX4 11 (by decide) m0 rfl rfl (by decide +kernel) rfl rfl (Nat.le_of_ble_eq_true rfl) dX4_compare_163 (fun f141 hs142 ho143 => ?_)
                have c144 : f141 (88) = eO 4 [.ref (ad (89)), .ref (ad (90)), .int (iI ((kno s : Nat) : Int)), .ref (ad (91)), .ref (ad (92)), .ref (ad (93)), .int (iI ((pln s : Nat) : Int)), .ref (ad (94)), .ref (ad (95)), .ref (ad (96)), .ref (ad (97)), .int (iI ((t + 1 : Nat) : Int)), .int (iI (((mg a b t).2.2 : Nat) : Int)), .int (x3), .int (x4)] := hs142
                refine r_aload_n C dX4_compare_166 rfl rfl ?_
                refine r_dup C dX4_compare_167 rfl ?_
                refine r_get (v := .int (iI (((mg a b t).2.2 : Nat) : Int))) C (by omega) c144 (show vwCl[4]? = some (RX4, TX4, 15) from rfl) m1 12 (by decide) m2 rfl rfl dX4_compare_168 ?_
                have hJ145 : ∀ (t3 : Nat) (ht3 : (vatN a (mg a b t).1 = vatN b (mg a b t).2.1 ∧ t3 = 1) ∨ (¬ vatN a (mg a b t).1 = vatN b (mg a b t).2.1 ∧ t3 = 0)), VV X ad N f141 0 0 186 [(0, .ref (ad (88))), (1, .int (iI ((r : Nat) : Int))), (2, .int (iI ((o : Nat) : Int))), (3, .int (iI ((kp : Nat) : Int))), (4, .int (iI (((mg a b t).1 : Nat) : Int))), (5, .int (iI (((mg a b t).2.1 : Nat) : Int))), (6, .int (iI ((b1 : Nat) : Int))), (7, .int (iI ((b2 : Nat) : Int)))] [.int (iI ((t3 : Nat) : Int)), .int (iI (((mg a b t).2.2 : Nat) : Int)), .ref (ad (88))] := by
                  intro t3 ht3
                  refine r_iadd C (((mg a b (t + 1)).2.2 : Nat) : Int) (by omega) dX4_compare_186 ?_
                  refine r_put (ty := .int) C (by omega) c144 (show vwCl[4]? = some (RX4, TX4, 15) from rfl) m1 tyX4_ok nmX4 12 (by decide) m2 rfl rfl (by decide +kernel) rfl rfl (Nat.le_of_ble_eq_true rfl) dX4_compare_187 (fun f146 hs147 ho148 => ?_)
                  have c149 : f146 (88) = eO 4 [.ref (ad (89)), .ref (ad (90)), .int (iI ((kno s : Nat) : Int)), .ref (ad (91)), .ref (ad (92)), .ref (ad (93)), .int (iI ((pln s : Nat) : Int)), .ref (ad (94)), .ref (ad (95)), .ref (ad (96)), .ref (ad (97)), .int (iI ((t + 1 : Nat) : Int)), .int (iI (((mg a b (t + 1)).2.2 : Nat) : Int)), .int (x3), .int (x4)] := hs147
                  refine r_iload C dX4_compare_190 rfl ?_
                  have hJ150 : ∀ (t1 : Nat) (ht1 : (vatN a (mg a b t).1 ≤ vatN b (mg a b t).2.1 ∧ t1 = 1) ∨ (¬ vatN a (mg a b t).1 ≤ vatN b (mg a b t).2.1 ∧ t1 = 0)), VV X ad N f146 0 0 202 [(0, .ref (ad (88))), (1, .int (iI ((r : Nat) : Int))), (2, .int (iI ((o : Nat) : Int))), (3, .int (iI ((kp : Nat) : Int))), (4, .int (iI (((mg a b t).1 : Nat) : Int))), (5, .int (iI (((mg a b t).2.1 : Nat) : Int))), (6, .int (iI ((b1 : Nat) : Int))), (7, .int (iI ((b2 : Nat) : Int)))] [.int (iI ((t1 : Nat) : Int)), .int (iI (((mg a b t).1 : Nat) : Int))] := by
                    intro t1 ht1
                    refine r_iadd C (((mg a b (t + 1)).1 : Nat) : Int) (by omega) dX4_compare_202 ?_
                    refine r_istore (lv' := [(0, .ref (ad (88))), (1, .int (iI ((r : Nat) : Int))), (2, .int (iI ((o : Nat) : Int))), (3, .int (iI ((kp : Nat) : Int))), (4, .int (iI (((mg a b (t + 1)).1 : Nat) : Int))), (5, .int (iI (((mg a b t).2.1 : Nat) : Int))), (6, .int (iI ((b1 : Nat) : Int))), (7, .int (iI ((b2 : Nat) : Int)))]) C dX4_compare_203 (by decide) rfl ?_
                    refine r_iload C dX4_compare_205 rfl ?_
                    have hJ151 : ∀ (t2 : Nat) (ht2 : (vatN b (mg a b t).2.1 ≤ vatN a (mg a b t).1 ∧ t2 = 1) ∨ (¬ vatN b (mg a b t).2.1 ≤ vatN a (mg a b t).1 ∧ t2 = 0)), VV X ad N f146 0 0 217 [(0, .ref (ad (88))), (1, .int (iI ((r : Nat) : Int))), (2, .int (iI ((o : Nat) : Int))), (3, .int (iI ((kp : Nat) : Int))), (4, .int (iI (((mg a b (t + 1)).1 : Nat) : Int))), (5, .int (iI (((mg a b t).2.1 : Nat) : Int))), (6, .int (iI ((b1 : Nat) : Int))), (7, .int (iI ((b2 : Nat) : Int)))] [.int (iI ((t2 : Nat) : Int)), .int (iI (((mg a b t).2.1 : Nat) : Int))] := by
                      intro t2 ht2
                      refine r_iadd C (((mg a b (t + 1)).2.1 : Nat) : Int) (by omega) dX4_compare_217 ?_
                      refine r_istore (lv' := [(0, .ref (ad (88))), (1, .int (iI ((r : Nat) : Int))), (2, .int (iI ((o : Nat) : Int))), (3, .int (iI ((kp : Nat) : Int))), (4, .int (iI (((mg a b (t + 1)).1 : Nat) : Int))), (5, .int (iI (((mg a b (t + 1)).2.1 : Nat) : Int))), (6, .int (iI ((b1 : Nat) : Int))), (7, .int (iI ((b2 : Nat) : Int)))]) C dX4_compare_218 (by decide) rfl ?_
                      refine r_goto (tgt := 28) C dX4_compare_220 (by decide) ?_
                      refine r_sub (ks := [0, 1, 2, 3, 4, 5]) (lv' := [(0, .ref (ad (88))), (1, .int (iI ((r : Nat) : Int))), (2, .int (iI ((o : Nat) : Int))), (3, .int (iI ((kp : Nat) : Int))), (4, .int (iI (((mg a b (t + 1)).1 : Nat) : Int))), (5, .int (iI (((mg a b (t + 1)).2.1 : Nat) : Int)))]) rfl ?_
                      exact ih21 (t + 1) f146 c149 (fun q hq => (((ho148 _ (by omega))).trans (ho143 _ (by omega))).trans (ho18 _ (by omega))) (by omega) (by omega) (by omega)
                    refine r_iload C dX4_compare_207 rfl ?_
                    refine r_if_eq (tgt := 216) C ⟨by omega, by omega⟩ dX4_compare_209 (by decide) (fun b152 => ?_) (fun b152 => ?_)
                    · refine r_iconst C ((0 : Nat) : Int) (by decide) dX4_compare_216 ?_
                      exact hJ151 0 (by omega)
                    · refine r_iconst C ((1 : Nat) : Int) (by decide) dX4_compare_212 ?_
                      refine r_goto (tgt := 217) C dX4_compare_213 (by decide) ?_
                      exact hJ151 1 (by omega)
                  refine r_iload C dX4_compare_192 rfl ?_
                  refine r_if_eq (tgt := 201) C ⟨by omega, by omega⟩ dX4_compare_194 (by decide) (fun b153 => ?_) (fun b153 => ?_)
                  · refine r_iconst C ((0 : Nat) : Int) (by decide) dX4_compare_201 ?_
                    exact hJ150 0 (by omega)
                  · refine r_iconst C ((1 : Nat) : Int) (by decide) dX4_compare_197 ?_
                    refine r_goto (tgt := 202) C dX4_compare_198 (by decide) ?_
                    exact hJ150 1 (by omega)
                refine r_iload C dX4_compare_171 rfl ?_
                refine r_if_eq (tgt := 185) C ⟨by omega, by omega⟩ dX4_compare_173 (by decide) (fun b154 => ?_) (fun b154 => ?_)
                · refine r_iconst C ((0 : Nat) : Int) (by decide) dX4_compare_185 ?_
                  exact hJ145 0 (by omega)
                · refine r_iload C dX4_compare_176 rfl ?_
                  refine r_if_eq (tgt := 185) C ⟨by omega, by omega⟩ dX4_compare_178 (by decide) (fun b155 => ?_) (fun b155 => ?_)
                  · refine r_iconst C ((0 : Nat) : Int) (by decide) dX4_compare_185 ?_
                    exact hJ145 0 (by omega)
                  · refine r_iconst C ((1 : Nat) : Int) (by decide) dX4_compare_181 ?_
                    refine r_goto (tgt := 186) C dX4_compare_182 (by decide) ?_
                    exact hJ145 1 (by omega)
              refine r_iload C dX4_compare_107 rfl ?_
              refine r_aload_n C dX4_compare_109 rfl rfl ?_
              refine r_get (v := .ref (ad (97))) C (by omega) hm17 (show vwCl[4]? = some (RX4, TX4, 15) from rfl) m1 10 (by decide) m5 rfl rfl dX4_compare_110 ?_
              refine r_iconst C ((0 : Nat) : Int) (by decide) dX4_compare_113 ?_
              refine r_iald (x := (iI ((a.1 : Nat) : Int))) C (by omega) c107 (0) rfl (by omega) (Nat.le_of_ble_eq_true rfl) (hWa.1) dX4_compare_114 ?_
              refine r_icmp_eq (tgt := 149) C ⟨by omega, by omega⟩ ⟨by omega, by omega⟩ dX4_compare_115 (by decide) (fun b156 => ?_) (fun b156 => ?_)
              · refine r_iconst C ((1 : Nat) : Int) (by decide) dX4_compare_149 ?_
                refine r_goto (tgt := 154) C dX4_compare_150 (by decide) ?_
                refine r_istore (lv' := [(0, .ref (ad (88))), (1, .int (iI ((r : Nat) : Int))), (2, .int (iI ((o : Nat) : Int))), (3, .int (iI ((kp : Nat) : Int))), (4, .int (iI (((mg a b t).1 : Nat) : Int))), (5, .int (iI (((mg a b t).2.1 : Nat) : Int))), (6, .int (iI ((b1 : Nat) : Int))), (7, .int (iI ((1 : Nat) : Int)))]) C dX4_compare_154 (by decide) rfl ?_
                exact hJ140 1 (by omega)
              · refine r_iload C dX4_compare_118 rfl ?_
                refine r_aload_n C dX4_compare_120 rfl rfl ?_
                refine r_get (v := .ref (ad (97))) C (by omega) hm17 (show vwCl[4]? = some (RX4, TX4, 15) from rfl) m1 10 (by decide) m5 rfl rfl dX4_compare_121 ?_
                refine r_iconst C ((1 : Nat) : Int) (by decide) dX4_compare_124 ?_
                refine r_iald (x := (iI ((b.1 : Nat) : Int))) C (by omega) c107 (1) rfl (by omega) (Nat.le_of_ble_eq_true rfl) (hW2.1) dX4_compare_125 ?_
                refine r_icmp_ge (tgt := 153) C ⟨by omega, by omega⟩ ⟨by omega, by omega⟩ dX4_compare_126 (by decide) (fun b157 => ?_) (fun b157 => ?_)
                · refine r_iconst C ((0 : Nat) : Int) (by decide) dX4_compare_153 ?_
                  refine r_istore (lv' := [(0, .ref (ad (88))), (1, .int (iI ((r : Nat) : Int))), (2, .int (iI ((o : Nat) : Int))), (3, .int (iI ((kp : Nat) : Int))), (4, .int (iI (((mg a b t).1 : Nat) : Int))), (5, .int (iI (((mg a b t).2.1 : Nat) : Int))), (6, .int (iI ((b1 : Nat) : Int))), (7, .int (iI ((0 : Nat) : Int)))]) C dX4_compare_154 (by decide) rfl ?_
                  exact hJ140 0 (by omega)
                · have lva := ha _ (show (mg a b t).1 < a.1 by omega)
                  have lvb := hb _ (show (mg a b t).2.1 < b.1 by omega)
                  refine r_aload_n C dX4_compare_129 rfl rfl ?_
                  refine r_get (v := .ref (ad (95))) C (by omega) hm17 (show vwCl[4]? = some (RX4, TX4, 15) from rfl) m1 8 (by decide) m6 rfl rfl dX4_compare_130 ?_
                  refine r_bipush C ((64 : Nat) : Int) (by decide) dX4_compare_133 ?_
                  refine r_iload C dX4_compare_135 rfl ?_
                  refine r_iadd C ((64 + ((mg a b t).2.1) : Nat) : Int) (by omega) dX4_compare_137 ?_
                  have c158 : f8 (95) = eI tc 128 (v2) := (ho10 _ (by omega)).trans w95
                  have c159 : f12 (95) = eI tc 128 (v2) := (ho14 _ (by omega)).trans c158
                  have c160 : f16 (95) = eI tc 128 (v2) := (ho18 _ (by omega)).trans c159
                  refine r_iald (x := (iI ((b.2.1 (mg a b t).2.1 : Nat) : Int))) C (by omega) c160 (64 + ((mg a b t).2.1)) rfl (by omega) (Nat.le_of_ble_eq_true rfl) (hB _ (by omega)) dX4_compare_138 ?_
                  refine r_aload_n C dX4_compare_139 rfl rfl ?_
                  refine r_get (v := .ref (ad (95))) C (by omega) hm17 (show vwCl[4]? = some (RX4, TX4, 15) from rfl) m1 8 (by decide) m6 rfl rfl dX4_compare_140 ?_
                  refine r_iload C dX4_compare_143 rfl ?_
                  refine r_iald (x := (iI ((a.2.1 (mg a b t).1 : Nat) : Int))) C (by omega) c160 ((mg a b t).1) rfl (by omega) (Nat.le_of_ble_eq_true rfl) (hA _ (by omega)) dX4_compare_145 ?_
                  refine r_icmp_gt (tgt := 153) C ⟨by omega, by omega⟩ ⟨by omega, by omega⟩ dX4_compare_146 (by decide) (fun b161 => ?_) (fun b161 => ?_)
                  · refine r_iconst C ((0 : Nat) : Int) (by decide) dX4_compare_153 ?_
                    refine r_istore (lv' := [(0, .ref (ad (88))), (1, .int (iI ((r : Nat) : Int))), (2, .int (iI ((o : Nat) : Int))), (3, .int (iI ((kp : Nat) : Int))), (4, .int (iI (((mg a b t).1 : Nat) : Int))), (5, .int (iI (((mg a b t).2.1 : Nat) : Int))), (6, .int (iI ((b1 : Nat) : Int))), (7, .int (iI ((0 : Nat) : Int)))]) C dX4_compare_154 (by decide) rfl ?_
                    exact hJ140 0 (by omega)
                  · refine r_iconst C ((1 : Nat) : Int) (by decide) dX4_compare_149 ?_
                    refine r_goto (tgt := 154) C dX4_compare_150 (by decide) ?_
                    refine r_istore (lv' := [(0, .ref (ad (88))), (1, .int (iI ((r : Nat) : Int))), (2, .int (iI ((o : Nat) : Int))), (3, .int (iI ((kp : Nat) : Int))), (4, .int (iI (((mg a b t).1 : Nat) : Int))), (5, .int (iI (((mg a b t).2.1 : Nat) : Int))), (6, .int (iI ((b1 : Nat) : Int))), (7, .int (iI ((1 : Nat) : Int)))]) C dX4_compare_154 (by decide) rfl ?_
                    exact hJ140 1 (by omega)
            refine r_iload C dX4_compare_58 rfl ?_
            refine r_aload_n C dX4_compare_60 rfl rfl ?_
            refine r_get (v := .ref (ad (97))) C (by omega) hm17 (show vwCl[4]? = some (RX4, TX4, 15) from rfl) m1 10 (by decide) m5 rfl rfl dX4_compare_61 ?_
            refine r_iconst C ((1 : Nat) : Int) (by decide) dX4_compare_64 ?_
            refine r_iald (x := (iI ((b.1 : Nat) : Int))) C (by omega) c107 (1) rfl (by omega) (Nat.le_of_ble_eq_true rfl) (hW2.1) dX4_compare_65 ?_
            refine r_icmp_eq (tgt := 100) C ⟨by omega, by omega⟩ ⟨by omega, by omega⟩ dX4_compare_66 (by decide) (fun b162 => ?_) (fun b162 => ?_)
            · refine r_iconst C ((1 : Nat) : Int) (by decide) dX4_compare_100 ?_
              refine r_goto (tgt := 105) C dX4_compare_101 (by decide) ?_
              refine r_istore (lv' := [(0, .ref (ad (88))), (1, .int (iI ((r : Nat) : Int))), (2, .int (iI ((o : Nat) : Int))), (3, .int (iI ((kp : Nat) : Int))), (4, .int (iI (((mg a b t).1 : Nat) : Int))), (5, .int (iI (((mg a b t).2.1 : Nat) : Int))), (6, .int (iI ((1 : Nat) : Int)))]) C dX4_compare_105 (by decide) rfl ?_
              exact hJ139 1 (by omega)
            · refine r_iload C dX4_compare_69 rfl ?_
              refine r_aload_n C dX4_compare_71 rfl rfl ?_
              refine r_get (v := .ref (ad (97))) C (by omega) hm17 (show vwCl[4]? = some (RX4, TX4, 15) from rfl) m1 10 (by decide) m5 rfl rfl dX4_compare_72 ?_
              refine r_iconst C ((0 : Nat) : Int) (by decide) dX4_compare_75 ?_
              refine r_iald (x := (iI ((a.1 : Nat) : Int))) C (by omega) c107 (0) rfl (by omega) (Nat.le_of_ble_eq_true rfl) (hWa.1) dX4_compare_76 ?_
              refine r_icmp_ge (tgt := 104) C ⟨by omega, by omega⟩ ⟨by omega, by omega⟩ dX4_compare_77 (by decide) (fun b163 => ?_) (fun b163 => ?_)
              · refine r_iconst C ((0 : Nat) : Int) (by decide) dX4_compare_104 ?_
                refine r_istore (lv' := [(0, .ref (ad (88))), (1, .int (iI ((r : Nat) : Int))), (2, .int (iI ((o : Nat) : Int))), (3, .int (iI ((kp : Nat) : Int))), (4, .int (iI (((mg a b t).1 : Nat) : Int))), (5, .int (iI (((mg a b t).2.1 : Nat) : Int))), (6, .int (iI ((0 : Nat) : Int)))]) C dX4_compare_105 (by decide) rfl ?_
                exact hJ139 0 (by omega)
              · have lva := ha _ (show (mg a b t).1 < a.1 by omega)
                have lvb := hb _ (show (mg a b t).2.1 < b.1 by omega)
                refine r_aload_n C dX4_compare_80 rfl rfl ?_
                refine r_get (v := .ref (ad (95))) C (by omega) hm17 (show vwCl[4]? = some (RX4, TX4, 15) from rfl) m1 8 (by decide) m6 rfl rfl dX4_compare_81 ?_
                refine r_iload C dX4_compare_84 rfl ?_
                have c164 : f8 (95) = eI tc 128 (v2) := (ho10 _ (by omega)).trans w95
                have c165 : f12 (95) = eI tc 128 (v2) := (ho14 _ (by omega)).trans c164
                have c166 : f16 (95) = eI tc 128 (v2) := (ho18 _ (by omega)).trans c165
                refine r_iald (x := (iI ((a.2.1 (mg a b t).1 : Nat) : Int))) C (by omega) c166 ((mg a b t).1) rfl (by omega) (Nat.le_of_ble_eq_true rfl) (hA _ (by omega)) dX4_compare_86 ?_
                refine r_aload_n C dX4_compare_87 rfl rfl ?_
                refine r_get (v := .ref (ad (95))) C (by omega) hm17 (show vwCl[4]? = some (RX4, TX4, 15) from rfl) m1 8 (by decide) m6 rfl rfl dX4_compare_88 ?_
                refine r_bipush C ((64 : Nat) : Int) (by decide) dX4_compare_91 ?_
                refine r_iload C dX4_compare_93 rfl ?_
                refine r_iadd C ((64 + ((mg a b t).2.1) : Nat) : Int) (by omega) dX4_compare_95 ?_
                refine r_iald (x := (iI ((b.2.1 (mg a b t).2.1 : Nat) : Int))) C (by omega) c166 (64 + ((mg a b t).2.1)) rfl (by omega) (Nat.le_of_ble_eq_true rfl) (hB _ (by omega)) dX4_compare_96 ?_
                refine r_icmp_gt (tgt := 104) C ⟨by omega, by omega⟩ ⟨by omega, by omega⟩ dX4_compare_97 (by decide) (fun b167 => ?_) (fun b167 => ?_)
                · refine r_iconst C ((0 : Nat) : Int) (by decide) dX4_compare_104 ?_
                  refine r_istore (lv' := [(0, .ref (ad (88))), (1, .int (iI ((r : Nat) : Int))), (2, .int (iI ((o : Nat) : Int))), (3, .int (iI ((kp : Nat) : Int))), (4, .int (iI (((mg a b t).1 : Nat) : Int))), (5, .int (iI (((mg a b t).2.1 : Nat) : Int))), (6, .int (iI ((0 : Nat) : Int)))]) C dX4_compare_105 (by decide) rfl ?_
                  exact hJ139 0 (by omega)
                · refine r_iconst C ((1 : Nat) : Int) (by decide) dX4_compare_100 ?_
                  refine r_goto (tgt := 105) C dX4_compare_101 (by decide) ?_
                  refine r_istore (lv' := [(0, .ref (ad (88))), (1, .int (iI ((r : Nat) : Int))), (2, .int (iI ((o : Nat) : Int))), (3, .int (iI ((kp : Nat) : Int))), (4, .int (iI (((mg a b t).1 : Nat) : Int))), (5, .int (iI (((mg a b t).2.1 : Nat) : Int))), (6, .int (iI ((1 : Nat) : Int)))]) C dX4_compare_105 (by decide) rfl ?_
                  exact hJ139 1 (by omega)
  exact hL19 _ 0 f12 c15 (fun _ _ => rfl) (by omega) rfl (Nat.lt_succ_self _)
end MB1
