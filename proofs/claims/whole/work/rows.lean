section
-- ===== PART A: goes FIRST, ahead of the names: the tables' words, and 'selects' of the private methods out of them =====
/-- a private method of a class that the tables say can be made, by its rows of tables_1 -/
def lw_okq (q : MethodName × Nat) : Prop := (q.1.cls ≠ "java/lang/invoke/MethodHandle" ∧ q.1.cls ≠ "java/lang/invoke/VarHandle") ∧ Cond.instantiable q.1.cls q.2 ∈ tables_1 ∧ Cond.privateMethod q.1 ∈ tables_1 ∧ Cond.instanceMethod q.1 ∈ tables_1
theorem lw_p0 : lw_okq (⟨"WordSamples", "beginChange", "()V"⟩, 11) := ⟨⟨by decide +kernel, by decide +kernel⟩, List.mem_of_getElem? (i := 9) (by decide +kernel), List.mem_of_getElem? (i := 149) (by decide +kernel), List.mem_of_getElem? (i := 150) (by decide +kernel)⟩
theorem lw_p1 : lw_okq (⟨"WordSamples", "dropOldestChange", "()V"⟩, 11) := ⟨⟨by decide +kernel, by decide +kernel⟩, List.mem_of_getElem? (i := 9) (by decide +kernel), List.mem_of_getElem? (i := 153) (by decide +kernel), List.mem_of_getElem? (i := 154) (by decide +kernel)⟩
theorem lw_p2 : lw_okq (⟨"WordSamples", "forgetWords", "()V"⟩, 11) := ⟨⟨by decide +kernel, by decide +kernel⟩, List.mem_of_getElem? (i := 9) (by decide +kernel), List.mem_of_getElem? (i := 161) (by decide +kernel), List.mem_of_getElem? (i := 162) (by decide +kernel)⟩
theorem lw_p3 : lw_okq (⟨"WordSamples", "padFault", "()I"⟩, 11) := ⟨⟨by decide +kernel, by decide +kernel⟩, List.mem_of_getElem? (i := 9) (by decide +kernel), List.mem_of_getElem? (i := 169) (by decide +kernel), List.mem_of_getElem? (i := 170) (by decide +kernel)⟩
theorem lw_p4 : lw_okq (⟨"WordSamples", "movePadTo", "(I)V"⟩, 11) := ⟨⟨by decide +kernel, by decide +kernel⟩, List.mem_of_getElem? (i := 9) (by decide +kernel), List.mem_of_getElem? (i := 176) (by decide +kernel), List.mem_of_getElem? (i := 177) (by decide +kernel)⟩
theorem lw_p5 : lw_okq (⟨"WordSamples", "noRow", "(I)Z"⟩, 11) := ⟨⟨by decide +kernel, by decide +kernel⟩, List.mem_of_getElem? (i := 9) (by decide +kernel), List.mem_of_getElem? (i := 184) (by decide +kernel), List.mem_of_getElem? (i := 185) (by decide +kernel)⟩
theorem lw_p6 : lw_okq (⟨"WordSamples", "noPlace", "(II)Z"⟩, 11) := ⟨⟨by decide +kernel, by decide +kernel⟩, List.mem_of_getElem? (i := 9) (by decide +kernel), List.mem_of_getElem? (i := 192) (by decide +kernel), List.mem_of_getElem? (i := 193) (by decide +kernel)⟩
theorem lw_p7 : lw_okq (⟨"WordSamples", "wordsOf", "(I)LWordSamples$Words;"⟩, 11) := ⟨⟨by decide +kernel, by decide +kernel⟩, List.mem_of_getElem? (i := 9) (by decide +kernel), List.mem_of_getElem? (i := 205) (by decide +kernel), List.mem_of_getElem? (i := 206) (by decide +kernel)⟩
theorem lw_p8 : lw_okq (⟨"WordSamples$Words", "enter", "(II)V"⟩, 4) := ⟨⟨by decide +kernel, by decide +kernel⟩, List.mem_of_getElem? (i := 83) (by decide +kernel), List.mem_of_getElem? (i := 217) (by decide +kernel), List.mem_of_getElem? (i := 218) (by decide +kernel)⟩
theorem lw_p9 : lw_okq (⟨"WordSamples", "sampleSize", "(I)I"⟩, 11) := ⟨⟨by decide +kernel, by decide +kernel⟩, List.mem_of_getElem? (i := 9) (by decide +kernel), List.mem_of_getElem? (i := 227) (by decide +kernel), List.mem_of_getElem? (i := 228) (by decide +kernel)⟩
theorem lw_p10 : lw_okq (⟨"WordSamples", "greatestOfSample", "(I)I"⟩, 11) := ⟨⟨by decide +kernel, by decide +kernel⟩, List.mem_of_getElem? (i := 9) (by decide +kernel), List.mem_of_getElem? (i := 234) (by decide +kernel), List.mem_of_getElem? (i := 235) (by decide +kernel)⟩
theorem lw_p11 : lw_okq (⟨"WordSamples", "wordsOfAll", "()I"⟩, 11) := ⟨⟨by decide +kernel, by decide +kernel⟩, List.mem_of_getElem? (i := 9) (by decide +kernel), List.mem_of_getElem? (i := 251) (by decide +kernel), List.mem_of_getElem? (i := 252) (by decide +kernel)⟩
theorem lw_p12 : lw_okq (⟨"WordSamples", "leastAtHeads", "()I"⟩, 11) := ⟨⟨by decide +kernel, by decide +kernel⟩, List.mem_of_getElem? (i := 9) (by decide +kernel), List.mem_of_getElem? (i := 255) (by decide +kernel), List.mem_of_getElem? (i := 256) (by decide +kernel)⟩
theorem lw_p13 : lw_okq (⟨"WordSamples", "passAtHeads", "(I)V"⟩, 11) := ⟨⟨by decide +kernel, by decide +kernel⟩, List.mem_of_getElem? (i := 9) (by decide +kernel), List.mem_of_getElem? (i := 260) (by decide +kernel), List.mem_of_getElem? (i := 261) (by decide +kernel)⟩
theorem lw_p14 : lw_okq (⟨"WordSamples", "pairOf", "(II)LWordSamples$Pair;"⟩, 11) := ⟨⟨by decide +kernel, by decide +kernel⟩, List.mem_of_getElem? (i := 9) (by decide +kernel), List.mem_of_getElem? (i := 268) (by decide +kernel), List.mem_of_getElem? (i := 269) (by decide +kernel)⟩
theorem lw_p15 : lw_okq (⟨"WordSamples", "toldAtLeast", "(II)I"⟩, 11) := ⟨⟨by decide +kernel, by decide +kernel⟩, List.mem_of_getElem? (i := 9) (by decide +kernel), List.mem_of_getElem? (i := 365) (by decide +kernel), List.mem_of_getElem? (i := 366) (by decide +kernel)⟩
def lw_privs_1 : List (MethodName × Nat) := [(⟨"WordSamples", "beginChange", "()V"⟩, 11), (⟨"WordSamples", "dropOldestChange", "()V"⟩, 11), (⟨"WordSamples", "forgetWords", "()V"⟩, 11), (⟨"WordSamples", "padFault", "()I"⟩, 11), (⟨"WordSamples", "movePadTo", "(I)V"⟩, 11), (⟨"WordSamples", "noRow", "(I)Z"⟩, 11), (⟨"WordSamples", "noPlace", "(II)Z"⟩, 11), (⟨"WordSamples", "wordsOf", "(I)LWordSamples$Words;"⟩, 11), (⟨"WordSamples$Words", "enter", "(II)V"⟩, 4), (⟨"WordSamples", "sampleSize", "(I)I"⟩, 11), (⟨"WordSamples", "greatestOfSample", "(I)I"⟩, 11), (⟨"WordSamples", "wordsOfAll", "()I"⟩, 11), (⟨"WordSamples", "leastAtHeads", "()I"⟩, 11), (⟨"WordSamples", "passAtHeads", "(I)V"⟩, 11), (⟨"WordSamples", "pairOf", "(II)LWordSamples$Pair;"⟩, 11), (⟨"WordSamples", "toldAtLeast", "(II)I"⟩, 11)]
theorem lw_r1 : ∀ q ∈ lw_privs_1, lw_okq q := List.forall_mem_cons.mpr ⟨lw_p0, List.forall_mem_cons.mpr ⟨lw_p1, List.forall_mem_cons.mpr ⟨lw_p2, List.forall_mem_cons.mpr ⟨lw_p3, List.forall_mem_cons.mpr ⟨lw_p4, List.forall_mem_cons.mpr ⟨lw_p5, List.forall_mem_cons.mpr ⟨lw_p6, List.forall_mem_cons.mpr ⟨lw_p7, List.forall_mem_cons.mpr ⟨lw_p8, List.forall_mem_cons.mpr ⟨lw_p9, List.forall_mem_cons.mpr ⟨lw_p10, List.forall_mem_cons.mpr ⟨lw_p11, List.forall_mem_cons.mpr ⟨lw_p12, List.forall_mem_cons.mpr ⟨lw_p13, List.forall_mem_cons.mpr ⟨lw_p14, List.forall_mem_cons.mpr ⟨lw_p15, fun _ h => absurd h List.not_mem_nil⟩⟩⟩⟩⟩⟩⟩⟩⟩⟩⟩⟩⟩⟩⟩⟩
theorem lw_p16 : lw_okq (⟨"WordSamplesModel", "know", "()V"⟩, 15) := ⟨⟨by decide +kernel, by decide +kernel⟩, List.mem_of_getElem? (i := 400) (by decide +kernel), List.mem_of_getElem? (i := 467) (by decide +kernel), List.mem_of_getElem? (i := 468) (by decide +kernel)⟩
theorem lw_p17 : lw_okq (⟨"WordSamplesModel", "pour", "(I)V"⟩, 15) := ⟨⟨by decide +kernel, by decide +kernel⟩, List.mem_of_getElem? (i := 400) (by decide +kernel), List.mem_of_getElem? (i := 483) (by decide +kernel), List.mem_of_getElem? (i := 484) (by decide +kernel)⟩
theorem lw_p18 : lw_okq (⟨"WordSamplesModel", "isRow", "(I)Z"⟩, 15) := ⟨⟨by decide +kernel, by decide +kernel⟩, List.mem_of_getElem? (i := 400) (by decide +kernel), List.mem_of_getElem? (i := 491) (by decide +kernel), List.mem_of_getElem? (i := 492) (by decide +kernel)⟩
theorem lw_p19 : lw_okq (⟨"WordSamplesModel", "isPlace", "(II)Z"⟩, 15) := ⟨⟨by decide +kernel, by decide +kernel⟩, List.mem_of_getElem? (i := 400) (by decide +kernel), List.mem_of_getElem? (i := 499) (by decide +kernel), List.mem_of_getElem? (i := 500) (by decide +kernel)⟩
theorem lw_p20 : lw_okq (⟨"WordSamplesModel", "at", "(II)I"⟩, 15) := ⟨⟨by decide +kernel, by decide +kernel⟩, List.mem_of_getElem? (i := 400) (by decide +kernel), List.mem_of_getElem? (i := 503) (by decide +kernel), List.mem_of_getElem? (i := 504) (by decide +kernel)⟩
theorem lw_p21 : lw_okq (⟨"WordSamplesModel", "find", "(II)V"⟩, 15) := ⟨⟨by decide +kernel, by decide +kernel⟩, List.mem_of_getElem? (i := 400) (by decide +kernel), List.mem_of_getElem? (i := 515) (by decide +kernel), List.mem_of_getElem? (i := 516) (by decide +kernel)⟩
theorem lw_p22 : lw_okq (⟨"WordSamplesModel", "codeAt", "(II)I"⟩, 15) := ⟨⟨by decide +kernel, by decide +kernel⟩, List.mem_of_getElem? (i := 400) (by decide +kernel), List.mem_of_getElem? (i := 519) (by decide +kernel), List.mem_of_getElem? (i := 520) (by decide +kernel)⟩
theorem lw_p23 : lw_okq (⟨"WordSamplesModel", "note", "(II)V"⟩, 15) := ⟨⟨by decide +kernel, by decide +kernel⟩, List.mem_of_getElem? (i := 400) (by decide +kernel), List.mem_of_getElem? (i := 523) (by decide +kernel), List.mem_of_getElem? (i := 524) (by decide +kernel)⟩
theorem lw_p24 : lw_okq (⟨"WordSamplesModel", "valueOf", "(I)I"⟩, 15) := ⟨⟨by decide +kernel, by decide +kernel⟩, List.mem_of_getElem? (i := 400) (by decide +kernel), List.mem_of_getElem? (i := 527) (by decide +kernel), List.mem_of_getElem? (i := 528) (by decide +kernel)⟩
theorem lw_p25 : lw_okq (⟨"WordSamplesModel", "sampled", "(I)I"⟩, 15) := ⟨⟨by decide +kernel, by decide +kernel⟩, List.mem_of_getElem? (i := 400) (by decide +kernel), List.mem_of_getElem? (i := 532) (by decide +kernel), List.mem_of_getElem? (i := 533) (by decide +kernel)⟩
theorem lw_p26 : lw_okq (⟨"WordSamplesModel", "different", "()I"⟩, 15) := ⟨⟨by decide +kernel, by decide +kernel⟩, List.mem_of_getElem? (i := 400) (by decide +kernel), List.mem_of_getElem? (i := 548) (by decide +kernel), List.mem_of_getElem? (i := 549) (by decide +kernel)⟩
theorem lw_p27 : lw_okq (⟨"WordSamplesModel", "isAhead", "(II)Z"⟩, 15) := ⟨⟨by decide +kernel, by decide +kernel⟩, List.mem_of_getElem? (i := 400) (by decide +kernel), List.mem_of_getElem? (i := 552) (by decide +kernel), List.mem_of_getElem? (i := 553) (by decide +kernel)⟩
theorem lw_p28 : lw_okq (⟨"WordSamplesModel", "compare", "(III)V"⟩, 15) := ⟨⟨by decide +kernel, by decide +kernel⟩, List.mem_of_getElem? (i := 400) (by decide +kernel), List.mem_of_getElem? (i := 560) (by decide +kernel), List.mem_of_getElem? (i := 561) (by decide +kernel)⟩
theorem lw_p29 : lw_okq (⟨"WordSamplesModel", "lower", "()I"⟩, 15) := ⟨⟨by decide +kernel, by decide +kernel⟩, List.mem_of_getElem? (i := 400) (by decide +kernel), List.mem_of_getElem? (i := 567) (by decide +kernel), List.mem_of_getElem? (i := 568) (by decide +kernel)⟩
theorem lw_p30 : lw_okq (⟨"WordSamplesModel", "upper", "()I"⟩, 15) := ⟨⟨by decide +kernel, by decide +kernel⟩, List.mem_of_getElem? (i := 400) (by decide +kernel), List.mem_of_getElem? (i := 571) (by decide +kernel), List.mem_of_getElem? (i := 572) (by decide +kernel)⟩
theorem lw_p31 : lw_okq (⟨"WordSamplesModel", "either", "()I"⟩, 15) := ⟨⟨by decide +kernel, by decide +kernel⟩, List.mem_of_getElem? (i := 400) (by decide +kernel), List.mem_of_getElem? (i := 582) (by decide +kernel), List.mem_of_getElem? (i := 583) (by decide +kernel)⟩
def lw_privs_2 : List (MethodName × Nat) := [(⟨"WordSamplesModel", "know", "()V"⟩, 15), (⟨"WordSamplesModel", "pour", "(I)V"⟩, 15), (⟨"WordSamplesModel", "isRow", "(I)Z"⟩, 15), (⟨"WordSamplesModel", "isPlace", "(II)Z"⟩, 15), (⟨"WordSamplesModel", "at", "(II)I"⟩, 15), (⟨"WordSamplesModel", "find", "(II)V"⟩, 15), (⟨"WordSamplesModel", "codeAt", "(II)I"⟩, 15), (⟨"WordSamplesModel", "note", "(II)V"⟩, 15), (⟨"WordSamplesModel", "valueOf", "(I)I"⟩, 15), (⟨"WordSamplesModel", "sampled", "(I)I"⟩, 15), (⟨"WordSamplesModel", "different", "()I"⟩, 15), (⟨"WordSamplesModel", "isAhead", "(II)Z"⟩, 15), (⟨"WordSamplesModel", "compare", "(III)V"⟩, 15), (⟨"WordSamplesModel", "lower", "()I"⟩, 15), (⟨"WordSamplesModel", "upper", "()I"⟩, 15), (⟨"WordSamplesModel", "either", "()I"⟩, 15)]
theorem lw_r2 : ∀ q ∈ lw_privs_2, lw_okq q := List.forall_mem_cons.mpr ⟨lw_p16, List.forall_mem_cons.mpr ⟨lw_p17, List.forall_mem_cons.mpr ⟨lw_p18, List.forall_mem_cons.mpr ⟨lw_p19, List.forall_mem_cons.mpr ⟨lw_p20, List.forall_mem_cons.mpr ⟨lw_p21, List.forall_mem_cons.mpr ⟨lw_p22, List.forall_mem_cons.mpr ⟨lw_p23, List.forall_mem_cons.mpr ⟨lw_p24, List.forall_mem_cons.mpr ⟨lw_p25, List.forall_mem_cons.mpr ⟨lw_p26, List.forall_mem_cons.mpr ⟨lw_p27, List.forall_mem_cons.mpr ⟨lw_p28, List.forall_mem_cons.mpr ⟨lw_p29, List.forall_mem_cons.mpr ⟨lw_p30, List.forall_mem_cons.mpr ⟨lw_p31, fun _ h => absurd h List.not_mem_nil⟩⟩⟩⟩⟩⟩⟩⟩⟩⟩⟩⟩⟩⟩⟩⟩
theorem lw_p32 : lw_okq (⟨"WordSamplesModel", "off", "(III)I"⟩, 15) := ⟨⟨by decide +kernel, by decide +kernel⟩, List.mem_of_getElem? (i := 400) (by decide +kernel), List.mem_of_getElem? (i := 602) (by decide +kernel), List.mem_of_getElem? (i := 603) (by decide +kernel)⟩
def lw_privs_3 : List (MethodName × Nat) := [(⟨"WordSamplesModel", "off", "(III)I"⟩, 15)]
theorem lw_r3 : ∀ q ∈ lw_privs_3, lw_okq q := List.forall_mem_cons.mpr ⟨lw_p32, fun _ h => absurd h List.not_mem_nil⟩
def lw_privs : List (MethodName × Nat) := lw_privs_1 ++ (lw_privs_2 ++ (lw_privs_3))
def lw_tbl : List Cond := k2_sels lw_privs ++ tables_1
theorem lw_privs_ok : ∀ q ∈ lw_privs, lw_okq q := by
  show ∀ q ∈ lw_privs_1 ++ (lw_privs_2 ++ (lw_privs_3)), lw_okq q
  exact List.forall_mem_append.mpr ⟨lw_r1, List.forall_mem_append.mpr ⟨lw_r2, lw_r3⟩⟩
/-! ===== BEGIN words of one list among another's, by their places ===== -/
theorem goodIn_r {big : List Cond} (ws : List Cond) (ps : List Nat) (hp : ws = ps.filterMap (fun i => big[i]?)) (h : ws.all goodWord = true) : GoodIn big ws := by
  intro w hw
  have h1 := List.all_eq_true.mp h w hw
  rw [hp] at hw
  obtain ⟨i, -, hi⟩ := List.mem_filterMap.mp hw
  have hm : w ∈ big := by first | exact List.mem_of_getElem? hi | exact List.getElem?_mem hi
  exact ⟨hm, good_of_word h1⟩
theorem goodIn_app {big a b : List Cond} (ha : GoodIn big a) (hb : GoodIn big b) : GoodIn big (a ++ b) := fun w h => (List.mem_append.mp h).elim (ha w) (hb w)
theorem goodIn_ca {big a b : List Cond} {c : Cond} (ha : GoodIn big (c :: a)) (hb : GoodIn big b) : GoodIn big (c :: (a ++ b)) := fun w h => (List.mem_cons.mp h).elim (fun e => ha w (List.mem_cons.mpr (Or.inl e))) (fun h => (List.mem_append.mp h).elim (fun h => ha w (List.mem_cons.mpr (Or.inr h))) (hb w))
theorem goodIn_sub {big ws : List Cond} (hm : ∀ w ∈ ws, w ∈ big) (h : ws.all goodWord = true) : GoodIn big ws := fun w hw => ⟨hm w hw, good_of_word (List.all_eq_true.mp h w hw)⟩
/-! ===== END ===== -/

/-! ===== BEGIN printed: names, fields, word lists, decode rows ===== -/
def RX0 : String := "WordSamples$Pair"
def TX0 : u_T := fun k => match k with
  | 0 => ("WordSamples$Pair", "bothAmong", "[I", true)
  | 1 => ("WordSamples$Pair", "firstAmong", "[I", true)
  | 2 => ("WordSamples$Pair", "secondAmong", "[I", true)
  | 3 => ("WordSamples$Pair", "firstWords", "I", false)
  | 4 => ("WordSamples$Pair", "secondWords", "I", false)
  | 5 => ("WordSamples$Pair", "inEither", "I", false)
  | _ => ("WordSamples$Pair", "inBoth", "I", false)
def tyX0 : Nat → FieldType := fun k => match k with
  | 0 => .array .int
  | 1 => .array .int
  | 2 => .array .int
  | 3 => .int
  | 4 => .int
  | 5 => .int
  | _ => .int
abbrev wsX00 : List Cond := u_ws RX0 TX0 7
theorem nmX0 : ∀ a, a < 7 → ∀ b, b < 7 → a ≠ b → (TX0 a).2.1 ≠ (TX0 b).2.1 := by decide +kernel
theorem tyX0_ok : ∀ k, k < 7 → parseFieldDescriptor (TX0 k).2.2.1 = some (tyX0 k) := by decide +kernel
abbrev cX0_init : ByteArray := prog_2_method_1_code
def yX0_init : MethodName := ⟨RX0, "<init>", "()V"⟩
abbrev cX0_measure : ByteArray := prog_2_method_2_code
def yX0_measure : MethodName := ⟨RX0, "measure", "(LWordSamples$Words;LWordSamples$Words;)V"⟩
abbrev cX0_commonWords : ByteArray := prog_2_method_3_code
def yX0_commonWords : MethodName := ⟨RX0, "commonWords", "(I)I"⟩
abbrev cX0_leastCommon : ByteArray := prog_2_method_4_code
def yX0_leastCommon : MethodName := ⟨RX0, "leastCommon", "(I)I"⟩
abbrev cX0_mostCommon : ByteArray := prog_2_method_5_code
def yX0_mostCommon : MethodName := ⟨RX0, "mostCommon", "(I)I"⟩
abbrev cX0_toldShare : ByteArray := prog_2_method_6_code
def yX0_toldShare : MethodName := ⟨RX0, "toldShare", "(I)I"⟩
abbrev cX0_trueShare : ByteArray := prog_2_method_7_code
def yX0_trueShare : MethodName := ⟨RX0, "trueShare", "()I"⟩
abbrev cX0_lowerBound : ByteArray := prog_2_method_8_code
def yX0_lowerBound : MethodName := ⟨RX0, "lowerBound", "(I)I"⟩
abbrev cX0_upperBound : ByteArray := prog_2_method_9_code
def yX0_upperBound : MethodName := ⟨RX0, "upperBound", "(I)I"⟩
abbrev cX0_errorOfTold : ByteArray := prog_2_method_10_code
def yX0_errorOfTold : MethodName := ⟨RX0, "errorOfTold", "(I)I"⟩
def RX1 : String := "WordSamples$State"
def TX1 : u_T := fun k => match k with
  | 0 => ("WordSamples$State", "settings", "[I", true)
  | 1 => ("WordSamples$State", "lengths", "[I", true)
  | 2 => ("WordSamples$State", "signs", "[I", true)
  | _ => ("WordSamples$State", "rows", "I", false)
def tyX1 : Nat → FieldType := fun k => match k with
  | 0 => .array .int
  | 1 => .array .int
  | 2 => .array .int
  | _ => .int
abbrev wsX10 : List Cond := u_ws RX1 TX1 4
theorem nmX1 : ∀ a, a < 4 → ∀ b, b < 4 → a ≠ b → (TX1 a).2.1 ≠ (TX1 b).2.1 := by decide +kernel
theorem tyX1_ok : ∀ k, k < 4 → parseFieldDescriptor (TX1 k).2.2.1 = some (tyX1 k) := by decide +kernel
abbrev cX1_init : ByteArray := prog_3_method_1_code
def yX1_init : MethodName := ⟨RX1, "<init>", "()V"⟩
abbrev cX1_copyFrom : ByteArray := prog_3_method_2_code
def yX1_copyFrom : MethodName := ⟨RX1, "copyFrom", "(LWordSamples$State;)V"⟩
def RX2 : String := "WordSamples$Words"
def TX2 : u_T := fun k => match k with
  | 0 => ("WordSamples$Words", "values", "[I", true)
  | 1 => ("WordSamples$Words", "codes", "[I", true)
  | 2 => ("WordSamples$Words", "times", "[I", true)
  | _ => ("WordSamples$Words", "size", "I", false)
def tyX2 : Nat → FieldType := fun k => match k with
  | 0 => .array .int
  | 1 => .array .int
  | 2 => .array .int
  | _ => .int
abbrev wsX20 : List Cond := u_ws RX2 TX2 4
theorem nmX2 : ∀ a, a < 4 → ∀ b, b < 4 → a ≠ b → (TX2 a).2.1 ≠ (TX2 b).2.1 := by decide +kernel
theorem tyX2_ok : ∀ k, k < 4 → parseFieldDescriptor (TX2 k).2.2.1 = some (tyX2 k) := by decide +kernel
abbrev cX2_init : ByteArray := prog_4_method_1_code
def yX2_init : MethodName := ⟨RX2, "<init>", "()V"⟩
abbrev cX2_gather : ByteArray := prog_4_method_2_code
def yX2_gather : MethodName := ⟨RX2, "gather", "(LWordSamples$State;I)V"⟩
abbrev cX2_valueAt : ByteArray := prog_4_method_3_code
def yX2_valueAt : MethodName := ⟨RX2, "valueAt", "(I)I"⟩
abbrev cX2_codeAt : ByteArray := prog_4_method_4_code
def yX2_codeAt : MethodName := ⟨RX2, "codeAt", "([III)I"⟩
abbrev cX2_enter : ByteArray := prog_4_method_5_code
def yX2_enter : MethodName := ⟨RX2, "enter", "(II)V"⟩
def RX3 : String := "WordSamples"
def TX3 : u_T := fun k => match k with
  | 0 => ("WordSamples", "now", "LWordSamples$State;", true)
  | 1 => ("WordSamples", "history", "[LWordSamples$State;", true)
  | 2 => ("WordSamples", "undoable", "I", false)
  | 3 => ("WordSamples", "slots", "[LWordSamples$State;", true)
  | 4 => ("WordSamples", "saved", "[Z", true)
  | 5 => ("WordSamples", "pad", "[I", true)
  | 6 => ("WordSamples", "padLength", "I", false)
  | 7 => ("WordSamples", "words", "[LWordSamples$Words;", true)
  | 8 => ("WordSamples", "gathered", "[Z", true)
  | 9 => ("WordSamples", "pair", "LWordSamples$Pair;", true)
  | _ => ("WordSamples", "heads", "[I", true)
def tyX3 : Nat → FieldType := fun k => match k with
  | 0 => .object "WordSamples$State"
  | 1 => .array (.object "WordSamples$State")
  | 2 => .int
  | 3 => .array (.object "WordSamples$State")
  | 4 => .array .boolean
  | 5 => .array .int
  | 6 => .int
  | 7 => .array (.object "WordSamples$Words")
  | 8 => .array .boolean
  | 9 => .object "WordSamples$Pair"
  | _ => .array .int
abbrev wsX30 : List Cond := u_ws RX3 TX3 11
theorem nmX3 : ∀ a, a < 11 → ∀ b, b < 11 → a ≠ b → (TX3 a).2.1 ≠ (TX3 b).2.1 := by decide +kernel
theorem tyX3_ok : ∀ k, k < 11 → parseFieldDescriptor (TX3 k).2.2.1 = some (tyX3 k) := by decide +kernel
abbrev cX3_init : ByteArray := prog_1_method_1_code
def yX3_init : MethodName := ⟨RX3, "<init>", "()V"⟩
abbrev cX3_set : ByteArray := prog_1_method_2_code
def yX3_set : MethodName := ⟨RX3, "set", "(II)I"⟩
abbrev cX3_add : ByteArray := prog_1_method_3_code
def yX3_add : MethodName := ⟨RX3, "add", "()I"⟩
abbrev cX3_append : ByteArray := prog_1_method_4_code
def yX3_append : MethodName := ⟨RX3, "append", "(I)I"⟩
abbrev cX3_change : ByteArray := prog_1_method_5_code
def yX3_change : MethodName := ⟨RX3, "change", "(III)I"⟩
abbrev cX3_remove : ByteArray := prog_1_method_6_code
def yX3_remove : MethodName := ⟨RX3, "remove", "(I)I"⟩
abbrev cX3_ofRow : ByteArray := prog_1_method_7_code
def yX3_ofRow : MethodName := ⟨RX3, "ofRow", "(II)I"⟩
abbrev cX3_sign : ByteArray := prog_1_method_8_code
def yX3_sign : MethodName := ⟨RX3, "sign", "(II)I"⟩
abbrev cX3_sample : ByteArray := prog_1_method_9_code
def yX3_sample : MethodName := ⟨RX3, "sample", "(III)I"⟩
abbrev cX3_count : ByteArray := prog_1_method_10_code
def yX3_count : MethodName := ⟨RX3, "count", "(I)I"⟩
abbrev cX3_told : ByteArray := prog_1_method_11_code
def yX3_told : MethodName := ⟨RX3, "told", "(III)I"⟩
abbrev cX3_exact : ByteArray := prog_1_method_12_code
def yX3_exact : MethodName := ⟨RX3, "exact", "(III)I"⟩
abbrev cX3_inside : ByteArray := prog_1_method_13_code
def yX3_inside : MethodName := ⟨RX3, "inside", "(III)I"⟩
abbrev cX3_nearest : ByteArray := prog_1_method_14_code
def yX3_nearest : MethodName := ⟨RX3, "nearest", "(II)I"⟩
abbrev cX3_candidates : ByteArray := prog_1_method_15_code
def yX3_candidates : MethodName := ⟨RX3, "candidates", "(I)I"⟩
abbrev cX3_worst : ByteArray := prog_1_method_16_code
def yX3_worst : MethodName := ⟨RX3, "worst", "(I)I"⟩
abbrev cX3_bestKept : ByteArray := prog_1_method_17_code
def yX3_bestKept : MethodName := ⟨RX3, "bestKept", "(I)I"⟩
abbrev cX3_group : ByteArray := prog_1_method_18_code
def yX3_group : MethodName := ⟨RX3, "group", "(II)I"⟩
abbrev cX3_put : ByteArray := prog_1_method_19_code
def yX3_put : MethodName := ⟨RX3, "put", "(J)I"⟩
abbrev cX3_wipe : ByteArray := prog_1_method_20_code
def yX3_wipe : MethodName := ⟨RX3, "wipe", "()I"⟩
abbrev cX3_fault : ByteArray := prog_1_method_21_code
def yX3_fault : MethodName := ⟨RX3, "fault", "()I"⟩
abbrev cX3_undo : ByteArray := prog_1_method_22_code
def yX3_undo : MethodName := ⟨RX3, "undo", "()I"⟩
abbrev cX3_save : ByteArray := prog_1_method_23_code
def yX3_save : MethodName := ⟨RX3, "save", "(I)I"⟩
abbrev cX3_restore : ByteArray := prog_1_method_24_code
def yX3_restore : MethodName := ⟨RX3, "restore", "(I)I"⟩
abbrev cX3_noRow : ByteArray := prog_1_method_25_code
def yX3_noRow : MethodName := ⟨RX3, "noRow", "(I)Z"⟩
abbrev cX3_noPlace : ByteArray := prog_1_method_26_code
def yX3_noPlace : MethodName := ⟨RX3, "noPlace", "(II)Z"⟩
abbrev cX3_beginChange : ByteArray := prog_1_method_27_code
def yX3_beginChange : MethodName := ⟨RX3, "beginChange", "()V"⟩
abbrev cX3_dropOldestChange : ByteArray := prog_1_method_28_code
def yX3_dropOldestChange : MethodName := ⟨RX3, "dropOldestChange", "()V"⟩
abbrev cX3_forgetWords : ByteArray := prog_1_method_29_code
def yX3_forgetWords : MethodName := ⟨RX3, "forgetWords", "()V"⟩
abbrev cX3_wordsOf : ByteArray := prog_1_method_30_code
def yX3_wordsOf : MethodName := ⟨RX3, "wordsOf", "(I)LWordSamples$Words;"⟩
abbrev cX3_sampleSize : ByteArray := prog_1_method_31_code
def yX3_sampleSize : MethodName := ⟨RX3, "sampleSize", "(I)I"⟩
abbrev cX3_greatestOfSample : ByteArray := prog_1_method_32_code
def yX3_greatestOfSample : MethodName := ⟨RX3, "greatestOfSample", "(I)I"⟩
abbrev cX3_pairOf : ByteArray := prog_1_method_33_code
def yX3_pairOf : MethodName := ⟨RX3, "pairOf", "(II)LWordSamples$Pair;"⟩
abbrev cX3_wordsOfAll : ByteArray := prog_1_method_34_code
def yX3_wordsOfAll : MethodName := ⟨RX3, "wordsOfAll", "()I"⟩
abbrev cX3_leastAtHeads : ByteArray := prog_1_method_35_code
def yX3_leastAtHeads : MethodName := ⟨RX3, "leastAtHeads", "()I"⟩
abbrev cX3_passAtHeads : ByteArray := prog_1_method_36_code
def yX3_passAtHeads : MethodName := ⟨RX3, "passAtHeads", "(I)V"⟩
abbrev cX3_keptBeyond : ByteArray := prog_1_method_37_code
def yX3_keptBeyond : MethodName := ⟨RX3, "keptBeyond", "(LWordSamples$Pair;I)J"⟩
abbrev cX3_toldAtLeast : ByteArray := prog_1_method_38_code
def yX3_toldAtLeast : MethodName := ⟨RX3, "toldAtLeast", "(II)I"⟩
abbrev cX3_lowestIn : ByteArray := prog_1_method_39_code
def yX3_lowestIn : MethodName := ⟨RX3, "lowestIn", "(I)I"⟩
abbrev cX3_shareDown : ByteArray := prog_1_method_40_code
def yX3_shareDown : MethodName := ⟨RX3, "shareDown", "(II)I"⟩
abbrev cX3_shareUp : ByteArray := prog_1_method_41_code
def yX3_shareUp : MethodName := ⟨RX3, "shareUp", "(II)I"⟩
abbrev cX3_codeIn : ByteArray := prog_1_method_42_code
def yX3_codeIn : MethodName := ⟨RX3, "codeIn", "(JI)I"⟩
abbrev cX3_charactersIn : ByteArray := prog_1_method_43_code
def yX3_charactersIn : MethodName := ⟨RX3, "charactersIn", "(J)I"⟩
abbrev cX3_signOf : ByteArray := prog_1_method_44_code
def yX3_signOf : MethodName := ⟨RX3, "signOf", "(I)I"⟩
abbrev cX3_padFault : ByteArray := prog_1_method_45_code
def yX3_padFault : MethodName := ⟨RX3, "padFault", "()I"⟩
abbrev cX3_movePadTo : ByteArray := prog_1_method_46_code
def yX3_movePadTo : MethodName := ⟨RX3, "movePadTo", "(I)V"⟩
def RX4 : String := "WordSamplesModel"
def TX4 : u_T := fun k => match k with
  | 0 => ("WordSamplesModel", "now", "[I", true)
  | 1 => ("WordSamplesModel", "before", "[I", true)
  | 2 => ("WordSamplesModel", "known", "I", false)
  | 3 => ("WordSamplesModel", "stored", "[I", true)
  | 4 => ("WordSamplesModel", "isStored", "[Z", true)
  | 5 => ("WordSamplesModel", "pad", "[I", true)
  | 6 => ("WordSamplesModel", "padded", "I", false)
  | 7 => ("WordSamplesModel", "codes", "[I", true)
  | 8 => ("WordSamplesModel", "values", "[I", true)
  | 9 => ("WordSamplesModel", "often", "[I", true)
  | 10 => ("WordSamplesModel", "words", "[I", true)
  | 11 => ("WordSamplesModel", "common", "I", false)
  | 12 => ("WordSamplesModel", "shared", "I", false)
  | 13 => ("WordSamplesModel", "both", "I", false)
  | _ => ("WordSamplesModel", "rest", "I", false)
def tyX4 : Nat → FieldType := fun k => match k with
  | 0 => .array .int
  | 1 => .array .int
  | 2 => .int
  | 3 => .array .int
  | 4 => .array .boolean
  | 5 => .array .int
  | 6 => .int
  | 7 => .array .int
  | 8 => .array .int
  | 9 => .array .int
  | 10 => .array .int
  | 11 => .int
  | 12 => .int
  | 13 => .int
  | _ => .int
abbrev wsX40 : List Cond := u_ws RX4 TX4 15
theorem nmX4 : ∀ a, a < 15 → ∀ b, b < 15 → a ≠ b → (TX4 a).2.1 ≠ (TX4 b).2.1 := by decide +kernel
theorem tyX4_ok : ∀ k, k < 15 → parseFieldDescriptor (TX4 k).2.2.1 = some (tyX4 k) := by decide +kernel
abbrev cX4_init : ByteArray := prog_6_method_1_code
def yX4_init : MethodName := ⟨RX4, "<init>", "()V"⟩
abbrev cX4_in : ByteArray := prog_6_method_3_code
def yX4_in : MethodName := ⟨RX4, "in", "(III)Z"⟩
abbrev cX4_isRow : ByteArray := prog_6_method_4_code
def yX4_isRow : MethodName := ⟨RX4, "isRow", "(I)Z"⟩
abbrev cX4_isPlace : ByteArray := prog_6_method_5_code
def yX4_isPlace : MethodName := ⟨RX4, "isPlace", "(II)Z"⟩
abbrev cX4_at : ByteArray := prog_6_method_6_code
def yX4_at : MethodName := ⟨RX4, "at", "(II)I"⟩
abbrev cX4_know : ByteArray := prog_6_method_7_code
def yX4_know : MethodName := ⟨RX4, "know", "()V"⟩
abbrev cX4_least : ByteArray := prog_6_method_8_code
def yX4_least : MethodName := ⟨RX4, "least", "(I)I"⟩
abbrev cX4_most : ByteArray := prog_6_method_9_code
def yX4_most : MethodName := ⟨RX4, "most", "(I)I"⟩
abbrev cX4_set : ByteArray := prog_6_method_10_code
def yX4_set : MethodName := ⟨RX4, "set", "(II)I"⟩
abbrev cX4_signOf : ByteArray := prog_6_method_11_code
def yX4_signOf : MethodName := ⟨RX4, "signOf", "(I)I"⟩
abbrev cX4_fault : ByteArray := prog_6_method_12_code
def yX4_fault : MethodName := ⟨RX4, "fault", "()I"⟩
abbrev cX4_pour : ByteArray := prog_6_method_13_code
def yX4_pour : MethodName := ⟨RX4, "pour", "(I)V"⟩
abbrev cX4_add : ByteArray := prog_6_method_14_code
def yX4_add : MethodName := ⟨RX4, "add", "()I"⟩
abbrev cX4_append : ByteArray := prog_6_method_15_code
def yX4_append : MethodName := ⟨RX4, "append", "(I)I"⟩
abbrev cX4_change : ByteArray := prog_6_method_16_code
def yX4_change : MethodName := ⟨RX4, "change", "(III)I"⟩
abbrev cX4_remove : ByteArray := prog_6_method_17_code
def yX4_remove : MethodName := ⟨RX4, "remove", "(I)I"⟩
abbrev cX4_codeAt : ByteArray := prog_6_method_18_code
def yX4_codeAt : MethodName := ⟨RX4, "codeAt", "(II)I"⟩
abbrev cX4_valueOf : ByteArray := prog_6_method_19_code
def yX4_valueOf : MethodName := ⟨RX4, "valueOf", "(I)I"⟩
abbrev cX4_note : ByteArray := prog_6_method_20_code
def yX4_note : MethodName := ⟨RX4, "note", "(II)V"⟩
abbrev cX4_find : ByteArray := prog_6_method_21_code
def yX4_find : MethodName := ⟨RX4, "find", "(II)V"⟩
abbrev cX4_compare : ByteArray := prog_6_method_22_code
def yX4_compare : MethodName := ⟨RX4, "compare", "(III)V"⟩
abbrev cX4_share : ByteArray := prog_6_method_23_code
def yX4_share : MethodName := ⟨RX4, "share", "(II)I"⟩
abbrev cX4_shareUp : ByteArray := prog_6_method_24_code
def yX4_shareUp : MethodName := ⟨RX4, "shareUp", "(II)I"⟩
abbrev cX4_either : ByteArray := prog_6_method_25_code
def yX4_either : MethodName := ⟨RX4, "either", "()I"⟩
abbrev cX4_lower : ByteArray := prog_6_method_26_code
def yX4_lower : MethodName := ⟨RX4, "lower", "()I"⟩
abbrev cX4_upper : ByteArray := prog_6_method_27_code
def yX4_upper : MethodName := ⟨RX4, "upper", "()I"⟩
abbrev cX4_sampled : ByteArray := prog_6_method_28_code
def yX4_sampled : MethodName := ⟨RX4, "sampled", "(I)I"⟩
abbrev cX4_ofRow : ByteArray := prog_6_method_29_code
def yX4_ofRow : MethodName := ⟨RX4, "ofRow", "(II)I"⟩
abbrev cX4_sign : ByteArray := prog_6_method_30_code
def yX4_sign : MethodName := ⟨RX4, "sign", "(II)I"⟩
abbrev cX4_sample : ByteArray := prog_6_method_31_code
def yX4_sample : MethodName := ⟨RX4, "sample", "(III)I"⟩
abbrev cX4_isAhead : ByteArray := prog_6_method_32_code
def yX4_isAhead : MethodName := ⟨RX4, "isAhead", "(II)Z"⟩
abbrev cX4_different : ByteArray := prog_6_method_33_code
def yX4_different : MethodName := ⟨RX4, "different", "()I"⟩
abbrev cX4_count : ByteArray := prog_6_method_34_code
def yX4_count : MethodName := ⟨RX4, "count", "(I)I"⟩
abbrev cX4_told : ByteArray := prog_6_method_35_code
def yX4_told : MethodName := ⟨RX4, "told", "(III)I"⟩
abbrev cX4_exact : ByteArray := prog_6_method_36_code
def yX4_exact : MethodName := ⟨RX4, "exact", "(III)I"⟩
abbrev cX4_inside : ByteArray := prog_6_method_37_code
def yX4_inside : MethodName := ⟨RX4, "inside", "(III)I"⟩
abbrev cX4_nearest : ByteArray := prog_6_method_38_code
def yX4_nearest : MethodName := ⟨RX4, "nearest", "(II)I"⟩
abbrev cX4_candidates : ByteArray := prog_6_method_39_code
def yX4_candidates : MethodName := ⟨RX4, "candidates", "(I)I"⟩
abbrev cX4_off : ByteArray := prog_6_method_40_code
def yX4_off : MethodName := ⟨RX4, "off", "(III)I"⟩
abbrev cX4_worst : ByteArray := prog_6_method_41_code
def yX4_worst : MethodName := ⟨RX4, "worst", "(I)I"⟩
abbrev cX4_bestKept : ByteArray := prog_6_method_42_code
def yX4_bestKept : MethodName := ⟨RX4, "bestKept", "(I)I"⟩
abbrev cX4_group : ByteArray := prog_6_method_43_code
def yX4_group : MethodName := ⟨RX4, "group", "(II)I"⟩
abbrev cX4_put : ByteArray := prog_6_method_44_code
def yX4_put : MethodName := ⟨RX4, "put", "(J)I"⟩
abbrev cX4_wipe : ByteArray := prog_6_method_45_code
def yX4_wipe : MethodName := ⟨RX4, "wipe", "()I"⟩
abbrev cX4_undo : ByteArray := prog_6_method_46_code
def yX4_undo : MethodName := ⟨RX4, "undo", "()I"⟩
abbrev cX4_save : ByteArray := prog_6_method_47_code
def yX4_save : MethodName := ⟨RX4, "save", "(I)I"⟩
abbrev cX4_restore : ByteArray := prog_6_method_48_code
def yX4_restore : MethodName := ⟨RX4, "restore", "(I)I"⟩
def RJ9 : String := "java/lang/Math"
def TJ9 : u_T := fun k => match k with
  | _ => ("", "", "", false)
def tyJ9 : Nat → FieldType := fun k => match k with
  | _ => .int
abbrev wsJ90 : List Cond := u_ws RJ9 TJ9 0
theorem nmJ9 : ∀ a, a < 0 → ∀ b, b < 0 → a ≠ b → (TJ9 a).2.1 ≠ (TJ9 b).2.1 := by decide +kernel
theorem tyJ9_ok : ∀ k, k < 0 → parseFieldDescriptor (TJ9 k).2.2.1 = some (tyJ9 k) := by decide +kernel
abbrev cJ9_abs_0f7a4 : ByteArray := prog_7_method_59_code
def yJ9_abs_0f7a4 : MethodName := ⟨RJ9, "abs", "(I)I"⟩
abbrev cJ9_max_7cf53 : ByteArray := prog_7_method_65_code
def yJ9_max_7cf53 : MethodName := ⟨RJ9, "max", "(II)I"⟩
abbrev cJ9_min_7cf53 : ByteArray := prog_7_method_69_code
def yJ9_min_7cf53 : MethodName := ⟨RJ9, "min", "(II)I"⟩
def RJ10 : String := "java/lang/System"
def TJ10 : u_T := fun k => match k with
  | _ => ("", "", "", false)
def tyJ10 : Nat → FieldType := fun k => match k with
  | _ => .int
abbrev wsJ100 : List Cond := u_ws RJ10 TJ10 0
theorem nmJ10 : ∀ a, a < 0 → ∀ b, b < 0 → a ≠ b → (TJ10 a).2.1 ≠ (TJ10 b).2.1 := by decide +kernel
theorem tyJ10_ok : ∀ k, k < 0 → parseFieldDescriptor (TJ10 k).2.2.1 = some (tyJ10 k) := by decide +kernel
def RL : String := "WordSamplesLaw"
abbrev cL_law : ByteArray := code
def yL_law : MethodName := ⟨RL, "law", "([I)Z"⟩
def wsX0_init : List Cond := .code yX0_init cX0_init 1 none :: ([.methodLink RX0 3 objectInit, .instanceMethod objectInit, .code objectInit ⟨#[0xb1]⟩ 1 none, .arrayClass .int, .fieldLink RX0 9 "WordSamples$Pair" "bothAmong" "[I", .fieldLink RX0 15 "WordSamples$Pair" "firstAmong" "[I", .fieldLink RX0 18 "WordSamples$Pair" "secondAmong" "[I", .fieldLink RX0 21 "WordSamples$Pair" "firstWords" "I", .fieldLink RX0 25 "WordSamples$Pair" "secondWords" "I", .fieldLink RX0 28 "WordSamples$Pair" "inEither" "I", .fieldLink RX0 31 "WordSamples$Pair" "inBoth" "I"] ++ wsX00)
def wsX2_valueAt : List Cond := .code yX2_valueAt cX2_valueAt 2 (some .int) :: ([.fieldLink RX2 21 "WordSamples$Words" "size" "I", .fieldLink RX2 9 "WordSamples$Words" "values" "[I", .constant RX2 46 (1000003)] ++ wsX20)
def wsX0_measure : List Cond := .code yX0_measure cX0_measure 8 none :: ([.fieldLink RX0 34 "WordSamples$Words" "size" "I", .fieldLink RX0 21 "WordSamples$Pair" "firstWords" "I", .fieldLink RX0 25 "WordSamples$Pair" "secondWords" "I", .fieldLink RX0 28 "WordSamples$Pair" "inEither" "I", .fieldLink RX0 31 "WordSamples$Pair" "inBoth" "I", .constant RX0 43 (1000003), .fieldLink RX0 15 "WordSamples$Pair" "firstAmong" "[I", .fieldLink RX0 18 "WordSamples$Pair" "secondAmong" "[I", .fieldLink RX0 9 "WordSamples$Pair" "bothAmong" "[I", .methodLink RX0 39 yX2_valueAt, .instanceMethod yX2_valueAt, .selects RX2 yX2_valueAt yX2_valueAt, .initialized RX2, .code yX2_valueAt cX2_valueAt 2 (some .int), .fieldLink RX2 21 "WordSamples$Words" "size" "I", .fieldLink RX2 9 "WordSamples$Words" "values" "[I", .constant RX2 46 (1000003)] ++ wsX20 ++ wsX00)
def wsX0_commonWords : List Cond := .code yX0_commonWords cX0_commonWords 2 (some .int) :: ([.fieldLink RX0 28 "WordSamples$Pair" "inEither" "I", .methodLink RX0 44 Lib.Math.min.name, .static Lib.Math.min.name, .initialized "java/lang/Math", .code Lib.Math.min.name Lib.Math.min.code 2 (some .int), .methodLink RX0 50 Lib.Math.max.name, .static Lib.Math.max.name, .code Lib.Math.max.name Lib.Math.max.code 2 (some .int)] ++ wsX00)
def wsX0_leastCommon : List Cond := .code yX0_leastCommon cX0_leastCommon 2 (some .int) :: ([.fieldLink RX0 9 "WordSamples$Pair" "bothAmong" "[I", .methodLink RX0 53 yX0_commonWords, .instanceMethod yX0_commonWords, .selects RX0 yX0_commonWords yX0_commonWords, .initialized RX0, .code yX0_commonWords cX0_commonWords 2 (some .int), .fieldLink RX0 28 "WordSamples$Pair" "inEither" "I", .methodLink RX0 44 Lib.Math.min.name, .static Lib.Math.min.name, .initialized "java/lang/Math", .code Lib.Math.min.name Lib.Math.min.code 2 (some .int), .methodLink RX0 50 Lib.Math.max.name, .static Lib.Math.max.name, .code Lib.Math.max.name Lib.Math.max.code 2 (some .int)] ++ wsX00)
def wsX0_mostCommon : List Cond := .code yX0_mostCommon cX0_mostCommon 5 (some .int) :: ([.fieldLink RX0 21 "WordSamples$Pair" "firstWords" "I", .fieldLink RX0 15 "WordSamples$Pair" "firstAmong" "[I", .fieldLink RX0 25 "WordSamples$Pair" "secondWords" "I", .fieldLink RX0 18 "WordSamples$Pair" "secondAmong" "[I", .fieldLink RX0 9 "WordSamples$Pair" "bothAmong" "[I", .methodLink RX0 44 Lib.Math.min.name, .static Lib.Math.min.name, .initialized "java/lang/Math", .code Lib.Math.min.name Lib.Math.min.code 2 (some .int), .methodLink RX0 53 yX0_commonWords, .instanceMethod yX0_commonWords, .selects RX0 yX0_commonWords yX0_commonWords, .initialized RX0, .code yX0_commonWords cX0_commonWords 2 (some .int), .fieldLink RX0 28 "WordSamples$Pair" "inEither" "I", .methodLink RX0 50 Lib.Math.max.name, .static Lib.Math.max.name, .code Lib.Math.max.name Lib.Math.max.code 2 (some .int)] ++ wsX00)
def wsX3_shareDown : List Cond := .code yX3_shareDown cX3_shareDown 2 (some .int) :: ([])
def wsX0_toldShare : List Cond := .code yX0_toldShare cX0_toldShare 2 (some .int) :: ([.methodLink RX0 56 yX0_leastCommon, .instanceMethod yX0_leastCommon, .selects RX0 yX0_leastCommon yX0_leastCommon, .initialized RX0, .code yX0_leastCommon cX0_leastCommon 2 (some .int), .fieldLink RX0 9 "WordSamples$Pair" "bothAmong" "[I", .methodLink RX0 53 yX0_commonWords, .instanceMethod yX0_commonWords, .selects RX0 yX0_commonWords yX0_commonWords, .code yX0_commonWords cX0_commonWords 2 (some .int), .fieldLink RX0 28 "WordSamples$Pair" "inEither" "I", .methodLink RX0 44 Lib.Math.min.name, .static Lib.Math.min.name, .initialized "java/lang/Math", .code Lib.Math.min.name Lib.Math.min.code 2 (some .int), .methodLink RX0 50 Lib.Math.max.name, .static Lib.Math.max.name, .code Lib.Math.max.name Lib.Math.max.code 2 (some .int), .static yX3_shareDown, .initialized RX3, .code yX3_shareDown cX3_shareDown 2 (some .int)] ++ wsX00)
def wsX0_trueShare : List Cond := .code yX0_trueShare cX0_trueShare 1 (some .int) :: ([.fieldLink RX0 31 "WordSamples$Pair" "inBoth" "I", .fieldLink RX0 28 "WordSamples$Pair" "inEither" "I", .static yX3_shareDown, .initialized RX3, .code yX3_shareDown cX3_shareDown 2 (some .int)] ++ wsX00)
def wsX0_lowerBound : List Cond := .code yX0_lowerBound cX0_lowerBound 3 (some .int) :: ([.fieldLink RX0 21 "WordSamples$Pair" "firstWords" "I", .fieldLink RX0 25 "WordSamples$Pair" "secondWords" "I", .methodLink RX0 56 yX0_leastCommon, .instanceMethod yX0_leastCommon, .selects RX0 yX0_leastCommon yX0_leastCommon, .initialized RX0, .code yX0_leastCommon cX0_leastCommon 2 (some .int), .fieldLink RX0 9 "WordSamples$Pair" "bothAmong" "[I", .methodLink RX0 53 yX0_commonWords, .instanceMethod yX0_commonWords, .selects RX0 yX0_commonWords yX0_commonWords, .code yX0_commonWords cX0_commonWords 2 (some .int), .fieldLink RX0 28 "WordSamples$Pair" "inEither" "I", .methodLink RX0 44 Lib.Math.min.name, .static Lib.Math.min.name, .initialized "java/lang/Math", .code Lib.Math.min.name Lib.Math.min.code 2 (some .int), .methodLink RX0 50 Lib.Math.max.name, .static Lib.Math.max.name, .code Lib.Math.max.name Lib.Math.max.code 2 (some .int), .static yX3_shareDown, .initialized RX3, .code yX3_shareDown cX3_shareDown 2 (some .int)] ++ wsX00)
def wsX3_shareUp : List Cond := .code yX3_shareUp cX3_shareUp 2 (some .int) :: ([])
def wsX0_upperBound_r1 : List Cond := [Cond.fieldLink RX0 21 "WordSamples$Pair" "firstWords" "I", Cond.fieldLink RX0 25 "WordSamples$Pair" "secondWords" "I", Cond.methodLink RX0 62 yX0_mostCommon, Cond.instanceMethod yX0_mostCommon, Cond.selects RX0 yX0_mostCommon yX0_mostCommon, Cond.initialized RX0, Cond.code yX0_mostCommon cX0_mostCommon 5 (some .int), Cond.fieldLink RX0 15 "WordSamples$Pair" "firstAmong" "[I", Cond.fieldLink RX0 18 "WordSamples$Pair" "secondAmong" "[I", Cond.fieldLink RX0 9 "WordSamples$Pair" "bothAmong" "[I", Cond.methodLink RX0 44 Lib.Math.min.name, Cond.static Lib.Math.min.name, Cond.initialized "java/lang/Math", Cond.code Lib.Math.min.name Lib.Math.min.code 2 (some .int), Cond.methodLink RX0 53 yX0_commonWords, Cond.instanceMethod yX0_commonWords, Cond.selects RX0 yX0_commonWords yX0_commonWords, Cond.code yX0_commonWords cX0_commonWords 2 (some .int), Cond.fieldLink RX0 28 "WordSamples$Pair" "inEither" "I", Cond.methodLink RX0 50 Lib.Math.max.name, Cond.static Lib.Math.max.name, Cond.code Lib.Math.max.name Lib.Math.max.code 2 (some .int), Cond.static yX3_shareUp, Cond.initialized RX3]
def wsX0_upperBound_r2 : List Cond := [Cond.code yX3_shareUp cX3_shareUp 2 (some .int)]
def wsX0_upperBound : List Cond := .code yX0_upperBound cX0_upperBound 3 (some .int) :: ((wsX0_upperBound_r1 ++ wsX0_upperBound_r2) ++ wsX00)
def wsX0_errorOfTold_r1 : List Cond := [Cond.methodLink RX0 75 Lib.Math.abs.name, Cond.static Lib.Math.abs.name, Cond.initialized "java/lang/Math", Cond.code Lib.Math.abs.name Lib.Math.abs.code 1 (some .int), Cond.methodLink RX0 68 yX0_toldShare, Cond.instanceMethod yX0_toldShare, Cond.selects RX0 yX0_toldShare yX0_toldShare, Cond.initialized RX0, Cond.code yX0_toldShare cX0_toldShare 2 (some .int), Cond.methodLink RX0 56 yX0_leastCommon, Cond.instanceMethod yX0_leastCommon, Cond.selects RX0 yX0_leastCommon yX0_leastCommon, Cond.code yX0_leastCommon cX0_leastCommon 2 (some .int), Cond.fieldLink RX0 9 "WordSamples$Pair" "bothAmong" "[I", Cond.methodLink RX0 53 yX0_commonWords, Cond.instanceMethod yX0_commonWords, Cond.selects RX0 yX0_commonWords yX0_commonWords, Cond.code yX0_commonWords cX0_commonWords 2 (some .int), Cond.fieldLink RX0 28 "WordSamples$Pair" "inEither" "I", Cond.methodLink RX0 44 Lib.Math.min.name, Cond.static Lib.Math.min.name, Cond.code Lib.Math.min.name Lib.Math.min.code 2 (some .int), Cond.methodLink RX0 50 Lib.Math.max.name, Cond.static Lib.Math.max.name]
def wsX0_errorOfTold_r2 : List Cond := [Cond.code Lib.Math.max.name Lib.Math.max.code 2 (some .int), Cond.static yX3_shareDown, Cond.initialized RX3, Cond.code yX3_shareDown cX3_shareDown 2 (some .int), Cond.methodLink RX0 71 yX0_trueShare, Cond.instanceMethod yX0_trueShare, Cond.selects RX0 yX0_trueShare yX0_trueShare, Cond.code yX0_trueShare cX0_trueShare 1 (some .int), Cond.fieldLink RX0 31 "WordSamples$Pair" "inBoth" "I"]
def wsX0_errorOfTold : List Cond := .code yX0_errorOfTold cX0_errorOfTold 2 (some .int) :: ((wsX0_errorOfTold_r1 ++ wsX0_errorOfTold_r2) ++ wsX00)
def wsX1_init : List Cond := .code yX1_init cX1_init 1 none :: ([.methodLink RX1 3 objectInit, .instanceMethod objectInit, .code objectInit ⟨#[0xb1]⟩ 1 none, .arrayClass .int, .fieldLink RX1 9 "WordSamples$State" "settings" "[I", .fieldLink RX1 15 "WordSamples$State" "lengths" "[I", .fieldLink RX1 18 "WordSamples$State" "signs" "[I", .fieldLink RX1 21 "WordSamples$State" "rows" "I", .methodLink RX1 28 arraycopyName, .native arraycopyName, .static arraycopyName, .initialized "java/lang/System"] ++ wsX10)
def wsX1_copyFrom : List Cond := .code yX1_copyFrom cX1_copyFrom 2 none :: ([.fieldLink RX1 9 "WordSamples$State" "settings" "[I", .methodLink RX1 28 arraycopyName, .native arraycopyName, .static arraycopyName, .initialized "java/lang/System", .fieldLink RX1 15 "WordSamples$State" "lengths" "[I", .fieldLink RX1 18 "WordSamples$State" "signs" "[I", .fieldLink RX1 21 "WordSamples$State" "rows" "I"] ++ wsX10)
def wsX2_init : List Cond := .code yX2_init cX2_init 1 none :: ([.methodLink RX2 3 objectInit, .instanceMethod objectInit, .code objectInit ⟨#[0xb1]⟩ 1 none, .arrayClass .int, .fieldLink RX2 9 "WordSamples$Words" "values" "[I", .fieldLink RX2 15 "WordSamples$Words" "codes" "[I", .fieldLink RX2 18 "WordSamples$Words" "times" "[I", .fieldLink RX2 21 "WordSamples$Words" "size" "I"] ++ wsX20)
def wsX2_codeAt : List Cond := .code yX2_codeAt cX2_codeAt 5 (some .int) :: ([])
def wsX2_enter : List Cond := .code yX2_enter cX2_enter 4 none :: ([.fieldLink RX2 21 "WordSamples$Words" "size" "I", .fieldLink RX2 9 "WordSamples$Words" "values" "[I", .fieldLink RX2 18 "WordSamples$Words" "times" "[I", .methodLink RX2 51 arraycopyName, .native arraycopyName, .static arraycopyName, .initialized "java/lang/System", .fieldLink RX2 15 "WordSamples$Words" "codes" "[I", .methodLink RX2 47 yX2_valueAt, .instanceMethod yX2_valueAt, .selects RX2 yX2_valueAt yX2_valueAt, .initialized RX2, .code yX2_valueAt cX2_valueAt 2 (some .int), .constant RX2 46 (1000003)] ++ wsX20)
def wsX2_gather_r1 : List Cond := [Cond.fieldLink RX2 21 "WordSamples$Words" "size" "I", Cond.fieldLink RX2 25 "WordSamples$State" "settings" "[I", Cond.fieldLink RX2 30 "WordSamples$State" "lengths" "[I", Cond.fieldLink RX2 33 "WordSamples$State" "signs" "[I", Cond.constantLong RX2 40 (1000003), Cond.methodLink RX2 36 yX2_codeAt, Cond.static yX2_codeAt, Cond.initialized RX2, Cond.code yX2_codeAt cX2_codeAt 5 (some .int), Cond.methodLink RX2 42 yX2_enter, Cond.instanceMethod yX2_enter, Cond.selects RX2 yX2_enter yX2_enter, Cond.code yX2_enter cX2_enter 4 none, Cond.fieldLink RX2 9 "WordSamples$Words" "values" "[I", Cond.fieldLink RX2 18 "WordSamples$Words" "times" "[I", Cond.methodLink RX2 51 arraycopyName, Cond.native arraycopyName, Cond.static arraycopyName, Cond.initialized "java/lang/System", Cond.fieldLink RX2 15 "WordSamples$Words" "codes" "[I", Cond.methodLink RX2 47 yX2_valueAt, Cond.instanceMethod yX2_valueAt, Cond.selects RX2 yX2_valueAt yX2_valueAt, Cond.code yX2_valueAt cX2_valueAt 2 (some .int)]
def wsX2_gather_r2 : List Cond := [Cond.constant RX2 46 (1000003)]
def wsX2_gather : List Cond := .code yX2_gather cX2_gather 10 none :: ((wsX2_gather_r1 ++ wsX2_gather_r2) ++ wsX20 ++ wsX10)
def wsX3_init_r1 : List Cond := [Cond.methodLink RX3 1 objectInit, Cond.instanceMethod objectInit, Cond.code objectInit ⟨#[0xb1]⟩ 1 none, Cond.classLink RX3 7 RX1, Cond.instantiable RX1 4, Cond.initialized RX1, Cond.fieldLink RX3 10 "WordSamples" "now" "LWordSamples$State;", Cond.fieldLink RX3 16 "WordSamples" "history" "[LWordSamples$State;", Cond.fieldLink RX3 20 "WordSamples" "undoable" "I", Cond.fieldLink RX3 24 "WordSamples" "slots" "[LWordSamples$State;", Cond.arrayClass .boolean, Cond.fieldLink RX3 27 "WordSamples" "saved" "[Z", Cond.arrayClass .int, Cond.fieldLink RX3 31 "WordSamples" "pad" "[I", Cond.fieldLink RX3 35 "WordSamples" "padLength" "I", Cond.classLink RX3 38 RX2, Cond.fieldLink RX3 40 "WordSamples" "words" "[LWordSamples$Words;", Cond.fieldLink RX3 44 "WordSamples" "gathered" "[Z", Cond.classLink RX3 47 RX0, Cond.instantiable RX0 7, Cond.initialized RX0, Cond.fieldLink RX3 50 "WordSamples" "pair" "LWordSamples$Pair;", Cond.fieldLink RX3 54 "WordSamples" "heads" "[I", Cond.instantiable RX2 4]
def wsX3_init_r2 : List Cond := [Cond.initialized RX2, Cond.methodLink RX3 9 yX1_init, Cond.instanceMethod yX1_init, Cond.code yX1_init cX1_init 1 none, Cond.methodLink RX1 3 objectInit, Cond.fieldLink RX1 9 "WordSamples$State" "settings" "[I", Cond.fieldLink RX1 15 "WordSamples$State" "lengths" "[I", Cond.fieldLink RX1 18 "WordSamples$State" "signs" "[I", Cond.fieldLink RX1 21 "WordSamples$State" "rows" "I", Cond.methodLink RX1 28 arraycopyName, Cond.native arraycopyName, Cond.static arraycopyName, Cond.initialized "java/lang/System", Cond.methodLink RX3 49 yX0_init, Cond.instanceMethod yX0_init, Cond.code yX0_init cX0_init 1 none, Cond.methodLink RX0 3 objectInit, Cond.fieldLink RX0 9 "WordSamples$Pair" "bothAmong" "[I", Cond.fieldLink RX0 15 "WordSamples$Pair" "firstAmong" "[I", Cond.fieldLink RX0 18 "WordSamples$Pair" "secondAmong" "[I", Cond.fieldLink RX0 21 "WordSamples$Pair" "firstWords" "I", Cond.fieldLink RX0 25 "WordSamples$Pair" "secondWords" "I", Cond.fieldLink RX0 28 "WordSamples$Pair" "inEither" "I", Cond.fieldLink RX0 31 "WordSamples$Pair" "inBoth" "I"]
def wsX3_init_r3 : List Cond := [Cond.methodLink RX3 57 yX2_init, Cond.instanceMethod yX2_init, Cond.code yX2_init cX2_init 1 none, Cond.methodLink RX2 3 objectInit, Cond.fieldLink RX2 9 "WordSamples$Words" "values" "[I", Cond.fieldLink RX2 15 "WordSamples$Words" "codes" "[I", Cond.fieldLink RX2 18 "WordSamples$Words" "times" "[I", Cond.fieldLink RX2 21 "WordSamples$Words" "size" "I"]
def wsX3_init : List Cond := .code yX3_init cX3_init 2 none :: ((wsX3_init_r1 ++ (wsX3_init_r2 ++ wsX3_init_r3)) ++ wsX10 ++ wsX30 ++ wsX00 ++ wsX20)
def wsX3_dropOldestChange : List Cond := .code yX3_dropOldestChange cX3_dropOldestChange 3 none :: ([.fieldLink RX3 16 "WordSamples" "history" "[LWordSamples$State;", .fieldLink RX3 20 "WordSamples" "undoable" "I"] ++ wsX30)
def wsX3_forgetWords : List Cond := .code yX3_forgetWords cX3_forgetWords 2 none :: ([.fieldLink RX3 44 "WordSamples" "gathered" "[Z"] ++ wsX30)
def wsX3_beginChange_r1 : List Cond := [Cond.fieldLink RX3 20 "WordSamples" "undoable" "I", Cond.fieldLink RX3 16 "WordSamples" "history" "[LWordSamples$State;", Cond.fieldLink RX3 10 "WordSamples" "now" "LWordSamples$State;", Cond.methodLink RX3 201 yX3_dropOldestChange, Cond.instanceMethod yX3_dropOldestChange, Cond.selects RX3 yX3_dropOldestChange yX3_dropOldestChange, Cond.initialized RX3, Cond.code yX3_dropOldestChange cX3_dropOldestChange 3 none, Cond.methodLink RX3 194 yX1_copyFrom, Cond.instanceMethod yX1_copyFrom, Cond.selects RX1 yX1_copyFrom yX1_copyFrom, Cond.initialized RX1, Cond.code yX1_copyFrom cX1_copyFrom 2 none, Cond.fieldLink RX1 9 "WordSamples$State" "settings" "[I", Cond.methodLink RX1 28 arraycopyName, Cond.native arraycopyName, Cond.static arraycopyName, Cond.initialized "java/lang/System", Cond.fieldLink RX1 15 "WordSamples$State" "lengths" "[I", Cond.fieldLink RX1 18 "WordSamples$State" "signs" "[I", Cond.fieldLink RX1 21 "WordSamples$State" "rows" "I", Cond.methodLink RX3 198 yX3_forgetWords, Cond.instanceMethod yX3_forgetWords, Cond.selects RX3 yX3_forgetWords yX3_forgetWords]
def wsX3_beginChange_r2 : List Cond := [Cond.code yX3_forgetWords cX3_forgetWords 2 none, Cond.fieldLink RX3 44 "WordSamples" "gathered" "[Z"]
def wsX3_beginChange : List Cond := .code yX3_beginChange cX3_beginChange 1 none :: ((wsX3_beginChange_r1 ++ wsX3_beginChange_r2) ++ wsX30 ++ wsX10)
def wsX3_set_r1 : List Cond := [Cond.fieldLink RX3 58 "WordSamples" "LEAST_SETTING" "[I", Cond.fieldLink RX3 61 "WordSamples" "MOST_SETTING" "[I", Cond.fieldLink RX3 10 "WordSamples" "now" "LWordSamples$State;", Cond.fieldLink RX3 67 "WordSamples$State" "settings" "[I", Cond.methodLink RX3 64 yX3_beginChange, Cond.instanceMethod yX3_beginChange, Cond.selects RX3 yX3_beginChange yX3_beginChange, Cond.initialized RX3, Cond.code yX3_beginChange cX3_beginChange 1 none, Cond.fieldLink RX3 20 "WordSamples" "undoable" "I", Cond.fieldLink RX3 16 "WordSamples" "history" "[LWordSamples$State;", Cond.methodLink RX3 201 yX3_dropOldestChange, Cond.instanceMethod yX3_dropOldestChange, Cond.selects RX3 yX3_dropOldestChange yX3_dropOldestChange, Cond.code yX3_dropOldestChange cX3_dropOldestChange 3 none, Cond.methodLink RX3 194 yX1_copyFrom, Cond.instanceMethod yX1_copyFrom, Cond.selects RX1 yX1_copyFrom yX1_copyFrom, Cond.initialized RX1, Cond.code yX1_copyFrom cX1_copyFrom 2 none, Cond.fieldLink RX1 9 "WordSamples$State" "settings" "[I", Cond.methodLink RX1 28 arraycopyName, Cond.native arraycopyName, Cond.static arraycopyName]
def wsX3_set_r2 : List Cond := [Cond.initialized "java/lang/System", Cond.fieldLink RX1 15 "WordSamples$State" "lengths" "[I", Cond.fieldLink RX1 18 "WordSamples$State" "signs" "[I", Cond.fieldLink RX1 21 "WordSamples$State" "rows" "I", Cond.methodLink RX3 198 yX3_forgetWords, Cond.instanceMethod yX3_forgetWords, Cond.selects RX3 yX3_forgetWords yX3_forgetWords, Cond.code yX3_forgetWords cX3_forgetWords 2 none, Cond.fieldLink RX3 44 "WordSamples" "gathered" "[Z"]
def wsX3_set : List Cond := .code yX3_set cX3_set 4 (some .int) :: ((wsX3_set_r1 ++ wsX3_set_r2) ++ wsX30 ++ wsX10)
def wsX3_signOf : List Cond := .code yX3_signOf cX3_signOf 1 (some .int) :: ([])
def wsX3_padFault : List Cond := .code yX3_padFault cX3_padFault 2 (some .int) :: ([.fieldLink RX3 35 "WordSamples" "padLength" "I", .fieldLink RX3 31 "WordSamples" "pad" "[I", .methodLink RX3 227 yX3_signOf, .static yX3_signOf, .initialized RX3, .code yX3_signOf cX3_signOf 1 (some .int)] ++ wsX30)
def wsX3_movePadTo : List Cond := .code yX3_movePadTo cX3_movePadTo 4 none :: ([.fieldLink RX3 10 "WordSamples" "now" "LWordSamples$State;", .fieldLink RX3 77 "WordSamples$State" "lengths" "[I", .fieldLink RX3 35 "WordSamples" "padLength" "I", .fieldLink RX3 92 "WordSamples$State" "signs" "[I", .fieldLink RX3 31 "WordSamples" "pad" "[I", .methodLink RX3 227 yX3_signOf, .static yX3_signOf, .initialized RX3, .code yX3_signOf cX3_signOf 1 (some .int)] ++ wsX30 ++ wsX10)
def wsX3_add_r1 : List Cond := [Cond.fieldLink RX3 10 "WordSamples" "now" "LWordSamples$State;", Cond.fieldLink RX3 74 "WordSamples$State" "rows" "I", Cond.fieldLink RX3 77 "WordSamples$State" "lengths" "[I", Cond.methodLink RX3 70 yX3_padFault, Cond.instanceMethod yX3_padFault, Cond.selects RX3 yX3_padFault yX3_padFault, Cond.initialized RX3, Cond.code yX3_padFault cX3_padFault 2 (some .int), Cond.fieldLink RX3 35 "WordSamples" "padLength" "I", Cond.fieldLink RX3 31 "WordSamples" "pad" "[I", Cond.methodLink RX3 227 yX3_signOf, Cond.static yX3_signOf, Cond.code yX3_signOf cX3_signOf 1 (some .int), Cond.methodLink RX3 64 yX3_beginChange, Cond.instanceMethod yX3_beginChange, Cond.selects RX3 yX3_beginChange yX3_beginChange, Cond.code yX3_beginChange cX3_beginChange 1 none, Cond.fieldLink RX3 20 "WordSamples" "undoable" "I", Cond.fieldLink RX3 16 "WordSamples" "history" "[LWordSamples$State;", Cond.methodLink RX3 201 yX3_dropOldestChange, Cond.instanceMethod yX3_dropOldestChange, Cond.selects RX3 yX3_dropOldestChange yX3_dropOldestChange, Cond.code yX3_dropOldestChange cX3_dropOldestChange 3 none, Cond.methodLink RX3 194 yX1_copyFrom]
def wsX3_add_r2 : List Cond := [Cond.instanceMethod yX1_copyFrom, Cond.selects RX1 yX1_copyFrom yX1_copyFrom, Cond.initialized RX1, Cond.code yX1_copyFrom cX1_copyFrom 2 none, Cond.fieldLink RX1 9 "WordSamples$State" "settings" "[I", Cond.methodLink RX1 28 arraycopyName, Cond.native arraycopyName, Cond.static arraycopyName, Cond.initialized "java/lang/System", Cond.fieldLink RX1 15 "WordSamples$State" "lengths" "[I", Cond.fieldLink RX1 18 "WordSamples$State" "signs" "[I", Cond.fieldLink RX1 21 "WordSamples$State" "rows" "I", Cond.methodLink RX3 198 yX3_forgetWords, Cond.instanceMethod yX3_forgetWords, Cond.selects RX3 yX3_forgetWords yX3_forgetWords, Cond.code yX3_forgetWords cX3_forgetWords 2 none, Cond.fieldLink RX3 44 "WordSamples" "gathered" "[Z", Cond.methodLink RX3 80 yX3_movePadTo, Cond.instanceMethod yX3_movePadTo, Cond.selects RX3 yX3_movePadTo yX3_movePadTo, Cond.code yX3_movePadTo cX3_movePadTo 4 none, Cond.fieldLink RX3 92 "WordSamples$State" "signs" "[I"]
def wsX3_add : List Cond := .code yX3_add cX3_add 2 (some .int) :: ((wsX3_add_r1 ++ wsX3_add_r2) ++ wsX30 ++ wsX10)
def wsX3_noRow : List Cond := .code yX3_noRow cX3_noRow 2 (some .boolean) :: ([.fieldLink RX3 10 "WordSamples" "now" "LWordSamples$State;", .fieldLink RX3 74 "WordSamples$State" "rows" "I"] ++ wsX30 ++ wsX10)
def wsX3_append_r1 : List Cond := [Cond.fieldLink RX3 10 "WordSamples" "now" "LWordSamples$State;", Cond.fieldLink RX3 77 "WordSamples$State" "lengths" "[I", Cond.fieldLink RX3 35 "WordSamples" "padLength" "I", Cond.methodLink RX3 84 yX3_noRow, Cond.instanceMethod yX3_noRow, Cond.selects RX3 yX3_noRow yX3_noRow, Cond.initialized RX3, Cond.code yX3_noRow cX3_noRow 2 (some .boolean), Cond.fieldLink RX3 74 "WordSamples$State" "rows" "I", Cond.methodLink RX3 70 yX3_padFault, Cond.instanceMethod yX3_padFault, Cond.selects RX3 yX3_padFault yX3_padFault, Cond.code yX3_padFault cX3_padFault 2 (some .int), Cond.fieldLink RX3 31 "WordSamples" "pad" "[I", Cond.methodLink RX3 227 yX3_signOf, Cond.static yX3_signOf, Cond.code yX3_signOf cX3_signOf 1 (some .int), Cond.methodLink RX3 64 yX3_beginChange, Cond.instanceMethod yX3_beginChange, Cond.selects RX3 yX3_beginChange yX3_beginChange, Cond.code yX3_beginChange cX3_beginChange 1 none, Cond.fieldLink RX3 20 "WordSamples" "undoable" "I", Cond.fieldLink RX3 16 "WordSamples" "history" "[LWordSamples$State;", Cond.methodLink RX3 201 yX3_dropOldestChange]
def wsX3_append_r2 : List Cond := [Cond.instanceMethod yX3_dropOldestChange, Cond.selects RX3 yX3_dropOldestChange yX3_dropOldestChange, Cond.code yX3_dropOldestChange cX3_dropOldestChange 3 none, Cond.methodLink RX3 194 yX1_copyFrom, Cond.instanceMethod yX1_copyFrom, Cond.selects RX1 yX1_copyFrom yX1_copyFrom, Cond.initialized RX1, Cond.code yX1_copyFrom cX1_copyFrom 2 none, Cond.fieldLink RX1 9 "WordSamples$State" "settings" "[I", Cond.methodLink RX1 28 arraycopyName, Cond.native arraycopyName, Cond.static arraycopyName, Cond.initialized "java/lang/System", Cond.fieldLink RX1 15 "WordSamples$State" "lengths" "[I", Cond.fieldLink RX1 18 "WordSamples$State" "signs" "[I", Cond.fieldLink RX1 21 "WordSamples$State" "rows" "I", Cond.methodLink RX3 198 yX3_forgetWords, Cond.instanceMethod yX3_forgetWords, Cond.selects RX3 yX3_forgetWords yX3_forgetWords, Cond.code yX3_forgetWords cX3_forgetWords 2 none, Cond.fieldLink RX3 44 "WordSamples" "gathered" "[Z", Cond.methodLink RX3 80 yX3_movePadTo, Cond.instanceMethod yX3_movePadTo, Cond.selects RX3 yX3_movePadTo yX3_movePadTo]
def wsX3_append_r3 : List Cond := [Cond.code yX3_movePadTo cX3_movePadTo 4 none, Cond.fieldLink RX3 92 "WordSamples$State" "signs" "[I"]
def wsX3_append : List Cond := .code yX3_append cX3_append 2 (some .int) :: ((wsX3_append_r1 ++ (wsX3_append_r2 ++ wsX3_append_r3)) ++ wsX30 ++ wsX10)
def wsX3_noPlace : List Cond := .code yX3_noPlace cX3_noPlace 3 (some .boolean) :: ([.fieldLink RX3 10 "WordSamples" "now" "LWordSamples$State;", .fieldLink RX3 77 "WordSamples$State" "lengths" "[I", .methodLink RX3 84 yX3_noRow, .instanceMethod yX3_noRow, .selects RX3 yX3_noRow yX3_noRow, .initialized RX3, .code yX3_noRow cX3_noRow 2 (some .boolean), .fieldLink RX3 74 "WordSamples$State" "rows" "I"] ++ wsX30 ++ wsX10)
def wsX3_change_r1 : List Cond := [Cond.fieldLink RX3 10 "WordSamples" "now" "LWordSamples$State;", Cond.fieldLink RX3 92 "WordSamples$State" "signs" "[I", Cond.methodLink RX3 88 yX3_noPlace, Cond.instanceMethod yX3_noPlace, Cond.selects RX3 yX3_noPlace yX3_noPlace, Cond.initialized RX3, Cond.code yX3_noPlace cX3_noPlace 3 (some .boolean), Cond.fieldLink RX3 77 "WordSamples$State" "lengths" "[I", Cond.methodLink RX3 84 yX3_noRow, Cond.instanceMethod yX3_noRow, Cond.selects RX3 yX3_noRow yX3_noRow, Cond.code yX3_noRow cX3_noRow 2 (some .boolean), Cond.fieldLink RX3 74 "WordSamples$State" "rows" "I", Cond.methodLink RX3 64 yX3_beginChange, Cond.instanceMethod yX3_beginChange, Cond.selects RX3 yX3_beginChange yX3_beginChange, Cond.code yX3_beginChange cX3_beginChange 1 none, Cond.fieldLink RX3 20 "WordSamples" "undoable" "I", Cond.fieldLink RX3 16 "WordSamples" "history" "[LWordSamples$State;", Cond.methodLink RX3 201 yX3_dropOldestChange, Cond.instanceMethod yX3_dropOldestChange, Cond.selects RX3 yX3_dropOldestChange yX3_dropOldestChange, Cond.code yX3_dropOldestChange cX3_dropOldestChange 3 none, Cond.methodLink RX3 194 yX1_copyFrom]
def wsX3_change_r2 : List Cond := [Cond.instanceMethod yX1_copyFrom, Cond.selects RX1 yX1_copyFrom yX1_copyFrom, Cond.initialized RX1, Cond.code yX1_copyFrom cX1_copyFrom 2 none, Cond.fieldLink RX1 9 "WordSamples$State" "settings" "[I", Cond.methodLink RX1 28 arraycopyName, Cond.native arraycopyName, Cond.static arraycopyName, Cond.initialized "java/lang/System", Cond.fieldLink RX1 15 "WordSamples$State" "lengths" "[I", Cond.fieldLink RX1 18 "WordSamples$State" "signs" "[I", Cond.fieldLink RX1 21 "WordSamples$State" "rows" "I", Cond.methodLink RX3 198 yX3_forgetWords, Cond.instanceMethod yX3_forgetWords, Cond.selects RX3 yX3_forgetWords yX3_forgetWords, Cond.code yX3_forgetWords cX3_forgetWords 2 none, Cond.fieldLink RX3 44 "WordSamples" "gathered" "[Z"]
def wsX3_change : List Cond := .code yX3_change cX3_change 6 (some .int) :: ((wsX3_change_r1 ++ wsX3_change_r2) ++ wsX30 ++ wsX10)
def wsX3_remove_r1 : List Cond := [Cond.fieldLink RX3 10 "WordSamples" "now" "LWordSamples$State;", Cond.fieldLink RX3 74 "WordSamples$State" "rows" "I", Cond.fieldLink RX3 77 "WordSamples$State" "lengths" "[I", Cond.methodLink RX3 95 arraycopyName, Cond.native arraycopyName, Cond.static arraycopyName, Cond.initialized "java/lang/System", Cond.fieldLink RX3 92 "WordSamples$State" "signs" "[I", Cond.methodLink RX3 84 yX3_noRow, Cond.instanceMethod yX3_noRow, Cond.selects RX3 yX3_noRow yX3_noRow, Cond.initialized RX3, Cond.code yX3_noRow cX3_noRow 2 (some .boolean), Cond.methodLink RX3 64 yX3_beginChange, Cond.instanceMethod yX3_beginChange, Cond.selects RX3 yX3_beginChange yX3_beginChange, Cond.code yX3_beginChange cX3_beginChange 1 none, Cond.fieldLink RX3 20 "WordSamples" "undoable" "I", Cond.fieldLink RX3 16 "WordSamples" "history" "[LWordSamples$State;", Cond.methodLink RX3 201 yX3_dropOldestChange, Cond.instanceMethod yX3_dropOldestChange, Cond.selects RX3 yX3_dropOldestChange yX3_dropOldestChange, Cond.code yX3_dropOldestChange cX3_dropOldestChange 3 none, Cond.methodLink RX3 194 yX1_copyFrom]
def wsX3_remove_r2 : List Cond := [Cond.instanceMethod yX1_copyFrom, Cond.selects RX1 yX1_copyFrom yX1_copyFrom, Cond.initialized RX1, Cond.code yX1_copyFrom cX1_copyFrom 2 none, Cond.fieldLink RX1 9 "WordSamples$State" "settings" "[I", Cond.methodLink RX1 28 arraycopyName, Cond.fieldLink RX1 15 "WordSamples$State" "lengths" "[I", Cond.fieldLink RX1 18 "WordSamples$State" "signs" "[I", Cond.fieldLink RX1 21 "WordSamples$State" "rows" "I", Cond.methodLink RX3 198 yX3_forgetWords, Cond.instanceMethod yX3_forgetWords, Cond.selects RX3 yX3_forgetWords yX3_forgetWords, Cond.code yX3_forgetWords cX3_forgetWords 2 none, Cond.fieldLink RX3 44 "WordSamples" "gathered" "[Z"]
def wsX3_remove : List Cond := .code yX3_remove cX3_remove 3 (some .int) :: ((wsX3_remove_r1 ++ wsX3_remove_r2) ++ wsX30 ++ wsX10)
def wsX3_wordsOf_r1 : List Cond := [Cond.fieldLink RX3 44 "WordSamples" "gathered" "[Z", Cond.fieldLink RX3 40 "WordSamples" "words" "[LWordSamples$Words;", Cond.fieldLink RX3 10 "WordSamples" "now" "LWordSamples$State;", Cond.methodLink RX3 204 yX2_gather, Cond.instanceMethod yX2_gather, Cond.selects RX2 yX2_gather yX2_gather, Cond.initialized RX2, Cond.code yX2_gather cX2_gather 10 none, Cond.fieldLink RX2 21 "WordSamples$Words" "size" "I", Cond.fieldLink RX2 25 "WordSamples$State" "settings" "[I", Cond.fieldLink RX2 30 "WordSamples$State" "lengths" "[I", Cond.fieldLink RX2 33 "WordSamples$State" "signs" "[I", Cond.constantLong RX2 40 (1000003), Cond.methodLink RX2 36 yX2_codeAt, Cond.static yX2_codeAt, Cond.code yX2_codeAt cX2_codeAt 5 (some .int), Cond.methodLink RX2 42 yX2_enter, Cond.instanceMethod yX2_enter, Cond.selects RX2 yX2_enter yX2_enter, Cond.code yX2_enter cX2_enter 4 none, Cond.fieldLink RX2 9 "WordSamples$Words" "values" "[I", Cond.fieldLink RX2 18 "WordSamples$Words" "times" "[I", Cond.methodLink RX2 51 arraycopyName, Cond.native arraycopyName]
def wsX3_wordsOf_r2 : List Cond := [Cond.static arraycopyName, Cond.initialized "java/lang/System", Cond.fieldLink RX2 15 "WordSamples$Words" "codes" "[I", Cond.methodLink RX2 47 yX2_valueAt, Cond.instanceMethod yX2_valueAt, Cond.selects RX2 yX2_valueAt yX2_valueAt, Cond.code yX2_valueAt cX2_valueAt 2 (some .int), Cond.constant RX2 46 (1000003)]
def wsX3_wordsOf : List Cond := .code yX3_wordsOf cX3_wordsOf 2 (some (.object "WordSamples$Words")) :: ((wsX3_wordsOf_r1 ++ wsX3_wordsOf_r2) ++ wsX30 ++ wsX20 ++ wsX10)
def wsX3_sampleSize_r1 : List Cond := [Cond.fieldLink RX3 105 "WordSamples$Words" "size" "I", Cond.fieldLink RX3 10 "WordSamples" "now" "LWordSamples$State;", Cond.fieldLink RX3 67 "WordSamples$State" "settings" "[I", Cond.methodLink RX3 208 Lib.Math.min.name, Cond.static Lib.Math.min.name, Cond.initialized "java/lang/Math", Cond.code Lib.Math.min.name Lib.Math.min.code 2 (some .int), Cond.methodLink RX3 101 yX3_wordsOf, Cond.instanceMethod yX3_wordsOf, Cond.selects RX3 yX3_wordsOf yX3_wordsOf, Cond.initialized RX3, Cond.code yX3_wordsOf cX3_wordsOf 2 (some (.object "WordSamples$Words")), Cond.fieldLink RX3 44 "WordSamples" "gathered" "[Z", Cond.fieldLink RX3 40 "WordSamples" "words" "[LWordSamples$Words;", Cond.methodLink RX3 204 yX2_gather, Cond.instanceMethod yX2_gather, Cond.selects RX2 yX2_gather yX2_gather, Cond.initialized RX2, Cond.code yX2_gather cX2_gather 10 none, Cond.fieldLink RX2 21 "WordSamples$Words" "size" "I", Cond.fieldLink RX2 25 "WordSamples$State" "settings" "[I", Cond.fieldLink RX2 30 "WordSamples$State" "lengths" "[I", Cond.fieldLink RX2 33 "WordSamples$State" "signs" "[I", Cond.constantLong RX2 40 (1000003)]
def wsX3_sampleSize_r2 : List Cond := [Cond.methodLink RX2 36 yX2_codeAt, Cond.static yX2_codeAt, Cond.code yX2_codeAt cX2_codeAt 5 (some .int), Cond.methodLink RX2 42 yX2_enter, Cond.instanceMethod yX2_enter, Cond.selects RX2 yX2_enter yX2_enter, Cond.code yX2_enter cX2_enter 4 none, Cond.fieldLink RX2 9 "WordSamples$Words" "values" "[I", Cond.fieldLink RX2 18 "WordSamples$Words" "times" "[I", Cond.methodLink RX2 51 arraycopyName, Cond.native arraycopyName, Cond.static arraycopyName, Cond.initialized "java/lang/System", Cond.fieldLink RX2 15 "WordSamples$Words" "codes" "[I", Cond.methodLink RX2 47 yX2_valueAt, Cond.instanceMethod yX2_valueAt, Cond.selects RX2 yX2_valueAt yX2_valueAt, Cond.code yX2_valueAt cX2_valueAt 2 (some .int), Cond.constant RX2 46 (1000003)]
def wsX3_sampleSize : List Cond := .code yX3_sampleSize cX3_sampleSize 2 (some .int) :: ((wsX3_sampleSize_r1 ++ wsX3_sampleSize_r2) ++ wsX20 ++ wsX30 ++ wsX10)
def wsX3_greatestOfSample_r1 : List Cond := [Cond.methodLink RX3 108 yX3_sampleSize, Cond.instanceMethod yX3_sampleSize, Cond.selects RX3 yX3_sampleSize yX3_sampleSize, Cond.initialized RX3, Cond.code yX3_sampleSize cX3_sampleSize 2 (some .int), Cond.fieldLink RX3 105 "WordSamples$Words" "size" "I", Cond.fieldLink RX3 10 "WordSamples" "now" "LWordSamples$State;", Cond.fieldLink RX3 67 "WordSamples$State" "settings" "[I", Cond.methodLink RX3 208 Lib.Math.min.name, Cond.static Lib.Math.min.name, Cond.initialized "java/lang/Math", Cond.code Lib.Math.min.name Lib.Math.min.code 2 (some .int), Cond.methodLink RX3 101 yX3_wordsOf, Cond.instanceMethod yX3_wordsOf, Cond.selects RX3 yX3_wordsOf yX3_wordsOf, Cond.code yX3_wordsOf cX3_wordsOf 2 (some (.object "WordSamples$Words")), Cond.fieldLink RX3 44 "WordSamples" "gathered" "[Z", Cond.fieldLink RX3 40 "WordSamples" "words" "[LWordSamples$Words;", Cond.methodLink RX3 204 yX2_gather, Cond.instanceMethod yX2_gather, Cond.selects RX2 yX2_gather yX2_gather, Cond.initialized RX2, Cond.code yX2_gather cX2_gather 10 none, Cond.fieldLink RX2 21 "WordSamples$Words" "size" "I"]
def wsX3_greatestOfSample_r2 : List Cond := [Cond.fieldLink RX2 25 "WordSamples$State" "settings" "[I", Cond.fieldLink RX2 30 "WordSamples$State" "lengths" "[I", Cond.fieldLink RX2 33 "WordSamples$State" "signs" "[I", Cond.constantLong RX2 40 (1000003), Cond.methodLink RX2 36 yX2_codeAt, Cond.static yX2_codeAt, Cond.code yX2_codeAt cX2_codeAt 5 (some .int), Cond.methodLink RX2 42 yX2_enter, Cond.instanceMethod yX2_enter, Cond.selects RX2 yX2_enter yX2_enter, Cond.code yX2_enter cX2_enter 4 none, Cond.fieldLink RX2 9 "WordSamples$Words" "values" "[I", Cond.fieldLink RX2 18 "WordSamples$Words" "times" "[I", Cond.methodLink RX2 51 arraycopyName, Cond.native arraycopyName, Cond.static arraycopyName, Cond.initialized "java/lang/System", Cond.fieldLink RX2 15 "WordSamples$Words" "codes" "[I", Cond.methodLink RX2 47 yX2_valueAt, Cond.instanceMethod yX2_valueAt, Cond.selects RX2 yX2_valueAt yX2_valueAt, Cond.code yX2_valueAt cX2_valueAt 2 (some .int), Cond.constant RX2 46 (1000003), Cond.methodLink RX3 211 yX2_valueAt]
def wsX3_greatestOfSample : List Cond := .code yX3_greatestOfSample cX3_greatestOfSample 3 (some .int) :: ((wsX3_greatestOfSample_r1 ++ wsX3_greatestOfSample_r2) ++ wsX20 ++ wsX30 ++ wsX10)
def wsX3_ofRow_r1 : List Cond := [Cond.fieldLink RX3 10 "WordSamples" "now" "LWordSamples$State;", Cond.fieldLink RX3 77 "WordSamples$State" "lengths" "[I", Cond.fieldLink RX3 105 "WordSamples$Words" "size" "I", Cond.methodLink RX3 84 yX3_noRow, Cond.instanceMethod yX3_noRow, Cond.selects RX3 yX3_noRow yX3_noRow, Cond.initialized RX3, Cond.code yX3_noRow cX3_noRow 2 (some .boolean), Cond.fieldLink RX3 74 "WordSamples$State" "rows" "I", Cond.methodLink RX3 101 yX3_wordsOf, Cond.instanceMethod yX3_wordsOf, Cond.selects RX3 yX3_wordsOf yX3_wordsOf, Cond.code yX3_wordsOf cX3_wordsOf 2 (some (.object "WordSamples$Words")), Cond.fieldLink RX3 44 "WordSamples" "gathered" "[Z", Cond.fieldLink RX3 40 "WordSamples" "words" "[LWordSamples$Words;", Cond.methodLink RX3 204 yX2_gather, Cond.instanceMethod yX2_gather, Cond.selects RX2 yX2_gather yX2_gather, Cond.initialized RX2, Cond.code yX2_gather cX2_gather 10 none, Cond.fieldLink RX2 21 "WordSamples$Words" "size" "I", Cond.fieldLink RX2 25 "WordSamples$State" "settings" "[I", Cond.fieldLink RX2 30 "WordSamples$State" "lengths" "[I", Cond.fieldLink RX2 33 "WordSamples$State" "signs" "[I"]
def wsX3_ofRow_r2 : List Cond := [Cond.constantLong RX2 40 (1000003), Cond.methodLink RX2 36 yX2_codeAt, Cond.static yX2_codeAt, Cond.code yX2_codeAt cX2_codeAt 5 (some .int), Cond.methodLink RX2 42 yX2_enter, Cond.instanceMethod yX2_enter, Cond.selects RX2 yX2_enter yX2_enter, Cond.code yX2_enter cX2_enter 4 none, Cond.fieldLink RX2 9 "WordSamples$Words" "values" "[I", Cond.fieldLink RX2 18 "WordSamples$Words" "times" "[I", Cond.methodLink RX2 51 arraycopyName, Cond.native arraycopyName, Cond.static arraycopyName, Cond.initialized "java/lang/System", Cond.fieldLink RX2 15 "WordSamples$Words" "codes" "[I", Cond.methodLink RX2 47 yX2_valueAt, Cond.instanceMethod yX2_valueAt, Cond.selects RX2 yX2_valueAt yX2_valueAt, Cond.code yX2_valueAt cX2_valueAt 2 (some .int), Cond.constant RX2 46 (1000003), Cond.methodLink RX3 108 yX3_sampleSize, Cond.instanceMethod yX3_sampleSize, Cond.selects RX3 yX3_sampleSize yX3_sampleSize, Cond.code yX3_sampleSize cX3_sampleSize 2 (some .int)]
def wsX3_ofRow_r3 : List Cond := [Cond.fieldLink RX3 67 "WordSamples$State" "settings" "[I", Cond.methodLink RX3 208 Lib.Math.min.name, Cond.static Lib.Math.min.name, Cond.initialized "java/lang/Math", Cond.code Lib.Math.min.name Lib.Math.min.code 2 (some .int), Cond.methodLink RX3 112 yX3_greatestOfSample, Cond.instanceMethod yX3_greatestOfSample, Cond.selects RX3 yX3_greatestOfSample yX3_greatestOfSample, Cond.code yX3_greatestOfSample cX3_greatestOfSample 3 (some .int), Cond.methodLink RX3 211 yX2_valueAt]
def wsX3_ofRow : List Cond := .code yX3_ofRow cX3_ofRow 3 (some .int) :: ((wsX3_ofRow_r1 ++ (wsX3_ofRow_r2 ++ wsX3_ofRow_r3)) ++ wsX30 ++ wsX10 ++ wsX20)
def wsX3_sign : List Cond := .code yX3_sign cX3_sign 3 (some .int) :: ([.fieldLink RX3 10 "WordSamples" "now" "LWordSamples$State;", .fieldLink RX3 92 "WordSamples$State" "signs" "[I", .methodLink RX3 88 yX3_noPlace, .instanceMethod yX3_noPlace, .selects RX3 yX3_noPlace yX3_noPlace, .initialized RX3, .code yX3_noPlace cX3_noPlace 3 (some .boolean), .fieldLink RX3 77 "WordSamples$State" "lengths" "[I", .methodLink RX3 84 yX3_noRow, .instanceMethod yX3_noRow, .selects RX3 yX3_noRow yX3_noRow, .code yX3_noRow cX3_noRow 2 (some .boolean), .fieldLink RX3 74 "WordSamples$State" "rows" "I"] ++ wsX30 ++ wsX10)
def wsX3_sample_r1 : List Cond := [Cond.fieldLink RX3 115 "WordSamples$Words" "values" "[I", Cond.fieldLink RX3 118 "WordSamples$Words" "codes" "[I", Cond.fieldLink RX3 121 "WordSamples$Words" "times" "[I", Cond.methodLink RX3 84 yX3_noRow, Cond.instanceMethod yX3_noRow, Cond.selects RX3 yX3_noRow yX3_noRow, Cond.initialized RX3, Cond.code yX3_noRow cX3_noRow 2 (some .boolean), Cond.fieldLink RX3 10 "WordSamples" "now" "LWordSamples$State;", Cond.fieldLink RX3 74 "WordSamples$State" "rows" "I", Cond.methodLink RX3 108 yX3_sampleSize, Cond.instanceMethod yX3_sampleSize, Cond.selects RX3 yX3_sampleSize yX3_sampleSize, Cond.code yX3_sampleSize cX3_sampleSize 2 (some .int), Cond.fieldLink RX3 105 "WordSamples$Words" "size" "I", Cond.fieldLink RX3 67 "WordSamples$State" "settings" "[I", Cond.methodLink RX3 208 Lib.Math.min.name, Cond.static Lib.Math.min.name, Cond.initialized "java/lang/Math", Cond.code Lib.Math.min.name Lib.Math.min.code 2 (some .int), Cond.methodLink RX3 101 yX3_wordsOf, Cond.instanceMethod yX3_wordsOf, Cond.selects RX3 yX3_wordsOf yX3_wordsOf, Cond.code yX3_wordsOf cX3_wordsOf 2 (some (.object "WordSamples$Words"))]
def wsX3_sample_r2 : List Cond := [Cond.fieldLink RX3 44 "WordSamples" "gathered" "[Z", Cond.fieldLink RX3 40 "WordSamples" "words" "[LWordSamples$Words;", Cond.methodLink RX3 204 yX2_gather, Cond.instanceMethod yX2_gather, Cond.selects RX2 yX2_gather yX2_gather, Cond.initialized RX2, Cond.code yX2_gather cX2_gather 10 none, Cond.fieldLink RX2 21 "WordSamples$Words" "size" "I", Cond.fieldLink RX2 25 "WordSamples$State" "settings" "[I", Cond.fieldLink RX2 30 "WordSamples$State" "lengths" "[I", Cond.fieldLink RX2 33 "WordSamples$State" "signs" "[I", Cond.constantLong RX2 40 (1000003), Cond.methodLink RX2 36 yX2_codeAt, Cond.static yX2_codeAt, Cond.code yX2_codeAt cX2_codeAt 5 (some .int), Cond.methodLink RX2 42 yX2_enter, Cond.instanceMethod yX2_enter, Cond.selects RX2 yX2_enter yX2_enter, Cond.code yX2_enter cX2_enter 4 none, Cond.fieldLink RX2 9 "WordSamples$Words" "values" "[I", Cond.fieldLink RX2 18 "WordSamples$Words" "times" "[I", Cond.methodLink RX2 51 arraycopyName, Cond.native arraycopyName, Cond.static arraycopyName]
def wsX3_sample_r3 : List Cond := [Cond.initialized "java/lang/System", Cond.fieldLink RX2 15 "WordSamples$Words" "codes" "[I", Cond.methodLink RX2 47 yX2_valueAt, Cond.instanceMethod yX2_valueAt, Cond.selects RX2 yX2_valueAt yX2_valueAt, Cond.code yX2_valueAt cX2_valueAt 2 (some .int), Cond.constant RX2 46 (1000003)]
def wsX3_sample : List Cond := .code yX3_sample cX3_sample 4 (some .int) :: ((wsX3_sample_r1 ++ (wsX3_sample_r2 ++ wsX3_sample_r3)) ++ wsX20 ++ wsX30 ++ wsX10)
def wsX3_leastAtHeads_r1 : List Cond := [Cond.constant RX3 221 (1000003), Cond.fieldLink RX3 10 "WordSamples" "now" "LWordSamples$State;", Cond.fieldLink RX3 74 "WordSamples$State" "rows" "I", Cond.fieldLink RX3 54 "WordSamples" "heads" "[I", Cond.methodLink RX3 208 Lib.Math.min.name, Cond.static Lib.Math.min.name, Cond.initialized "java/lang/Math", Cond.code Lib.Math.min.name Lib.Math.min.code 2 (some .int), Cond.methodLink RX3 101 yX3_wordsOf, Cond.instanceMethod yX3_wordsOf, Cond.selects RX3 yX3_wordsOf yX3_wordsOf, Cond.initialized RX3, Cond.code yX3_wordsOf cX3_wordsOf 2 (some (.object "WordSamples$Words")), Cond.fieldLink RX3 44 "WordSamples" "gathered" "[Z", Cond.fieldLink RX3 40 "WordSamples" "words" "[LWordSamples$Words;", Cond.methodLink RX3 204 yX2_gather, Cond.instanceMethod yX2_gather, Cond.selects RX2 yX2_gather yX2_gather, Cond.initialized RX2, Cond.code yX2_gather cX2_gather 10 none, Cond.fieldLink RX2 21 "WordSamples$Words" "size" "I", Cond.fieldLink RX2 25 "WordSamples$State" "settings" "[I", Cond.fieldLink RX2 30 "WordSamples$State" "lengths" "[I", Cond.fieldLink RX2 33 "WordSamples$State" "signs" "[I"]
def wsX3_leastAtHeads_r2 : List Cond := [Cond.constantLong RX2 40 (1000003), Cond.methodLink RX2 36 yX2_codeAt, Cond.static yX2_codeAt, Cond.code yX2_codeAt cX2_codeAt 5 (some .int), Cond.methodLink RX2 42 yX2_enter, Cond.instanceMethod yX2_enter, Cond.selects RX2 yX2_enter yX2_enter, Cond.code yX2_enter cX2_enter 4 none, Cond.fieldLink RX2 9 "WordSamples$Words" "values" "[I", Cond.fieldLink RX2 18 "WordSamples$Words" "times" "[I", Cond.methodLink RX2 51 arraycopyName, Cond.native arraycopyName, Cond.static arraycopyName, Cond.initialized "java/lang/System", Cond.fieldLink RX2 15 "WordSamples$Words" "codes" "[I", Cond.methodLink RX2 47 yX2_valueAt, Cond.instanceMethod yX2_valueAt, Cond.selects RX2 yX2_valueAt yX2_valueAt, Cond.code yX2_valueAt cX2_valueAt 2 (some .int), Cond.constant RX2 46 (1000003), Cond.methodLink RX3 211 yX2_valueAt]
def wsX3_leastAtHeads : List Cond := .code yX3_leastAtHeads cX3_leastAtHeads 3 (some .int) :: ((wsX3_leastAtHeads_r1 ++ wsX3_leastAtHeads_r2) ++ wsX30 ++ wsX10 ++ wsX20)
def wsX3_passAtHeads_r1 : List Cond := [Cond.fieldLink RX3 10 "WordSamples" "now" "LWordSamples$State;", Cond.fieldLink RX3 74 "WordSamples$State" "rows" "I", Cond.fieldLink RX3 54 "WordSamples" "heads" "[I", Cond.methodLink RX3 101 yX3_wordsOf, Cond.instanceMethod yX3_wordsOf, Cond.selects RX3 yX3_wordsOf yX3_wordsOf, Cond.initialized RX3, Cond.code yX3_wordsOf cX3_wordsOf 2 (some (.object "WordSamples$Words")), Cond.fieldLink RX3 44 "WordSamples" "gathered" "[Z", Cond.fieldLink RX3 40 "WordSamples" "words" "[LWordSamples$Words;", Cond.methodLink RX3 204 yX2_gather, Cond.instanceMethod yX2_gather, Cond.selects RX2 yX2_gather yX2_gather, Cond.initialized RX2, Cond.code yX2_gather cX2_gather 10 none, Cond.fieldLink RX2 21 "WordSamples$Words" "size" "I", Cond.fieldLink RX2 25 "WordSamples$State" "settings" "[I", Cond.fieldLink RX2 30 "WordSamples$State" "lengths" "[I", Cond.fieldLink RX2 33 "WordSamples$State" "signs" "[I", Cond.constantLong RX2 40 (1000003), Cond.methodLink RX2 36 yX2_codeAt, Cond.static yX2_codeAt, Cond.code yX2_codeAt cX2_codeAt 5 (some .int), Cond.methodLink RX2 42 yX2_enter]
def wsX3_passAtHeads_r2 : List Cond := [Cond.instanceMethod yX2_enter, Cond.selects RX2 yX2_enter yX2_enter, Cond.code yX2_enter cX2_enter 4 none, Cond.fieldLink RX2 9 "WordSamples$Words" "values" "[I", Cond.fieldLink RX2 18 "WordSamples$Words" "times" "[I", Cond.methodLink RX2 51 arraycopyName, Cond.native arraycopyName, Cond.static arraycopyName, Cond.initialized "java/lang/System", Cond.fieldLink RX2 15 "WordSamples$Words" "codes" "[I", Cond.methodLink RX2 47 yX2_valueAt, Cond.instanceMethod yX2_valueAt, Cond.selects RX2 yX2_valueAt yX2_valueAt, Cond.code yX2_valueAt cX2_valueAt 2 (some .int), Cond.constant RX2 46 (1000003), Cond.methodLink RX3 211 yX2_valueAt]
def wsX3_passAtHeads : List Cond := .code yX3_passAtHeads cX3_passAtHeads 3 none :: ((wsX3_passAtHeads_r1 ++ wsX3_passAtHeads_r2) ++ wsX30 ++ wsX10 ++ wsX20)
def wsX3_wordsOfAll_r1 : List Cond := [Cond.fieldLink RX3 10 "WordSamples" "now" "LWordSamples$State;", Cond.fieldLink RX3 74 "WordSamples$State" "rows" "I", Cond.fieldLink RX3 54 "WordSamples" "heads" "[I", Cond.constant RX3 221 (1000003), Cond.methodLink RX3 218 yX3_leastAtHeads, Cond.instanceMethod yX3_leastAtHeads, Cond.selects RX3 yX3_leastAtHeads yX3_leastAtHeads, Cond.initialized RX3, Cond.code yX3_leastAtHeads cX3_leastAtHeads 3 (some .int), Cond.methodLink RX3 208 Lib.Math.min.name, Cond.static Lib.Math.min.name, Cond.initialized "java/lang/Math", Cond.code Lib.Math.min.name Lib.Math.min.code 2 (some .int), Cond.methodLink RX3 101 yX3_wordsOf, Cond.instanceMethod yX3_wordsOf, Cond.selects RX3 yX3_wordsOf yX3_wordsOf, Cond.code yX3_wordsOf cX3_wordsOf 2 (some (.object "WordSamples$Words")), Cond.fieldLink RX3 44 "WordSamples" "gathered" "[Z", Cond.fieldLink RX3 40 "WordSamples" "words" "[LWordSamples$Words;", Cond.methodLink RX3 204 yX2_gather, Cond.instanceMethod yX2_gather, Cond.selects RX2 yX2_gather yX2_gather, Cond.initialized RX2, Cond.code yX2_gather cX2_gather 10 none]
def wsX3_wordsOfAll_r2 : List Cond := [Cond.fieldLink RX2 21 "WordSamples$Words" "size" "I", Cond.fieldLink RX2 25 "WordSamples$State" "settings" "[I", Cond.fieldLink RX2 30 "WordSamples$State" "lengths" "[I", Cond.fieldLink RX2 33 "WordSamples$State" "signs" "[I", Cond.constantLong RX2 40 (1000003), Cond.methodLink RX2 36 yX2_codeAt, Cond.static yX2_codeAt, Cond.code yX2_codeAt cX2_codeAt 5 (some .int), Cond.methodLink RX2 42 yX2_enter, Cond.instanceMethod yX2_enter, Cond.selects RX2 yX2_enter yX2_enter, Cond.code yX2_enter cX2_enter 4 none, Cond.fieldLink RX2 9 "WordSamples$Words" "values" "[I", Cond.fieldLink RX2 18 "WordSamples$Words" "times" "[I", Cond.methodLink RX2 51 arraycopyName, Cond.native arraycopyName, Cond.static arraycopyName, Cond.initialized "java/lang/System", Cond.fieldLink RX2 15 "WordSamples$Words" "codes" "[I", Cond.methodLink RX2 47 yX2_valueAt, Cond.instanceMethod yX2_valueAt, Cond.selects RX2 yX2_valueAt yX2_valueAt, Cond.code yX2_valueAt cX2_valueAt 2 (some .int), Cond.constant RX2 46 (1000003)]
def wsX3_wordsOfAll_r3 : List Cond := [Cond.methodLink RX3 211 yX2_valueAt, Cond.methodLink RX3 222 yX3_passAtHeads, Cond.instanceMethod yX3_passAtHeads, Cond.selects RX3 yX3_passAtHeads yX3_passAtHeads, Cond.code yX3_passAtHeads cX3_passAtHeads 3 none]
def wsX3_wordsOfAll : List Cond := .code yX3_wordsOfAll cX3_wordsOfAll 4 (some .int) :: ((wsX3_wordsOfAll_r1 ++ (wsX3_wordsOfAll_r2 ++ wsX3_wordsOfAll_r3)) ++ wsX30 ++ wsX10 ++ wsX20)
def wsX3_count_r1 : List Cond := [Cond.fieldLink RX3 10 "WordSamples" "now" "LWordSamples$State;", Cond.fieldLink RX3 74 "WordSamples$State" "rows" "I", Cond.fieldLink RX3 67 "WordSamples$State" "settings" "[I", Cond.fieldLink RX3 35 "WordSamples" "padLength" "I", Cond.fieldLink RX3 20 "WordSamples" "undoable" "I", Cond.methodLink RX3 124 yX3_wordsOfAll, Cond.instanceMethod yX3_wordsOfAll, Cond.selects RX3 yX3_wordsOfAll yX3_wordsOfAll, Cond.initialized RX3, Cond.code yX3_wordsOfAll cX3_wordsOfAll 4 (some .int), Cond.fieldLink RX3 54 "WordSamples" "heads" "[I", Cond.constant RX3 221 (1000003), Cond.methodLink RX3 218 yX3_leastAtHeads, Cond.instanceMethod yX3_leastAtHeads, Cond.selects RX3 yX3_leastAtHeads yX3_leastAtHeads, Cond.code yX3_leastAtHeads cX3_leastAtHeads 3 (some .int), Cond.methodLink RX3 208 Lib.Math.min.name, Cond.static Lib.Math.min.name, Cond.initialized "java/lang/Math", Cond.code Lib.Math.min.name Lib.Math.min.code 2 (some .int), Cond.methodLink RX3 101 yX3_wordsOf, Cond.instanceMethod yX3_wordsOf, Cond.selects RX3 yX3_wordsOf yX3_wordsOf, Cond.code yX3_wordsOf cX3_wordsOf 2 (some (.object "WordSamples$Words"))]
def wsX3_count_r2 : List Cond := [Cond.fieldLink RX3 44 "WordSamples" "gathered" "[Z", Cond.fieldLink RX3 40 "WordSamples" "words" "[LWordSamples$Words;", Cond.methodLink RX3 204 yX2_gather, Cond.instanceMethod yX2_gather, Cond.selects RX2 yX2_gather yX2_gather, Cond.initialized RX2, Cond.code yX2_gather cX2_gather 10 none, Cond.fieldLink RX2 21 "WordSamples$Words" "size" "I", Cond.fieldLink RX2 25 "WordSamples$State" "settings" "[I", Cond.fieldLink RX2 30 "WordSamples$State" "lengths" "[I", Cond.fieldLink RX2 33 "WordSamples$State" "signs" "[I", Cond.constantLong RX2 40 (1000003), Cond.methodLink RX2 36 yX2_codeAt, Cond.static yX2_codeAt, Cond.code yX2_codeAt cX2_codeAt 5 (some .int), Cond.methodLink RX2 42 yX2_enter, Cond.instanceMethod yX2_enter, Cond.selects RX2 yX2_enter yX2_enter, Cond.code yX2_enter cX2_enter 4 none, Cond.fieldLink RX2 9 "WordSamples$Words" "values" "[I", Cond.fieldLink RX2 18 "WordSamples$Words" "times" "[I", Cond.methodLink RX2 51 arraycopyName, Cond.native arraycopyName, Cond.static arraycopyName]
def wsX3_count_r3 : List Cond := [Cond.initialized "java/lang/System", Cond.fieldLink RX2 15 "WordSamples$Words" "codes" "[I", Cond.methodLink RX2 47 yX2_valueAt, Cond.instanceMethod yX2_valueAt, Cond.selects RX2 yX2_valueAt yX2_valueAt, Cond.code yX2_valueAt cX2_valueAt 2 (some .int), Cond.constant RX2 46 (1000003), Cond.methodLink RX3 211 yX2_valueAt, Cond.methodLink RX3 222 yX3_passAtHeads, Cond.instanceMethod yX3_passAtHeads, Cond.selects RX3 yX3_passAtHeads yX3_passAtHeads, Cond.code yX3_passAtHeads cX3_passAtHeads 3 none]
def wsX3_count : List Cond := .code yX3_count cX3_count 2 (some .int) :: ((wsX3_count_r1 ++ (wsX3_count_r2 ++ wsX3_count_r3)) ++ wsX30 ++ wsX10 ++ wsX20)
def wsX3_pairOf_r1 : List Cond := [Cond.fieldLink RX3 50 "WordSamples" "pair" "LWordSamples$Pair;", Cond.methodLink RX3 101 yX3_wordsOf, Cond.instanceMethod yX3_wordsOf, Cond.selects RX3 yX3_wordsOf yX3_wordsOf, Cond.initialized RX3, Cond.code yX3_wordsOf cX3_wordsOf 2 (some (.object "WordSamples$Words")), Cond.fieldLink RX3 44 "WordSamples" "gathered" "[Z", Cond.fieldLink RX3 40 "WordSamples" "words" "[LWordSamples$Words;", Cond.fieldLink RX3 10 "WordSamples" "now" "LWordSamples$State;", Cond.methodLink RX3 204 yX2_gather, Cond.instanceMethod yX2_gather, Cond.selects RX2 yX2_gather yX2_gather, Cond.initialized RX2, Cond.code yX2_gather cX2_gather 10 none, Cond.fieldLink RX2 21 "WordSamples$Words" "size" "I", Cond.fieldLink RX2 25 "WordSamples$State" "settings" "[I", Cond.fieldLink RX2 30 "WordSamples$State" "lengths" "[I", Cond.fieldLink RX2 33 "WordSamples$State" "signs" "[I", Cond.constantLong RX2 40 (1000003), Cond.methodLink RX2 36 yX2_codeAt, Cond.static yX2_codeAt, Cond.code yX2_codeAt cX2_codeAt 5 (some .int), Cond.methodLink RX2 42 yX2_enter, Cond.instanceMethod yX2_enter]
def wsX3_pairOf_r2 : List Cond := [Cond.selects RX2 yX2_enter yX2_enter, Cond.code yX2_enter cX2_enter 4 none, Cond.fieldLink RX2 9 "WordSamples$Words" "values" "[I", Cond.fieldLink RX2 18 "WordSamples$Words" "times" "[I", Cond.methodLink RX2 51 arraycopyName, Cond.native arraycopyName, Cond.static arraycopyName, Cond.initialized "java/lang/System", Cond.fieldLink RX2 15 "WordSamples$Words" "codes" "[I", Cond.methodLink RX2 47 yX2_valueAt, Cond.instanceMethod yX2_valueAt, Cond.selects RX2 yX2_valueAt yX2_valueAt, Cond.code yX2_valueAt cX2_valueAt 2 (some .int), Cond.constant RX2 46 (1000003), Cond.methodLink RX3 214 yX0_measure, Cond.instanceMethod yX0_measure, Cond.selects RX0 yX0_measure yX0_measure, Cond.initialized RX0, Cond.code yX0_measure cX0_measure 8 none, Cond.fieldLink RX0 34 "WordSamples$Words" "size" "I", Cond.fieldLink RX0 21 "WordSamples$Pair" "firstWords" "I", Cond.fieldLink RX0 25 "WordSamples$Pair" "secondWords" "I", Cond.fieldLink RX0 28 "WordSamples$Pair" "inEither" "I", Cond.fieldLink RX0 31 "WordSamples$Pair" "inBoth" "I"]
def wsX3_pairOf_r3 : List Cond := [Cond.constant RX0 43 (1000003), Cond.fieldLink RX0 15 "WordSamples$Pair" "firstAmong" "[I", Cond.fieldLink RX0 18 "WordSamples$Pair" "secondAmong" "[I", Cond.fieldLink RX0 9 "WordSamples$Pair" "bothAmong" "[I", Cond.methodLink RX0 39 yX2_valueAt]
def wsX3_pairOf : List Cond := .code yX3_pairOf cX3_pairOf 3 (some (.object "WordSamples$Pair")) :: ((wsX3_pairOf_r1 ++ (wsX3_pairOf_r2 ++ wsX3_pairOf_r3)) ++ wsX30 ++ wsX20 ++ wsX10 ++ wsX00)
def wsX3_told_r1 : List Cond := [Cond.fieldLink RX3 10 "WordSamples" "now" "LWordSamples$State;", Cond.fieldLink RX3 67 "WordSamples$State" "settings" "[I", Cond.methodLink RX3 84 yX3_noRow, Cond.instanceMethod yX3_noRow, Cond.selects RX3 yX3_noRow yX3_noRow, Cond.initialized RX3, Cond.code yX3_noRow cX3_noRow 2 (some .boolean), Cond.fieldLink RX3 74 "WordSamples$State" "rows" "I", Cond.methodLink RX3 127 yX3_pairOf, Cond.instanceMethod yX3_pairOf, Cond.selects RX3 yX3_pairOf yX3_pairOf, Cond.code yX3_pairOf cX3_pairOf 3 (some (.object "WordSamples$Pair")), Cond.fieldLink RX3 50 "WordSamples" "pair" "LWordSamples$Pair;", Cond.methodLink RX3 101 yX3_wordsOf, Cond.instanceMethod yX3_wordsOf, Cond.selects RX3 yX3_wordsOf yX3_wordsOf, Cond.code yX3_wordsOf cX3_wordsOf 2 (some (.object "WordSamples$Words")), Cond.fieldLink RX3 44 "WordSamples" "gathered" "[Z", Cond.fieldLink RX3 40 "WordSamples" "words" "[LWordSamples$Words;", Cond.methodLink RX3 204 yX2_gather, Cond.instanceMethod yX2_gather, Cond.selects RX2 yX2_gather yX2_gather, Cond.initialized RX2, Cond.code yX2_gather cX2_gather 10 none]
def wsX3_told_r2 : List Cond := [Cond.fieldLink RX2 21 "WordSamples$Words" "size" "I", Cond.fieldLink RX2 25 "WordSamples$State" "settings" "[I", Cond.fieldLink RX2 30 "WordSamples$State" "lengths" "[I", Cond.fieldLink RX2 33 "WordSamples$State" "signs" "[I", Cond.constantLong RX2 40 (1000003), Cond.methodLink RX2 36 yX2_codeAt, Cond.static yX2_codeAt, Cond.code yX2_codeAt cX2_codeAt 5 (some .int), Cond.methodLink RX2 42 yX2_enter, Cond.instanceMethod yX2_enter, Cond.selects RX2 yX2_enter yX2_enter, Cond.code yX2_enter cX2_enter 4 none, Cond.fieldLink RX2 9 "WordSamples$Words" "values" "[I", Cond.fieldLink RX2 18 "WordSamples$Words" "times" "[I", Cond.methodLink RX2 51 arraycopyName, Cond.native arraycopyName, Cond.static arraycopyName, Cond.initialized "java/lang/System", Cond.fieldLink RX2 15 "WordSamples$Words" "codes" "[I", Cond.methodLink RX2 47 yX2_valueAt, Cond.instanceMethod yX2_valueAt, Cond.selects RX2 yX2_valueAt yX2_valueAt, Cond.code yX2_valueAt cX2_valueAt 2 (some .int), Cond.constant RX2 46 (1000003)]
def wsX3_told_r3 : List Cond := [Cond.methodLink RX3 214 yX0_measure, Cond.instanceMethod yX0_measure, Cond.selects RX0 yX0_measure yX0_measure, Cond.initialized RX0, Cond.code yX0_measure cX0_measure 8 none, Cond.fieldLink RX0 34 "WordSamples$Words" "size" "I", Cond.fieldLink RX0 21 "WordSamples$Pair" "firstWords" "I", Cond.fieldLink RX0 25 "WordSamples$Pair" "secondWords" "I", Cond.fieldLink RX0 28 "WordSamples$Pair" "inEither" "I", Cond.fieldLink RX0 31 "WordSamples$Pair" "inBoth" "I", Cond.constant RX0 43 (1000003), Cond.fieldLink RX0 15 "WordSamples$Pair" "firstAmong" "[I", Cond.fieldLink RX0 18 "WordSamples$Pair" "secondAmong" "[I", Cond.fieldLink RX0 9 "WordSamples$Pair" "bothAmong" "[I", Cond.methodLink RX0 39 yX2_valueAt, Cond.methodLink RX3 131 yX0_commonWords, Cond.instanceMethod yX0_commonWords, Cond.selects RX0 yX0_commonWords yX0_commonWords, Cond.code yX0_commonWords cX0_commonWords 2 (some .int), Cond.methodLink RX0 44 Lib.Math.min.name, Cond.static Lib.Math.min.name, Cond.initialized "java/lang/Math", Cond.code Lib.Math.min.name Lib.Math.min.code 2 (some .int), Cond.methodLink RX0 50 Lib.Math.max.name]
def wsX3_told_r4 : List Cond := [Cond.static Lib.Math.max.name, Cond.code Lib.Math.max.name Lib.Math.max.code 2 (some .int), Cond.methodLink RX3 134 yX0_leastCommon, Cond.instanceMethod yX0_leastCommon, Cond.selects RX0 yX0_leastCommon yX0_leastCommon, Cond.code yX0_leastCommon cX0_leastCommon 2 (some .int), Cond.methodLink RX0 53 yX0_commonWords, Cond.methodLink RX3 137 yX0_toldShare, Cond.instanceMethod yX0_toldShare, Cond.selects RX0 yX0_toldShare yX0_toldShare, Cond.code yX0_toldShare cX0_toldShare 2 (some .int), Cond.methodLink RX0 56 yX0_leastCommon, Cond.static yX3_shareDown, Cond.code yX3_shareDown cX3_shareDown 2 (some .int), Cond.methodLink RX3 140 yX0_lowerBound, Cond.instanceMethod yX0_lowerBound, Cond.selects RX0 yX0_lowerBound yX0_lowerBound, Cond.code yX0_lowerBound cX0_lowerBound 3 (some .int), Cond.methodLink RX3 143 yX0_upperBound, Cond.instanceMethod yX0_upperBound, Cond.selects RX0 yX0_upperBound yX0_upperBound, Cond.code yX0_upperBound cX0_upperBound 3 (some .int), Cond.methodLink RX0 62 yX0_mostCommon, Cond.instanceMethod yX0_mostCommon]
def wsX3_told_r5 : List Cond := [Cond.selects RX0 yX0_mostCommon yX0_mostCommon, Cond.code yX0_mostCommon cX0_mostCommon 5 (some .int), Cond.static yX3_shareUp, Cond.code yX3_shareUp cX3_shareUp 2 (some .int)]
def wsX3_told : List Cond := .code yX3_told cX3_told 6 (some .int) :: ((wsX3_told_r1 ++ (wsX3_told_r2 ++ (wsX3_told_r3 ++ (wsX3_told_r4 ++ wsX3_told_r5)))) ++ wsX30 ++ wsX10 ++ wsX20 ++ wsX00)
def wsX3_exact_r1 : List Cond := [Cond.fieldLink RX3 146 "WordSamples$Pair" "inEither" "I", Cond.fieldLink RX3 149 "WordSamples$Pair" "inBoth" "I", Cond.methodLink RX3 84 yX3_noRow, Cond.instanceMethod yX3_noRow, Cond.selects RX3 yX3_noRow yX3_noRow, Cond.initialized RX3, Cond.code yX3_noRow cX3_noRow 2 (some .boolean), Cond.fieldLink RX3 10 "WordSamples" "now" "LWordSamples$State;", Cond.fieldLink RX3 74 "WordSamples$State" "rows" "I", Cond.methodLink RX3 127 yX3_pairOf, Cond.instanceMethod yX3_pairOf, Cond.selects RX3 yX3_pairOf yX3_pairOf, Cond.code yX3_pairOf cX3_pairOf 3 (some (.object "WordSamples$Pair")), Cond.fieldLink RX3 50 "WordSamples" "pair" "LWordSamples$Pair;", Cond.methodLink RX3 101 yX3_wordsOf, Cond.instanceMethod yX3_wordsOf, Cond.selects RX3 yX3_wordsOf yX3_wordsOf, Cond.code yX3_wordsOf cX3_wordsOf 2 (some (.object "WordSamples$Words")), Cond.fieldLink RX3 44 "WordSamples" "gathered" "[Z", Cond.fieldLink RX3 40 "WordSamples" "words" "[LWordSamples$Words;", Cond.methodLink RX3 204 yX2_gather, Cond.instanceMethod yX2_gather, Cond.selects RX2 yX2_gather yX2_gather, Cond.initialized RX2]
def wsX3_exact_r2 : List Cond := [Cond.code yX2_gather cX2_gather 10 none, Cond.fieldLink RX2 21 "WordSamples$Words" "size" "I", Cond.fieldLink RX2 25 "WordSamples$State" "settings" "[I", Cond.fieldLink RX2 30 "WordSamples$State" "lengths" "[I", Cond.fieldLink RX2 33 "WordSamples$State" "signs" "[I", Cond.constantLong RX2 40 (1000003), Cond.methodLink RX2 36 yX2_codeAt, Cond.static yX2_codeAt, Cond.code yX2_codeAt cX2_codeAt 5 (some .int), Cond.methodLink RX2 42 yX2_enter, Cond.instanceMethod yX2_enter, Cond.selects RX2 yX2_enter yX2_enter, Cond.code yX2_enter cX2_enter 4 none, Cond.fieldLink RX2 9 "WordSamples$Words" "values" "[I", Cond.fieldLink RX2 18 "WordSamples$Words" "times" "[I", Cond.methodLink RX2 51 arraycopyName, Cond.native arraycopyName, Cond.static arraycopyName, Cond.initialized "java/lang/System", Cond.fieldLink RX2 15 "WordSamples$Words" "codes" "[I", Cond.methodLink RX2 47 yX2_valueAt, Cond.instanceMethod yX2_valueAt, Cond.selects RX2 yX2_valueAt yX2_valueAt, Cond.code yX2_valueAt cX2_valueAt 2 (some .int)]
def wsX3_exact_r3 : List Cond := [Cond.constant RX2 46 (1000003), Cond.methodLink RX3 214 yX0_measure, Cond.instanceMethod yX0_measure, Cond.selects RX0 yX0_measure yX0_measure, Cond.initialized RX0, Cond.code yX0_measure cX0_measure 8 none, Cond.fieldLink RX0 34 "WordSamples$Words" "size" "I", Cond.fieldLink RX0 21 "WordSamples$Pair" "firstWords" "I", Cond.fieldLink RX0 25 "WordSamples$Pair" "secondWords" "I", Cond.fieldLink RX0 28 "WordSamples$Pair" "inEither" "I", Cond.fieldLink RX0 31 "WordSamples$Pair" "inBoth" "I", Cond.constant RX0 43 (1000003), Cond.fieldLink RX0 15 "WordSamples$Pair" "firstAmong" "[I", Cond.fieldLink RX0 18 "WordSamples$Pair" "secondAmong" "[I", Cond.fieldLink RX0 9 "WordSamples$Pair" "bothAmong" "[I", Cond.methodLink RX0 39 yX2_valueAt, Cond.methodLink RX3 152 yX0_trueShare, Cond.instanceMethod yX0_trueShare, Cond.selects RX0 yX0_trueShare yX0_trueShare, Cond.code yX0_trueShare cX0_trueShare 1 (some .int), Cond.static yX3_shareDown, Cond.code yX3_shareDown cX3_shareDown 2 (some .int)]
def wsX3_exact : List Cond := .code yX3_exact cX3_exact 5 (some .int) :: ((wsX3_exact_r1 ++ (wsX3_exact_r2 ++ wsX3_exact_r3)) ++ wsX00 ++ wsX30 ++ wsX10 ++ wsX20)
def wsX3_inside_r1 : List Cond := [Cond.fieldLink RX3 10 "WordSamples" "now" "LWordSamples$State;", Cond.fieldLink RX3 67 "WordSamples$State" "settings" "[I", Cond.fieldLink RX3 149 "WordSamples$Pair" "inBoth" "I", Cond.fieldLink RX3 155 "WordSamples$Pair" "firstWords" "I", Cond.methodLink RX3 84 yX3_noRow, Cond.instanceMethod yX3_noRow, Cond.selects RX3 yX3_noRow yX3_noRow, Cond.initialized RX3, Cond.code yX3_noRow cX3_noRow 2 (some .boolean), Cond.fieldLink RX3 74 "WordSamples$State" "rows" "I", Cond.methodLink RX3 127 yX3_pairOf, Cond.instanceMethod yX3_pairOf, Cond.selects RX3 yX3_pairOf yX3_pairOf, Cond.code yX3_pairOf cX3_pairOf 3 (some (.object "WordSamples$Pair")), Cond.fieldLink RX3 50 "WordSamples" "pair" "LWordSamples$Pair;", Cond.methodLink RX3 101 yX3_wordsOf, Cond.instanceMethod yX3_wordsOf, Cond.selects RX3 yX3_wordsOf yX3_wordsOf, Cond.code yX3_wordsOf cX3_wordsOf 2 (some (.object "WordSamples$Words")), Cond.fieldLink RX3 44 "WordSamples" "gathered" "[Z", Cond.fieldLink RX3 40 "WordSamples" "words" "[LWordSamples$Words;", Cond.methodLink RX3 204 yX2_gather, Cond.instanceMethod yX2_gather, Cond.selects RX2 yX2_gather yX2_gather]
def wsX3_inside_r2 : List Cond := [Cond.initialized RX2, Cond.code yX2_gather cX2_gather 10 none, Cond.fieldLink RX2 21 "WordSamples$Words" "size" "I", Cond.fieldLink RX2 25 "WordSamples$State" "settings" "[I", Cond.fieldLink RX2 30 "WordSamples$State" "lengths" "[I", Cond.fieldLink RX2 33 "WordSamples$State" "signs" "[I", Cond.constantLong RX2 40 (1000003), Cond.methodLink RX2 36 yX2_codeAt, Cond.static yX2_codeAt, Cond.code yX2_codeAt cX2_codeAt 5 (some .int), Cond.methodLink RX2 42 yX2_enter, Cond.instanceMethod yX2_enter, Cond.selects RX2 yX2_enter yX2_enter, Cond.code yX2_enter cX2_enter 4 none, Cond.fieldLink RX2 9 "WordSamples$Words" "values" "[I", Cond.fieldLink RX2 18 "WordSamples$Words" "times" "[I", Cond.methodLink RX2 51 arraycopyName, Cond.native arraycopyName, Cond.static arraycopyName, Cond.initialized "java/lang/System", Cond.fieldLink RX2 15 "WordSamples$Words" "codes" "[I", Cond.methodLink RX2 47 yX2_valueAt, Cond.instanceMethod yX2_valueAt, Cond.selects RX2 yX2_valueAt yX2_valueAt]
def wsX3_inside_r3 : List Cond := [Cond.code yX2_valueAt cX2_valueAt 2 (some .int), Cond.constant RX2 46 (1000003), Cond.methodLink RX3 214 yX0_measure, Cond.instanceMethod yX0_measure, Cond.selects RX0 yX0_measure yX0_measure, Cond.initialized RX0, Cond.code yX0_measure cX0_measure 8 none, Cond.fieldLink RX0 34 "WordSamples$Words" "size" "I", Cond.fieldLink RX0 21 "WordSamples$Pair" "firstWords" "I", Cond.fieldLink RX0 25 "WordSamples$Pair" "secondWords" "I", Cond.fieldLink RX0 28 "WordSamples$Pair" "inEither" "I", Cond.fieldLink RX0 31 "WordSamples$Pair" "inBoth" "I", Cond.constant RX0 43 (1000003), Cond.fieldLink RX0 15 "WordSamples$Pair" "firstAmong" "[I", Cond.fieldLink RX0 18 "WordSamples$Pair" "secondAmong" "[I", Cond.fieldLink RX0 9 "WordSamples$Pair" "bothAmong" "[I", Cond.methodLink RX0 39 yX2_valueAt, Cond.methodLink RX3 158 yX3_shareDown, Cond.static yX3_shareDown, Cond.code yX3_shareDown cX3_shareDown 2 (some .int), Cond.methodLink RX3 134 yX0_leastCommon, Cond.instanceMethod yX0_leastCommon, Cond.selects RX0 yX0_leastCommon yX0_leastCommon, Cond.code yX0_leastCommon cX0_leastCommon 2 (some .int)]
def wsX3_inside_r4 : List Cond := [Cond.methodLink RX0 53 yX0_commonWords, Cond.instanceMethod yX0_commonWords, Cond.selects RX0 yX0_commonWords yX0_commonWords, Cond.code yX0_commonWords cX0_commonWords 2 (some .int), Cond.methodLink RX0 44 Lib.Math.min.name, Cond.static Lib.Math.min.name, Cond.initialized "java/lang/Math", Cond.code Lib.Math.min.name Lib.Math.min.code 2 (some .int), Cond.methodLink RX0 50 Lib.Math.max.name, Cond.static Lib.Math.max.name, Cond.code Lib.Math.max.name Lib.Math.max.code 2 (some .int), Cond.methodLink RX3 162 yX0_mostCommon, Cond.instanceMethod yX0_mostCommon, Cond.selects RX0 yX0_mostCommon yX0_mostCommon, Cond.code yX0_mostCommon cX0_mostCommon 5 (some .int), Cond.methodLink RX3 165 yX3_shareUp, Cond.static yX3_shareUp, Cond.code yX3_shareUp cX3_shareUp 2 (some .int)]
def wsX3_inside : List Cond := .code yX3_inside cX3_inside 6 (some .int) :: ((wsX3_inside_r1 ++ (wsX3_inside_r2 ++ (wsX3_inside_r3 ++ wsX3_inside_r4))) ++ wsX30 ++ wsX10 ++ wsX00 ++ wsX20)
def wsX3_nearest_r1 : List Cond := [Cond.fieldLink RX3 10 "WordSamples" "now" "LWordSamples$State;", Cond.fieldLink RX3 74 "WordSamples$State" "rows" "I", Cond.fieldLink RX3 67 "WordSamples$State" "settings" "[I", Cond.methodLink RX3 84 yX3_noRow, Cond.instanceMethod yX3_noRow, Cond.selects RX3 yX3_noRow yX3_noRow, Cond.initialized RX3, Cond.code yX3_noRow cX3_noRow 2 (some .boolean), Cond.methodLink RX3 127 yX3_pairOf, Cond.instanceMethod yX3_pairOf, Cond.selects RX3 yX3_pairOf yX3_pairOf, Cond.code yX3_pairOf cX3_pairOf 3 (some (.object "WordSamples$Pair")), Cond.fieldLink RX3 50 "WordSamples" "pair" "LWordSamples$Pair;", Cond.methodLink RX3 101 yX3_wordsOf, Cond.instanceMethod yX3_wordsOf, Cond.selects RX3 yX3_wordsOf yX3_wordsOf, Cond.code yX3_wordsOf cX3_wordsOf 2 (some (.object "WordSamples$Words")), Cond.fieldLink RX3 44 "WordSamples" "gathered" "[Z", Cond.fieldLink RX3 40 "WordSamples" "words" "[LWordSamples$Words;", Cond.methodLink RX3 204 yX2_gather, Cond.instanceMethod yX2_gather, Cond.selects RX2 yX2_gather yX2_gather, Cond.initialized RX2, Cond.code yX2_gather cX2_gather 10 none]
def wsX3_nearest_r2 : List Cond := [Cond.fieldLink RX2 21 "WordSamples$Words" "size" "I", Cond.fieldLink RX2 25 "WordSamples$State" "settings" "[I", Cond.fieldLink RX2 30 "WordSamples$State" "lengths" "[I", Cond.fieldLink RX2 33 "WordSamples$State" "signs" "[I", Cond.constantLong RX2 40 (1000003), Cond.methodLink RX2 36 yX2_codeAt, Cond.static yX2_codeAt, Cond.code yX2_codeAt cX2_codeAt 5 (some .int), Cond.methodLink RX2 42 yX2_enter, Cond.instanceMethod yX2_enter, Cond.selects RX2 yX2_enter yX2_enter, Cond.code yX2_enter cX2_enter 4 none, Cond.fieldLink RX2 9 "WordSamples$Words" "values" "[I", Cond.fieldLink RX2 18 "WordSamples$Words" "times" "[I", Cond.methodLink RX2 51 arraycopyName, Cond.native arraycopyName, Cond.static arraycopyName, Cond.initialized "java/lang/System", Cond.fieldLink RX2 15 "WordSamples$Words" "codes" "[I", Cond.methodLink RX2 47 yX2_valueAt, Cond.instanceMethod yX2_valueAt, Cond.selects RX2 yX2_valueAt yX2_valueAt, Cond.code yX2_valueAt cX2_valueAt 2 (some .int), Cond.constant RX2 46 (1000003)]
def wsX3_nearest_r3 : List Cond := [Cond.methodLink RX3 214 yX0_measure, Cond.instanceMethod yX0_measure, Cond.selects RX0 yX0_measure yX0_measure, Cond.initialized RX0, Cond.code yX0_measure cX0_measure 8 none, Cond.fieldLink RX0 34 "WordSamples$Words" "size" "I", Cond.fieldLink RX0 21 "WordSamples$Pair" "firstWords" "I", Cond.fieldLink RX0 25 "WordSamples$Pair" "secondWords" "I", Cond.fieldLink RX0 28 "WordSamples$Pair" "inEither" "I", Cond.fieldLink RX0 31 "WordSamples$Pair" "inBoth" "I", Cond.constant RX0 43 (1000003), Cond.fieldLink RX0 15 "WordSamples$Pair" "firstAmong" "[I", Cond.fieldLink RX0 18 "WordSamples$Pair" "secondAmong" "[I", Cond.fieldLink RX0 9 "WordSamples$Pair" "bothAmong" "[I", Cond.methodLink RX0 39 yX2_valueAt, Cond.methodLink RX3 137 yX0_toldShare, Cond.instanceMethod yX0_toldShare, Cond.selects RX0 yX0_toldShare yX0_toldShare, Cond.code yX0_toldShare cX0_toldShare 2 (some .int), Cond.methodLink RX0 56 yX0_leastCommon, Cond.instanceMethod yX0_leastCommon, Cond.selects RX0 yX0_leastCommon yX0_leastCommon, Cond.code yX0_leastCommon cX0_leastCommon 2 (some .int), Cond.methodLink RX0 53 yX0_commonWords]
def wsX3_nearest_r4 : List Cond := [Cond.instanceMethod yX0_commonWords, Cond.selects RX0 yX0_commonWords yX0_commonWords, Cond.code yX0_commonWords cX0_commonWords 2 (some .int), Cond.methodLink RX0 44 Lib.Math.min.name, Cond.static Lib.Math.min.name, Cond.initialized "java/lang/Math", Cond.code Lib.Math.min.name Lib.Math.min.code 2 (some .int), Cond.methodLink RX0 50 Lib.Math.max.name, Cond.static Lib.Math.max.name, Cond.code Lib.Math.max.name Lib.Math.max.code 2 (some .int), Cond.static yX3_shareDown, Cond.code yX3_shareDown cX3_shareDown 2 (some .int), Cond.methodLink RX3 152 yX0_trueShare, Cond.instanceMethod yX0_trueShare, Cond.selects RX0 yX0_trueShare yX0_trueShare, Cond.code yX0_trueShare cX0_trueShare 1 (some .int)]
def wsX3_nearest : List Cond := .code yX3_nearest cX3_nearest 8 (some .int) :: ((wsX3_nearest_r1 ++ (wsX3_nearest_r2 ++ (wsX3_nearest_r3 ++ wsX3_nearest_r4))) ++ wsX30 ++ wsX10 ++ wsX20 ++ wsX00)
def wsX3_candidates_r1 : List Cond := [Cond.fieldLink RX3 10 "WordSamples" "now" "LWordSamples$State;", Cond.fieldLink RX3 67 "WordSamples$State" "settings" "[I", Cond.fieldLink RX3 74 "WordSamples$State" "rows" "I", Cond.methodLink RX3 168 Lib.Math.max.name, Cond.static Lib.Math.max.name, Cond.initialized "java/lang/Math", Cond.code Lib.Math.max.name Lib.Math.max.code 2 (some .int), Cond.methodLink RX3 84 yX3_noRow, Cond.instanceMethod yX3_noRow, Cond.selects RX3 yX3_noRow yX3_noRow, Cond.initialized RX3, Cond.code yX3_noRow cX3_noRow 2 (some .boolean), Cond.methodLink RX3 127 yX3_pairOf, Cond.instanceMethod yX3_pairOf, Cond.selects RX3 yX3_pairOf yX3_pairOf, Cond.code yX3_pairOf cX3_pairOf 3 (some (.object "WordSamples$Pair")), Cond.fieldLink RX3 50 "WordSamples" "pair" "LWordSamples$Pair;", Cond.methodLink RX3 101 yX3_wordsOf, Cond.instanceMethod yX3_wordsOf, Cond.selects RX3 yX3_wordsOf yX3_wordsOf, Cond.code yX3_wordsOf cX3_wordsOf 2 (some (.object "WordSamples$Words")), Cond.fieldLink RX3 44 "WordSamples" "gathered" "[Z", Cond.fieldLink RX3 40 "WordSamples" "words" "[LWordSamples$Words;", Cond.methodLink RX3 204 yX2_gather]
def wsX3_candidates_r2 : List Cond := [Cond.instanceMethod yX2_gather, Cond.selects RX2 yX2_gather yX2_gather, Cond.initialized RX2, Cond.code yX2_gather cX2_gather 10 none, Cond.fieldLink RX2 21 "WordSamples$Words" "size" "I", Cond.fieldLink RX2 25 "WordSamples$State" "settings" "[I", Cond.fieldLink RX2 30 "WordSamples$State" "lengths" "[I", Cond.fieldLink RX2 33 "WordSamples$State" "signs" "[I", Cond.constantLong RX2 40 (1000003), Cond.methodLink RX2 36 yX2_codeAt, Cond.static yX2_codeAt, Cond.code yX2_codeAt cX2_codeAt 5 (some .int), Cond.methodLink RX2 42 yX2_enter, Cond.instanceMethod yX2_enter, Cond.selects RX2 yX2_enter yX2_enter, Cond.code yX2_enter cX2_enter 4 none, Cond.fieldLink RX2 9 "WordSamples$Words" "values" "[I", Cond.fieldLink RX2 18 "WordSamples$Words" "times" "[I", Cond.methodLink RX2 51 arraycopyName, Cond.native arraycopyName, Cond.static arraycopyName, Cond.initialized "java/lang/System", Cond.fieldLink RX2 15 "WordSamples$Words" "codes" "[I", Cond.methodLink RX2 47 yX2_valueAt]
def wsX3_candidates_r3 : List Cond := [Cond.instanceMethod yX2_valueAt, Cond.selects RX2 yX2_valueAt yX2_valueAt, Cond.code yX2_valueAt cX2_valueAt 2 (some .int), Cond.constant RX2 46 (1000003), Cond.methodLink RX3 214 yX0_measure, Cond.instanceMethod yX0_measure, Cond.selects RX0 yX0_measure yX0_measure, Cond.initialized RX0, Cond.code yX0_measure cX0_measure 8 none, Cond.fieldLink RX0 34 "WordSamples$Words" "size" "I", Cond.fieldLink RX0 21 "WordSamples$Pair" "firstWords" "I", Cond.fieldLink RX0 25 "WordSamples$Pair" "secondWords" "I", Cond.fieldLink RX0 28 "WordSamples$Pair" "inEither" "I", Cond.fieldLink RX0 31 "WordSamples$Pair" "inBoth" "I", Cond.constant RX0 43 (1000003), Cond.fieldLink RX0 15 "WordSamples$Pair" "firstAmong" "[I", Cond.fieldLink RX0 18 "WordSamples$Pair" "secondAmong" "[I", Cond.fieldLink RX0 9 "WordSamples$Pair" "bothAmong" "[I", Cond.methodLink RX0 39 yX2_valueAt, Cond.methodLink RX3 140 yX0_lowerBound, Cond.instanceMethod yX0_lowerBound, Cond.selects RX0 yX0_lowerBound yX0_lowerBound, Cond.code yX0_lowerBound cX0_lowerBound 3 (some .int), Cond.methodLink RX0 56 yX0_leastCommon]
def wsX3_candidates_r4 : List Cond := [Cond.instanceMethod yX0_leastCommon, Cond.selects RX0 yX0_leastCommon yX0_leastCommon, Cond.code yX0_leastCommon cX0_leastCommon 2 (some .int), Cond.methodLink RX0 53 yX0_commonWords, Cond.instanceMethod yX0_commonWords, Cond.selects RX0 yX0_commonWords yX0_commonWords, Cond.code yX0_commonWords cX0_commonWords 2 (some .int), Cond.methodLink RX0 44 Lib.Math.min.name, Cond.static Lib.Math.min.name, Cond.code Lib.Math.min.name Lib.Math.min.code 2 (some .int), Cond.methodLink RX0 50 Lib.Math.max.name, Cond.static yX3_shareDown, Cond.code yX3_shareDown cX3_shareDown 2 (some .int), Cond.methodLink RX3 143 yX0_upperBound, Cond.instanceMethod yX0_upperBound, Cond.selects RX0 yX0_upperBound yX0_upperBound, Cond.code yX0_upperBound cX0_upperBound 3 (some .int), Cond.methodLink RX0 62 yX0_mostCommon, Cond.instanceMethod yX0_mostCommon, Cond.selects RX0 yX0_mostCommon yX0_mostCommon, Cond.code yX0_mostCommon cX0_mostCommon 5 (some .int), Cond.static yX3_shareUp, Cond.code yX3_shareUp cX3_shareUp 2 (some .int)]
def wsX3_candidates : List Cond := .code yX3_candidates cX3_candidates 6 (some .int) :: ((wsX3_candidates_r1 ++ (wsX3_candidates_r2 ++ (wsX3_candidates_r3 ++ wsX3_candidates_r4))) ++ wsX30 ++ wsX10 ++ wsX20 ++ wsX00)
def wsX3_worst_r1 : List Cond := [Cond.fieldLink RX3 10 "WordSamples" "now" "LWordSamples$State;", Cond.fieldLink RX3 74 "WordSamples$State" "rows" "I", Cond.fieldLink RX3 67 "WordSamples$State" "settings" "[I", Cond.methodLink RX3 127 yX3_pairOf, Cond.instanceMethod yX3_pairOf, Cond.selects RX3 yX3_pairOf yX3_pairOf, Cond.initialized RX3, Cond.code yX3_pairOf cX3_pairOf 3 (some (.object "WordSamples$Pair")), Cond.fieldLink RX3 50 "WordSamples" "pair" "LWordSamples$Pair;", Cond.methodLink RX3 101 yX3_wordsOf, Cond.instanceMethod yX3_wordsOf, Cond.selects RX3 yX3_wordsOf yX3_wordsOf, Cond.code yX3_wordsOf cX3_wordsOf 2 (some (.object "WordSamples$Words")), Cond.fieldLink RX3 44 "WordSamples" "gathered" "[Z", Cond.fieldLink RX3 40 "WordSamples" "words" "[LWordSamples$Words;", Cond.methodLink RX3 204 yX2_gather, Cond.instanceMethod yX2_gather, Cond.selects RX2 yX2_gather yX2_gather, Cond.initialized RX2, Cond.code yX2_gather cX2_gather 10 none, Cond.fieldLink RX2 21 "WordSamples$Words" "size" "I", Cond.fieldLink RX2 25 "WordSamples$State" "settings" "[I", Cond.fieldLink RX2 30 "WordSamples$State" "lengths" "[I", Cond.fieldLink RX2 33 "WordSamples$State" "signs" "[I"]
def wsX3_worst_r2 : List Cond := [Cond.constantLong RX2 40 (1000003), Cond.methodLink RX2 36 yX2_codeAt, Cond.static yX2_codeAt, Cond.code yX2_codeAt cX2_codeAt 5 (some .int), Cond.methodLink RX2 42 yX2_enter, Cond.instanceMethod yX2_enter, Cond.selects RX2 yX2_enter yX2_enter, Cond.code yX2_enter cX2_enter 4 none, Cond.fieldLink RX2 9 "WordSamples$Words" "values" "[I", Cond.fieldLink RX2 18 "WordSamples$Words" "times" "[I", Cond.methodLink RX2 51 arraycopyName, Cond.native arraycopyName, Cond.static arraycopyName, Cond.initialized "java/lang/System", Cond.fieldLink RX2 15 "WordSamples$Words" "codes" "[I", Cond.methodLink RX2 47 yX2_valueAt, Cond.instanceMethod yX2_valueAt, Cond.selects RX2 yX2_valueAt yX2_valueAt, Cond.code yX2_valueAt cX2_valueAt 2 (some .int), Cond.constant RX2 46 (1000003), Cond.methodLink RX3 214 yX0_measure, Cond.instanceMethod yX0_measure, Cond.selects RX0 yX0_measure yX0_measure, Cond.initialized RX0]
def wsX3_worst_r3 : List Cond := [Cond.code yX0_measure cX0_measure 8 none, Cond.fieldLink RX0 34 "WordSamples$Words" "size" "I", Cond.fieldLink RX0 21 "WordSamples$Pair" "firstWords" "I", Cond.fieldLink RX0 25 "WordSamples$Pair" "secondWords" "I", Cond.fieldLink RX0 28 "WordSamples$Pair" "inEither" "I", Cond.fieldLink RX0 31 "WordSamples$Pair" "inBoth" "I", Cond.constant RX0 43 (1000003), Cond.fieldLink RX0 15 "WordSamples$Pair" "firstAmong" "[I", Cond.fieldLink RX0 18 "WordSamples$Pair" "secondAmong" "[I", Cond.fieldLink RX0 9 "WordSamples$Pair" "bothAmong" "[I", Cond.methodLink RX0 39 yX2_valueAt, Cond.methodLink RX3 173 yX0_errorOfTold, Cond.instanceMethod yX0_errorOfTold, Cond.selects RX0 yX0_errorOfTold yX0_errorOfTold, Cond.code yX0_errorOfTold cX0_errorOfTold 2 (some .int), Cond.methodLink RX0 75 Lib.Math.abs.name, Cond.static Lib.Math.abs.name, Cond.initialized "java/lang/Math", Cond.code Lib.Math.abs.name Lib.Math.abs.code 1 (some .int), Cond.methodLink RX0 68 yX0_toldShare, Cond.instanceMethod yX0_toldShare, Cond.selects RX0 yX0_toldShare yX0_toldShare, Cond.code yX0_toldShare cX0_toldShare 2 (some .int), Cond.methodLink RX0 56 yX0_leastCommon]
def wsX3_worst_r4 : List Cond := [Cond.instanceMethod yX0_leastCommon, Cond.selects RX0 yX0_leastCommon yX0_leastCommon, Cond.code yX0_leastCommon cX0_leastCommon 2 (some .int), Cond.methodLink RX0 53 yX0_commonWords, Cond.instanceMethod yX0_commonWords, Cond.selects RX0 yX0_commonWords yX0_commonWords, Cond.code yX0_commonWords cX0_commonWords 2 (some .int), Cond.methodLink RX0 44 Lib.Math.min.name, Cond.static Lib.Math.min.name, Cond.code Lib.Math.min.name Lib.Math.min.code 2 (some .int), Cond.methodLink RX0 50 Lib.Math.max.name, Cond.static Lib.Math.max.name, Cond.code Lib.Math.max.name Lib.Math.max.code 2 (some .int), Cond.static yX3_shareDown, Cond.code yX3_shareDown cX3_shareDown 2 (some .int), Cond.methodLink RX0 71 yX0_trueShare, Cond.instanceMethod yX0_trueShare, Cond.selects RX0 yX0_trueShare yX0_trueShare, Cond.code yX0_trueShare cX0_trueShare 1 (some .int)]
def wsX3_worst : List Cond := .code yX3_worst cX3_worst 8 (some .int) :: ((wsX3_worst_r1 ++ (wsX3_worst_r2 ++ (wsX3_worst_r3 ++ wsX3_worst_r4))) ++ wsX30 ++ wsX10 ++ wsX20 ++ wsX00)
def wsX3_keptBeyond_r1 : List Cond := [Cond.methodLink RX3 173 yX0_errorOfTold, Cond.instanceMethod yX0_errorOfTold, Cond.selects RX0 yX0_errorOfTold yX0_errorOfTold, Cond.initialized RX0, Cond.code yX0_errorOfTold cX0_errorOfTold 2 (some .int), Cond.methodLink RX0 75 Lib.Math.abs.name, Cond.static Lib.Math.abs.name, Cond.initialized "java/lang/Math", Cond.code Lib.Math.abs.name Lib.Math.abs.code 1 (some .int), Cond.methodLink RX0 68 yX0_toldShare, Cond.instanceMethod yX0_toldShare, Cond.selects RX0 yX0_toldShare yX0_toldShare, Cond.code yX0_toldShare cX0_toldShare 2 (some .int), Cond.methodLink RX0 56 yX0_leastCommon, Cond.instanceMethod yX0_leastCommon, Cond.selects RX0 yX0_leastCommon yX0_leastCommon, Cond.code yX0_leastCommon cX0_leastCommon 2 (some .int), Cond.fieldLink RX0 9 "WordSamples$Pair" "bothAmong" "[I", Cond.methodLink RX0 53 yX0_commonWords, Cond.instanceMethod yX0_commonWords, Cond.selects RX0 yX0_commonWords yX0_commonWords, Cond.code yX0_commonWords cX0_commonWords 2 (some .int), Cond.fieldLink RX0 28 "WordSamples$Pair" "inEither" "I", Cond.methodLink RX0 44 Lib.Math.min.name]
def wsX3_keptBeyond_r2 : List Cond := [Cond.static Lib.Math.min.name, Cond.code Lib.Math.min.name Lib.Math.min.code 2 (some .int), Cond.methodLink RX0 50 Lib.Math.max.name, Cond.static Lib.Math.max.name, Cond.code Lib.Math.max.name Lib.Math.max.code 2 (some .int), Cond.static yX3_shareDown, Cond.initialized RX3, Cond.code yX3_shareDown cX3_shareDown 2 (some .int), Cond.methodLink RX0 71 yX0_trueShare, Cond.instanceMethod yX0_trueShare, Cond.selects RX0 yX0_trueShare yX0_trueShare, Cond.code yX0_trueShare cX0_trueShare 1 (some .int), Cond.fieldLink RX0 31 "WordSamples$Pair" "inBoth" "I"]
def wsX3_keptBeyond : List Cond := .code yX3_keptBeyond cX3_keptBeyond 5 (some .long) :: ((wsX3_keptBeyond_r1 ++ wsX3_keptBeyond_r2) ++ wsX00)
def wsX3_bestKept_r1 : List Cond := [Cond.fieldLink RX3 10 "WordSamples" "now" "LWordSamples$State;", Cond.fieldLink RX3 74 "WordSamples$State" "rows" "I", Cond.methodLink RX3 127 yX3_pairOf, Cond.instanceMethod yX3_pairOf, Cond.selects RX3 yX3_pairOf yX3_pairOf, Cond.initialized RX3, Cond.code yX3_pairOf cX3_pairOf 3 (some (.object "WordSamples$Pair")), Cond.fieldLink RX3 50 "WordSamples" "pair" "LWordSamples$Pair;", Cond.methodLink RX3 101 yX3_wordsOf, Cond.instanceMethod yX3_wordsOf, Cond.selects RX3 yX3_wordsOf yX3_wordsOf, Cond.code yX3_wordsOf cX3_wordsOf 2 (some (.object "WordSamples$Words")), Cond.fieldLink RX3 44 "WordSamples" "gathered" "[Z", Cond.fieldLink RX3 40 "WordSamples" "words" "[LWordSamples$Words;", Cond.methodLink RX3 204 yX2_gather, Cond.instanceMethod yX2_gather, Cond.selects RX2 yX2_gather yX2_gather, Cond.initialized RX2, Cond.code yX2_gather cX2_gather 10 none, Cond.fieldLink RX2 21 "WordSamples$Words" "size" "I", Cond.fieldLink RX2 25 "WordSamples$State" "settings" "[I", Cond.fieldLink RX2 30 "WordSamples$State" "lengths" "[I", Cond.fieldLink RX2 33 "WordSamples$State" "signs" "[I", Cond.constantLong RX2 40 (1000003)]
def wsX3_bestKept_r2 : List Cond := [Cond.methodLink RX2 36 yX2_codeAt, Cond.static yX2_codeAt, Cond.code yX2_codeAt cX2_codeAt 5 (some .int), Cond.methodLink RX2 42 yX2_enter, Cond.instanceMethod yX2_enter, Cond.selects RX2 yX2_enter yX2_enter, Cond.code yX2_enter cX2_enter 4 none, Cond.fieldLink RX2 9 "WordSamples$Words" "values" "[I", Cond.fieldLink RX2 18 "WordSamples$Words" "times" "[I", Cond.methodLink RX2 51 arraycopyName, Cond.native arraycopyName, Cond.static arraycopyName, Cond.initialized "java/lang/System", Cond.fieldLink RX2 15 "WordSamples$Words" "codes" "[I", Cond.methodLink RX2 47 yX2_valueAt, Cond.instanceMethod yX2_valueAt, Cond.selects RX2 yX2_valueAt yX2_valueAt, Cond.code yX2_valueAt cX2_valueAt 2 (some .int), Cond.constant RX2 46 (1000003), Cond.methodLink RX3 214 yX0_measure, Cond.instanceMethod yX0_measure, Cond.selects RX0 yX0_measure yX0_measure, Cond.initialized RX0, Cond.code yX0_measure cX0_measure 8 none]
def wsX3_bestKept_r3 : List Cond := [Cond.fieldLink RX0 34 "WordSamples$Words" "size" "I", Cond.fieldLink RX0 21 "WordSamples$Pair" "firstWords" "I", Cond.fieldLink RX0 25 "WordSamples$Pair" "secondWords" "I", Cond.fieldLink RX0 28 "WordSamples$Pair" "inEither" "I", Cond.fieldLink RX0 31 "WordSamples$Pair" "inBoth" "I", Cond.constant RX0 43 (1000003), Cond.fieldLink RX0 15 "WordSamples$Pair" "firstAmong" "[I", Cond.fieldLink RX0 18 "WordSamples$Pair" "secondAmong" "[I", Cond.fieldLink RX0 9 "WordSamples$Pair" "bothAmong" "[I", Cond.methodLink RX0 39 yX2_valueAt, Cond.methodLink RX3 176 yX3_keptBeyond, Cond.static yX3_keptBeyond, Cond.code yX3_keptBeyond cX3_keptBeyond 5 (some .long), Cond.methodLink RX3 173 yX0_errorOfTold, Cond.instanceMethod yX0_errorOfTold, Cond.selects RX0 yX0_errorOfTold yX0_errorOfTold, Cond.code yX0_errorOfTold cX0_errorOfTold 2 (some .int), Cond.methodLink RX0 75 Lib.Math.abs.name, Cond.static Lib.Math.abs.name, Cond.initialized "java/lang/Math", Cond.code Lib.Math.abs.name Lib.Math.abs.code 1 (some .int), Cond.methodLink RX0 68 yX0_toldShare, Cond.instanceMethod yX0_toldShare, Cond.selects RX0 yX0_toldShare yX0_toldShare]
def wsX3_bestKept_r4 : List Cond := [Cond.code yX0_toldShare cX0_toldShare 2 (some .int), Cond.methodLink RX0 56 yX0_leastCommon, Cond.instanceMethod yX0_leastCommon, Cond.selects RX0 yX0_leastCommon yX0_leastCommon, Cond.code yX0_leastCommon cX0_leastCommon 2 (some .int), Cond.methodLink RX0 53 yX0_commonWords, Cond.instanceMethod yX0_commonWords, Cond.selects RX0 yX0_commonWords yX0_commonWords, Cond.code yX0_commonWords cX0_commonWords 2 (some .int), Cond.methodLink RX0 44 Lib.Math.min.name, Cond.static Lib.Math.min.name, Cond.code Lib.Math.min.name Lib.Math.min.code 2 (some .int), Cond.methodLink RX0 50 Lib.Math.max.name, Cond.static Lib.Math.max.name, Cond.code Lib.Math.max.name Lib.Math.max.code 2 (some .int), Cond.static yX3_shareDown, Cond.code yX3_shareDown cX3_shareDown 2 (some .int), Cond.methodLink RX0 71 yX0_trueShare, Cond.instanceMethod yX0_trueShare, Cond.selects RX0 yX0_trueShare yX0_trueShare, Cond.code yX0_trueShare cX0_trueShare 1 (some .int)]
def wsX3_bestKept : List Cond := .code yX3_bestKept cX3_bestKept 6 (some .int) :: ((wsX3_bestKept_r1 ++ (wsX3_bestKept_r2 ++ (wsX3_bestKept_r3 ++ wsX3_bestKept_r4))) ++ wsX30 ++ wsX10 ++ wsX20 ++ wsX00)
def wsX3_lowestIn : List Cond := .code yX3_lowestIn cX3_lowestIn 2 (some .int) :: ([])
def wsX3_toldAtLeast_r1 : List Cond := [Cond.fieldLink RX3 10 "WordSamples" "now" "LWordSamples$State;", Cond.fieldLink RX3 74 "WordSamples$State" "rows" "I", Cond.fieldLink RX3 67 "WordSamples$State" "settings" "[I", Cond.methodLink RX3 127 yX3_pairOf, Cond.instanceMethod yX3_pairOf, Cond.selects RX3 yX3_pairOf yX3_pairOf, Cond.initialized RX3, Cond.code yX3_pairOf cX3_pairOf 3 (some (.object "WordSamples$Pair")), Cond.fieldLink RX3 50 "WordSamples" "pair" "LWordSamples$Pair;", Cond.methodLink RX3 101 yX3_wordsOf, Cond.instanceMethod yX3_wordsOf, Cond.selects RX3 yX3_wordsOf yX3_wordsOf, Cond.code yX3_wordsOf cX3_wordsOf 2 (some (.object "WordSamples$Words")), Cond.fieldLink RX3 44 "WordSamples" "gathered" "[Z", Cond.fieldLink RX3 40 "WordSamples" "words" "[LWordSamples$Words;", Cond.methodLink RX3 204 yX2_gather, Cond.instanceMethod yX2_gather, Cond.selects RX2 yX2_gather yX2_gather, Cond.initialized RX2, Cond.code yX2_gather cX2_gather 10 none, Cond.fieldLink RX2 21 "WordSamples$Words" "size" "I", Cond.fieldLink RX2 25 "WordSamples$State" "settings" "[I", Cond.fieldLink RX2 30 "WordSamples$State" "lengths" "[I", Cond.fieldLink RX2 33 "WordSamples$State" "signs" "[I"]
def wsX3_toldAtLeast_r2 : List Cond := [Cond.constantLong RX2 40 (1000003), Cond.methodLink RX2 36 yX2_codeAt, Cond.static yX2_codeAt, Cond.code yX2_codeAt cX2_codeAt 5 (some .int), Cond.methodLink RX2 42 yX2_enter, Cond.instanceMethod yX2_enter, Cond.selects RX2 yX2_enter yX2_enter, Cond.code yX2_enter cX2_enter 4 none, Cond.fieldLink RX2 9 "WordSamples$Words" "values" "[I", Cond.fieldLink RX2 18 "WordSamples$Words" "times" "[I", Cond.methodLink RX2 51 arraycopyName, Cond.native arraycopyName, Cond.static arraycopyName, Cond.initialized "java/lang/System", Cond.fieldLink RX2 15 "WordSamples$Words" "codes" "[I", Cond.methodLink RX2 47 yX2_valueAt, Cond.instanceMethod yX2_valueAt, Cond.selects RX2 yX2_valueAt yX2_valueAt, Cond.code yX2_valueAt cX2_valueAt 2 (some .int), Cond.constant RX2 46 (1000003), Cond.methodLink RX3 214 yX0_measure, Cond.instanceMethod yX0_measure, Cond.selects RX0 yX0_measure yX0_measure, Cond.initialized RX0]
def wsX3_toldAtLeast_r3 : List Cond := [Cond.code yX0_measure cX0_measure 8 none, Cond.fieldLink RX0 34 "WordSamples$Words" "size" "I", Cond.fieldLink RX0 21 "WordSamples$Pair" "firstWords" "I", Cond.fieldLink RX0 25 "WordSamples$Pair" "secondWords" "I", Cond.fieldLink RX0 28 "WordSamples$Pair" "inEither" "I", Cond.fieldLink RX0 31 "WordSamples$Pair" "inBoth" "I", Cond.constant RX0 43 (1000003), Cond.fieldLink RX0 15 "WordSamples$Pair" "firstAmong" "[I", Cond.fieldLink RX0 18 "WordSamples$Pair" "secondAmong" "[I", Cond.fieldLink RX0 9 "WordSamples$Pair" "bothAmong" "[I", Cond.methodLink RX0 39 yX2_valueAt, Cond.methodLink RX3 137 yX0_toldShare, Cond.instanceMethod yX0_toldShare, Cond.selects RX0 yX0_toldShare yX0_toldShare, Cond.code yX0_toldShare cX0_toldShare 2 (some .int), Cond.methodLink RX0 56 yX0_leastCommon, Cond.instanceMethod yX0_leastCommon, Cond.selects RX0 yX0_leastCommon yX0_leastCommon, Cond.code yX0_leastCommon cX0_leastCommon 2 (some .int), Cond.methodLink RX0 53 yX0_commonWords, Cond.instanceMethod yX0_commonWords, Cond.selects RX0 yX0_commonWords yX0_commonWords, Cond.code yX0_commonWords cX0_commonWords 2 (some .int), Cond.methodLink RX0 44 Lib.Math.min.name]
def wsX3_toldAtLeast_r4 : List Cond := [Cond.static Lib.Math.min.name, Cond.initialized "java/lang/Math", Cond.code Lib.Math.min.name Lib.Math.min.code 2 (some .int), Cond.methodLink RX0 50 Lib.Math.max.name, Cond.static Lib.Math.max.name, Cond.code Lib.Math.max.name Lib.Math.max.code 2 (some .int), Cond.static yX3_shareDown, Cond.code yX3_shareDown cX3_shareDown 2 (some .int)]
def wsX3_toldAtLeast : List Cond := .code yX3_toldAtLeast cX3_toldAtLeast 5 (some .int) :: ((wsX3_toldAtLeast_r1 ++ (wsX3_toldAtLeast_r2 ++ (wsX3_toldAtLeast_r3 ++ wsX3_toldAtLeast_r4))) ++ wsX30 ++ wsX10 ++ wsX20 ++ wsX00)
def wsX3_group_r1 : List Cond := [Cond.fieldLink RX3 10 "WordSamples" "now" "LWordSamples$State;", Cond.fieldLink RX3 74 "WordSamples$State" "rows" "I", Cond.methodLink RX3 84 yX3_noRow, Cond.instanceMethod yX3_noRow, Cond.selects RX3 yX3_noRow yX3_noRow, Cond.initialized RX3, Cond.code yX3_noRow cX3_noRow 2 (some .boolean), Cond.methodLink RX3 180 yX3_lowestIn, Cond.static yX3_lowestIn, Cond.code yX3_lowestIn cX3_lowestIn 2 (some .int), Cond.methodLink RX3 183 yX3_toldAtLeast, Cond.instanceMethod yX3_toldAtLeast, Cond.selects RX3 yX3_toldAtLeast yX3_toldAtLeast, Cond.code yX3_toldAtLeast cX3_toldAtLeast 5 (some .int), Cond.fieldLink RX3 67 "WordSamples$State" "settings" "[I", Cond.methodLink RX3 127 yX3_pairOf, Cond.instanceMethod yX3_pairOf, Cond.selects RX3 yX3_pairOf yX3_pairOf, Cond.code yX3_pairOf cX3_pairOf 3 (some (.object "WordSamples$Pair")), Cond.fieldLink RX3 50 "WordSamples" "pair" "LWordSamples$Pair;", Cond.methodLink RX3 101 yX3_wordsOf, Cond.instanceMethod yX3_wordsOf, Cond.selects RX3 yX3_wordsOf yX3_wordsOf, Cond.code yX3_wordsOf cX3_wordsOf 2 (some (.object "WordSamples$Words"))]
def wsX3_group_r2 : List Cond := [Cond.fieldLink RX3 44 "WordSamples" "gathered" "[Z", Cond.fieldLink RX3 40 "WordSamples" "words" "[LWordSamples$Words;", Cond.methodLink RX3 204 yX2_gather, Cond.instanceMethod yX2_gather, Cond.selects RX2 yX2_gather yX2_gather, Cond.initialized RX2, Cond.code yX2_gather cX2_gather 10 none, Cond.fieldLink RX2 21 "WordSamples$Words" "size" "I", Cond.fieldLink RX2 25 "WordSamples$State" "settings" "[I", Cond.fieldLink RX2 30 "WordSamples$State" "lengths" "[I", Cond.fieldLink RX2 33 "WordSamples$State" "signs" "[I", Cond.constantLong RX2 40 (1000003), Cond.methodLink RX2 36 yX2_codeAt, Cond.static yX2_codeAt, Cond.code yX2_codeAt cX2_codeAt 5 (some .int), Cond.methodLink RX2 42 yX2_enter, Cond.instanceMethod yX2_enter, Cond.selects RX2 yX2_enter yX2_enter, Cond.code yX2_enter cX2_enter 4 none, Cond.fieldLink RX2 9 "WordSamples$Words" "values" "[I", Cond.fieldLink RX2 18 "WordSamples$Words" "times" "[I", Cond.methodLink RX2 51 arraycopyName, Cond.native arraycopyName, Cond.static arraycopyName]
def wsX3_group_r3 : List Cond := [Cond.initialized "java/lang/System", Cond.fieldLink RX2 15 "WordSamples$Words" "codes" "[I", Cond.methodLink RX2 47 yX2_valueAt, Cond.instanceMethod yX2_valueAt, Cond.selects RX2 yX2_valueAt yX2_valueAt, Cond.code yX2_valueAt cX2_valueAt 2 (some .int), Cond.constant RX2 46 (1000003), Cond.methodLink RX3 214 yX0_measure, Cond.instanceMethod yX0_measure, Cond.selects RX0 yX0_measure yX0_measure, Cond.initialized RX0, Cond.code yX0_measure cX0_measure 8 none, Cond.fieldLink RX0 34 "WordSamples$Words" "size" "I", Cond.fieldLink RX0 21 "WordSamples$Pair" "firstWords" "I", Cond.fieldLink RX0 25 "WordSamples$Pair" "secondWords" "I", Cond.fieldLink RX0 28 "WordSamples$Pair" "inEither" "I", Cond.fieldLink RX0 31 "WordSamples$Pair" "inBoth" "I", Cond.constant RX0 43 (1000003), Cond.fieldLink RX0 15 "WordSamples$Pair" "firstAmong" "[I", Cond.fieldLink RX0 18 "WordSamples$Pair" "secondAmong" "[I", Cond.fieldLink RX0 9 "WordSamples$Pair" "bothAmong" "[I", Cond.methodLink RX0 39 yX2_valueAt, Cond.methodLink RX3 137 yX0_toldShare, Cond.instanceMethod yX0_toldShare]
def wsX3_group_r4 : List Cond := [Cond.selects RX0 yX0_toldShare yX0_toldShare, Cond.code yX0_toldShare cX0_toldShare 2 (some .int), Cond.methodLink RX0 56 yX0_leastCommon, Cond.instanceMethod yX0_leastCommon, Cond.selects RX0 yX0_leastCommon yX0_leastCommon, Cond.code yX0_leastCommon cX0_leastCommon 2 (some .int), Cond.methodLink RX0 53 yX0_commonWords, Cond.instanceMethod yX0_commonWords, Cond.selects RX0 yX0_commonWords yX0_commonWords, Cond.code yX0_commonWords cX0_commonWords 2 (some .int), Cond.methodLink RX0 44 Lib.Math.min.name, Cond.static Lib.Math.min.name, Cond.initialized "java/lang/Math", Cond.code Lib.Math.min.name Lib.Math.min.code 2 (some .int), Cond.methodLink RX0 50 Lib.Math.max.name, Cond.static Lib.Math.max.name, Cond.code Lib.Math.max.name Lib.Math.max.code 2 (some .int), Cond.static yX3_shareDown, Cond.code yX3_shareDown cX3_shareDown 2 (some .int)]
def wsX3_group : List Cond := .code yX3_group cX3_group 7 (some .int) :: ((wsX3_group_r1 ++ (wsX3_group_r2 ++ (wsX3_group_r3 ++ wsX3_group_r4))) ++ wsX30 ++ wsX10 ++ wsX20 ++ wsX00)
def wsX3_codeIn : List Cond := .code yX3_codeIn cX3_codeIn 3 (some .int) :: ([.constantLong RX3 225 (255)])
def wsX3_charactersIn : List Cond := .code yX3_charactersIn cX3_charactersIn 5 (some .int) :: ([.methodLink RX3 190 yX3_codeIn, .static yX3_codeIn, .initialized RX3, .code yX3_codeIn cX3_codeIn 3 (some .int), .constantLong RX3 225 (255)])
def wsX3_put : List Cond := .code yX3_put cX3_put 5 (some .int) :: ([.fieldLink RX3 35 "WordSamples" "padLength" "I", .fieldLink RX3 31 "WordSamples" "pad" "[I", .methodLink RX3 186 yX3_charactersIn, .static yX3_charactersIn, .initialized RX3, .code yX3_charactersIn cX3_charactersIn 5 (some .int), .methodLink RX3 190 yX3_codeIn, .static yX3_codeIn, .code yX3_codeIn cX3_codeIn 3 (some .int), .constantLong RX3 225 (255)] ++ wsX30)
def wsX3_wipe : List Cond := .code yX3_wipe cX3_wipe 2 (some .int) :: ([.fieldLink RX3 35 "WordSamples" "padLength" "I"] ++ wsX30)
def wsX3_fault : List Cond := .code yX3_fault cX3_fault 1 (some .int) :: ([.methodLink RX3 70 yX3_padFault, .instanceMethod yX3_padFault, .selects RX3 yX3_padFault yX3_padFault, .initialized RX3, .code yX3_padFault cX3_padFault 2 (some .int), .fieldLink RX3 35 "WordSamples" "padLength" "I", .fieldLink RX3 31 "WordSamples" "pad" "[I", .methodLink RX3 227 yX3_signOf, .static yX3_signOf, .code yX3_signOf cX3_signOf 1 (some .int)] ++ wsX30)
def wsX3_undo : List Cond := .code yX3_undo cX3_undo 1 (some .int) :: ([.fieldLink RX3 20 "WordSamples" "undoable" "I", .fieldLink RX3 10 "WordSamples" "now" "LWordSamples$State;", .fieldLink RX3 16 "WordSamples" "history" "[LWordSamples$State;", .methodLink RX3 194 yX1_copyFrom, .instanceMethod yX1_copyFrom, .selects RX1 yX1_copyFrom yX1_copyFrom, .initialized RX1, .code yX1_copyFrom cX1_copyFrom 2 none, .fieldLink RX1 9 "WordSamples$State" "settings" "[I", .methodLink RX1 28 arraycopyName, .native arraycopyName, .static arraycopyName, .initialized "java/lang/System", .fieldLink RX1 15 "WordSamples$State" "lengths" "[I", .fieldLink RX1 18 "WordSamples$State" "signs" "[I", .fieldLink RX1 21 "WordSamples$State" "rows" "I", .methodLink RX3 198 yX3_forgetWords, .instanceMethod yX3_forgetWords, .selects RX3 yX3_forgetWords yX3_forgetWords, .initialized RX3, .code yX3_forgetWords cX3_forgetWords 2 none, .fieldLink RX3 44 "WordSamples" "gathered" "[Z"] ++ wsX30 ++ wsX10)
def wsX3_save : List Cond := .code yX3_save cX3_save 2 (some .int) :: ([.fieldLink RX3 24 "WordSamples" "slots" "[LWordSamples$State;", .fieldLink RX3 10 "WordSamples" "now" "LWordSamples$State;", .fieldLink RX3 27 "WordSamples" "saved" "[Z", .fieldLink RX3 74 "WordSamples$State" "rows" "I", .methodLink RX3 194 yX1_copyFrom, .instanceMethod yX1_copyFrom, .selects RX1 yX1_copyFrom yX1_copyFrom, .initialized RX1, .code yX1_copyFrom cX1_copyFrom 2 none, .fieldLink RX1 9 "WordSamples$State" "settings" "[I", .methodLink RX1 28 arraycopyName, .native arraycopyName, .static arraycopyName, .initialized "java/lang/System", .fieldLink RX1 15 "WordSamples$State" "lengths" "[I", .fieldLink RX1 18 "WordSamples$State" "signs" "[I", .fieldLink RX1 21 "WordSamples$State" "rows" "I"] ++ wsX30 ++ wsX10)
def wsX3_restore_r1 : List Cond := [Cond.fieldLink RX3 27 "WordSamples" "saved" "[Z", Cond.fieldLink RX3 10 "WordSamples" "now" "LWordSamples$State;", Cond.fieldLink RX3 24 "WordSamples" "slots" "[LWordSamples$State;", Cond.fieldLink RX3 74 "WordSamples$State" "rows" "I", Cond.methodLink RX3 64 yX3_beginChange, Cond.instanceMethod yX3_beginChange, Cond.selects RX3 yX3_beginChange yX3_beginChange, Cond.initialized RX3, Cond.code yX3_beginChange cX3_beginChange 1 none, Cond.fieldLink RX3 20 "WordSamples" "undoable" "I", Cond.fieldLink RX3 16 "WordSamples" "history" "[LWordSamples$State;", Cond.methodLink RX3 201 yX3_dropOldestChange, Cond.instanceMethod yX3_dropOldestChange, Cond.selects RX3 yX3_dropOldestChange yX3_dropOldestChange, Cond.code yX3_dropOldestChange cX3_dropOldestChange 3 none, Cond.methodLink RX3 194 yX1_copyFrom, Cond.instanceMethod yX1_copyFrom, Cond.selects RX1 yX1_copyFrom yX1_copyFrom, Cond.initialized RX1, Cond.code yX1_copyFrom cX1_copyFrom 2 none, Cond.fieldLink RX1 9 "WordSamples$State" "settings" "[I", Cond.methodLink RX1 28 arraycopyName, Cond.native arraycopyName, Cond.static arraycopyName]
def wsX3_restore_r2 : List Cond := [Cond.initialized "java/lang/System", Cond.fieldLink RX1 15 "WordSamples$State" "lengths" "[I", Cond.fieldLink RX1 18 "WordSamples$State" "signs" "[I", Cond.fieldLink RX1 21 "WordSamples$State" "rows" "I", Cond.methodLink RX3 198 yX3_forgetWords, Cond.instanceMethod yX3_forgetWords, Cond.selects RX3 yX3_forgetWords yX3_forgetWords, Cond.code yX3_forgetWords cX3_forgetWords 2 none, Cond.fieldLink RX3 44 "WordSamples" "gathered" "[Z"]
def wsX3_restore : List Cond := .code yX3_restore cX3_restore 2 (some .int) :: ((wsX3_restore_r1 ++ wsX3_restore_r2) ++ wsX30 ++ wsX10)
def wsX4_init : List Cond := .code yX4_init cX4_init 1 none :: ([.methodLink RX4 1 objectInit, .instanceMethod objectInit, .code objectInit ⟨#[0xb1]⟩ 1 none, .arrayClass .int, .fieldLink RX4 7 "WordSamplesModel" "now" "[I", .fieldLink RX4 13 "WordSamplesModel" "before" "[I", .fieldLink RX4 16 "WordSamplesModel" "stored" "[I", .arrayClass .boolean, .fieldLink RX4 19 "WordSamplesModel" "isStored" "[Z", .fieldLink RX4 23 "WordSamplesModel" "pad" "[I", .fieldLink RX4 26 "WordSamplesModel" "codes" "[I", .fieldLink RX4 29 "WordSamplesModel" "values" "[I", .fieldLink RX4 32 "WordSamplesModel" "often" "[I", .fieldLink RX4 35 "WordSamplesModel" "words" "[I", .constant RX4 38 (104729)] ++ wsX40)
def wsX4_in : List Cond := .code yX4_in cX4_in 3 (some .boolean) :: ([])
def wsX4_isRow : List Cond := .code yX4_isRow cX4_isRow 2 (some .boolean) :: ([.fieldLink RX4 7 "WordSamplesModel" "now" "[I", .methodLink RX4 39 yX4_in, .static yX4_in, .initialized RX4, .code yX4_in cX4_in 3 (some .boolean)] ++ wsX40)
def wsX4_isPlace : List Cond := .code yX4_isPlace cX4_isPlace 3 (some .boolean) :: ([.fieldLink RX4 7 "WordSamplesModel" "now" "[I", .methodLink RX4 43 yX4_isRow, .instanceMethod yX4_isRow, .selects RX4 yX4_isRow yX4_isRow, .initialized RX4, .code yX4_isRow cX4_isRow 2 (some .boolean), .methodLink RX4 39 yX4_in, .static yX4_in, .code yX4_in cX4_in 3 (some .boolean)] ++ wsX40)
def wsX4_at : List Cond := .code yX4_at cX4_at 3 (some .int) :: ([.fieldLink RX4 7 "WordSamplesModel" "now" "[I"] ++ wsX40)
def wsX4_know : List Cond := .code yX4_know cX4_know 2 none :: ([.fieldLink RX4 47 "WordSamplesModel" "known" "I", .fieldLink RX4 13 "WordSamplesModel" "before" "[I", .fieldLink RX4 7 "WordSamplesModel" "now" "[I"] ++ wsX40)
def wsX4_least : List Cond := .code yX4_least cX4_least 1 (some .int) :: ([])
def wsX4_most : List Cond := .code yX4_most cX4_most 1 (some .int) :: ([.constant RX4 51 (1000002)])
def wsX4_set : List Cond := .code yX4_set cX4_set 4 (some .int) :: ([.fieldLink RX4 7 "WordSamplesModel" "now" "[I", .methodLink RX4 39 yX4_in, .static yX4_in, .initialized RX4, .code yX4_in cX4_in 3 (some .boolean), .methodLink RX4 52 yX4_least, .static yX4_least, .code yX4_least cX4_least 1 (some .int), .methodLink RX4 56 yX4_most, .static yX4_most, .code yX4_most cX4_most 1 (some .int), .constant RX4 51 (1000002), .methodLink RX4 59 yX4_know, .instanceMethod yX4_know, .selects RX4 yX4_know yX4_know, .code yX4_know cX4_know 2 none, .fieldLink RX4 47 "WordSamplesModel" "known" "I", .fieldLink RX4 13 "WordSamplesModel" "before" "[I"] ++ wsX40)
def wsX4_signOf : List Cond := .code yX4_signOf cX4_signOf 1 (some .int) :: ([.methodLink RX4 39 yX4_in, .static yX4_in, .initialized RX4, .code yX4_in cX4_in 3 (some .boolean)])
def wsX4_fault : List Cond := .code yX4_fault cX4_fault 2 (some .int) :: ([.fieldLink RX4 62 "WordSamplesModel" "padded" "I", .fieldLink RX4 23 "WordSamplesModel" "pad" "[I", .methodLink RX4 65 yX4_signOf, .static yX4_signOf, .initialized RX4, .code yX4_signOf cX4_signOf 1 (some .int), .methodLink RX4 39 yX4_in, .static yX4_in, .code yX4_in cX4_in 3 (some .boolean)] ++ wsX40)
def wsX4_pour : List Cond := .code yX4_pour cX4_pour 3 none :: ([.fieldLink RX4 62 "WordSamplesModel" "padded" "I", .fieldLink RX4 7 "WordSamplesModel" "now" "[I", .fieldLink RX4 23 "WordSamplesModel" "pad" "[I", .methodLink RX4 65 yX4_signOf, .static yX4_signOf, .initialized RX4, .code yX4_signOf cX4_signOf 1 (some .int), .methodLink RX4 39 yX4_in, .static yX4_in, .code yX4_in cX4_in 3 (some .boolean)] ++ wsX40)
def wsX4_add : List Cond := .code yX4_add cX4_add 1 (some .int) :: ([.fieldLink RX4 7 "WordSamplesModel" "now" "[I", .methodLink RX4 68 yX4_fault, .instanceMethod yX4_fault, .selects RX4 yX4_fault yX4_fault, .initialized RX4, .code yX4_fault cX4_fault 2 (some .int), .fieldLink RX4 62 "WordSamplesModel" "padded" "I", .fieldLink RX4 23 "WordSamplesModel" "pad" "[I", .methodLink RX4 65 yX4_signOf, .static yX4_signOf, .code yX4_signOf cX4_signOf 1 (some .int), .methodLink RX4 39 yX4_in, .static yX4_in, .code yX4_in cX4_in 3 (some .boolean), .methodLink RX4 59 yX4_know, .instanceMethod yX4_know, .selects RX4 yX4_know yX4_know, .code yX4_know cX4_know 2 none, .fieldLink RX4 47 "WordSamplesModel" "known" "I", .fieldLink RX4 13 "WordSamplesModel" "before" "[I", .methodLink RX4 72 yX4_pour, .instanceMethod yX4_pour, .selects RX4 yX4_pour yX4_pour, .code yX4_pour cX4_pour 3 none] ++ wsX40)
def wsX4_append_r1 : List Cond := [Cond.fieldLink RX4 7 "WordSamplesModel" "now" "[I", Cond.fieldLink RX4 62 "WordSamplesModel" "padded" "I", Cond.methodLink RX4 43 yX4_isRow, Cond.instanceMethod yX4_isRow, Cond.selects RX4 yX4_isRow yX4_isRow, Cond.initialized RX4, Cond.code yX4_isRow cX4_isRow 2 (some .boolean), Cond.methodLink RX4 39 yX4_in, Cond.static yX4_in, Cond.code yX4_in cX4_in 3 (some .boolean), Cond.methodLink RX4 68 yX4_fault, Cond.instanceMethod yX4_fault, Cond.selects RX4 yX4_fault yX4_fault, Cond.code yX4_fault cX4_fault 2 (some .int), Cond.fieldLink RX4 23 "WordSamplesModel" "pad" "[I", Cond.methodLink RX4 65 yX4_signOf, Cond.static yX4_signOf, Cond.code yX4_signOf cX4_signOf 1 (some .int), Cond.methodLink RX4 59 yX4_know, Cond.instanceMethod yX4_know, Cond.selects RX4 yX4_know yX4_know, Cond.code yX4_know cX4_know 2 none, Cond.fieldLink RX4 47 "WordSamplesModel" "known" "I", Cond.fieldLink RX4 13 "WordSamplesModel" "before" "[I"]
def wsX4_append_r2 : List Cond := [Cond.methodLink RX4 72 yX4_pour, Cond.instanceMethod yX4_pour, Cond.selects RX4 yX4_pour yX4_pour, Cond.code yX4_pour cX4_pour 3 none]
def wsX4_append : List Cond := .code yX4_append cX4_append 2 (some .int) :: ((wsX4_append_r1 ++ wsX4_append_r2) ++ wsX40)
def wsX4_change : List Cond := .code yX4_change cX4_change 5 (some .int) :: ([.fieldLink RX4 7 "WordSamplesModel" "now" "[I", .methodLink RX4 76 yX4_isPlace, .instanceMethod yX4_isPlace, .selects RX4 yX4_isPlace yX4_isPlace, .initialized RX4, .code yX4_isPlace cX4_isPlace 3 (some .boolean), .methodLink RX4 43 yX4_isRow, .instanceMethod yX4_isRow, .selects RX4 yX4_isRow yX4_isRow, .code yX4_isRow cX4_isRow 2 (some .boolean), .methodLink RX4 39 yX4_in, .static yX4_in, .code yX4_in cX4_in 3 (some .boolean), .methodLink RX4 59 yX4_know, .instanceMethod yX4_know, .selects RX4 yX4_know yX4_know, .code yX4_know cX4_know 2 none, .fieldLink RX4 47 "WordSamplesModel" "known" "I", .fieldLink RX4 13 "WordSamplesModel" "before" "[I", .methodLink RX4 80 yX4_at, .instanceMethod yX4_at, .selects RX4 yX4_at yX4_at, .code yX4_at cX4_at 3 (some .int)] ++ wsX40)
def wsX4_remove : List Cond := .code yX4_remove cX4_remove 4 (some .int) :: ([.fieldLink RX4 7 "WordSamplesModel" "now" "[I", .methodLink RX4 43 yX4_isRow, .instanceMethod yX4_isRow, .selects RX4 yX4_isRow yX4_isRow, .initialized RX4, .code yX4_isRow cX4_isRow 2 (some .boolean), .methodLink RX4 39 yX4_in, .static yX4_in, .code yX4_in cX4_in 3 (some .boolean), .methodLink RX4 59 yX4_know, .instanceMethod yX4_know, .selects RX4 yX4_know yX4_know, .code yX4_know cX4_know 2 none, .fieldLink RX4 47 "WordSamplesModel" "known" "I", .fieldLink RX4 13 "WordSamplesModel" "before" "[I"] ++ wsX40)
def wsX4_codeAt : List Cond := .code yX4_codeAt cX4_codeAt 5 (some .int) :: ([.fieldLink RX4 7 "WordSamplesModel" "now" "[I", .methodLink RX4 80 yX4_at, .instanceMethod yX4_at, .selects RX4 yX4_at yX4_at, .initialized RX4, .code yX4_at cX4_at 3 (some .int)] ++ wsX40)
def wsX4_valueOf : List Cond := .code yX4_valueOf cX4_valueOf 2 (some .int) :: ([.fieldLink RX4 7 "WordSamplesModel" "now" "[I", .constantLong RX4 84 (1000003)] ++ wsX40)
def wsX4_note : List Cond := .code yX4_note cX4_note 7 none :: ([.fieldLink RX4 35 "WordSamplesModel" "words" "[I", .fieldLink RX4 29 "WordSamplesModel" "values" "[I", .fieldLink RX4 32 "WordSamplesModel" "often" "[I", .fieldLink RX4 26 "WordSamplesModel" "codes" "[I", .methodLink RX4 86 yX4_valueOf, .instanceMethod yX4_valueOf, .selects RX4 yX4_valueOf yX4_valueOf, .initialized RX4, .code yX4_valueOf cX4_valueOf 2 (some .int), .fieldLink RX4 7 "WordSamplesModel" "now" "[I", .constantLong RX4 84 (1000003)] ++ wsX40)
def wsX4_find : List Cond := .code yX4_find cX4_find 4 none :: ([.fieldLink RX4 35 "WordSamplesModel" "words" "[I", .fieldLink RX4 7 "WordSamplesModel" "now" "[I", .methodLink RX4 89 yX4_codeAt, .instanceMethod yX4_codeAt, .selects RX4 yX4_codeAt yX4_codeAt, .initialized RX4, .code yX4_codeAt cX4_codeAt 5 (some .int), .methodLink RX4 80 yX4_at, .instanceMethod yX4_at, .selects RX4 yX4_at yX4_at, .code yX4_at cX4_at 3 (some .int), .methodLink RX4 92 yX4_note, .instanceMethod yX4_note, .selects RX4 yX4_note yX4_note, .code yX4_note cX4_note 7 none, .fieldLink RX4 29 "WordSamplesModel" "values" "[I", .fieldLink RX4 32 "WordSamplesModel" "often" "[I", .fieldLink RX4 26 "WordSamplesModel" "codes" "[I", .methodLink RX4 86 yX4_valueOf, .instanceMethod yX4_valueOf, .selects RX4 yX4_valueOf yX4_valueOf, .code yX4_valueOf cX4_valueOf 2 (some .int), .constantLong RX4 84 (1000003)] ++ wsX40)
def wsX4_compare_r1 : List Cond := [Cond.fieldLink RX4 99 "WordSamplesModel" "common" "I", Cond.fieldLink RX4 102 "WordSamplesModel" "shared" "I", Cond.fieldLink RX4 35 "WordSamplesModel" "words" "[I", Cond.fieldLink RX4 29 "WordSamplesModel" "values" "[I", Cond.fieldLink RX4 105 "WordSamplesModel" "rest" "I", Cond.fieldLink RX4 108 "WordSamplesModel" "both" "I", Cond.methodLink RX4 96 yX4_find, Cond.instanceMethod yX4_find, Cond.selects RX4 yX4_find yX4_find, Cond.initialized RX4, Cond.code yX4_find cX4_find 4 none, Cond.fieldLink RX4 7 "WordSamplesModel" "now" "[I", Cond.methodLink RX4 89 yX4_codeAt, Cond.instanceMethod yX4_codeAt, Cond.selects RX4 yX4_codeAt yX4_codeAt, Cond.code yX4_codeAt cX4_codeAt 5 (some .int), Cond.methodLink RX4 80 yX4_at, Cond.instanceMethod yX4_at, Cond.selects RX4 yX4_at yX4_at, Cond.code yX4_at cX4_at 3 (some .int), Cond.methodLink RX4 92 yX4_note, Cond.instanceMethod yX4_note, Cond.selects RX4 yX4_note yX4_note, Cond.code yX4_note cX4_note 7 none]
def wsX4_compare_r2 : List Cond := [Cond.fieldLink RX4 32 "WordSamplesModel" "often" "[I", Cond.fieldLink RX4 26 "WordSamplesModel" "codes" "[I", Cond.methodLink RX4 86 yX4_valueOf, Cond.instanceMethod yX4_valueOf, Cond.selects RX4 yX4_valueOf yX4_valueOf, Cond.code yX4_valueOf cX4_valueOf 2 (some .int), Cond.constantLong RX4 84 (1000003)]
def wsX4_compare : List Cond := .code yX4_compare cX4_compare 8 none :: ((wsX4_compare_r1 ++ wsX4_compare_r2) ++ wsX40)
def wsX4_share : List Cond := .code yX4_share cX4_share 2 (some .int) :: ([])
def wsX4_shareUp : List Cond := .code yX4_shareUp cX4_shareUp 2 (some .int) :: ([])
def wsX4_either : List Cond := .code yX4_either cX4_either 1 (some .int) :: ([.fieldLink RX4 35 "WordSamplesModel" "words" "[I", .fieldLink RX4 108 "WordSamplesModel" "both" "I"] ++ wsX40)
def wsX4_lower : List Cond := .code yX4_lower cX4_lower 1 (some .int) :: ([.fieldLink RX4 102 "WordSamplesModel" "shared" "I", .fieldLink RX4 35 "WordSamplesModel" "words" "[I", .methodLink RX4 111 yX4_share, .static yX4_share, .initialized RX4, .code yX4_share cX4_share 2 (some .int)] ++ wsX40)
def wsX4_upper : List Cond := .code yX4_upper cX4_upper 1 (some .int) :: ([.fieldLink RX4 102 "WordSamplesModel" "shared" "I", .fieldLink RX4 105 "WordSamplesModel" "rest" "I", .fieldLink RX4 35 "WordSamplesModel" "words" "[I", .methodLink RX4 114 yX4_shareUp, .static yX4_shareUp, .initialized RX4, .code yX4_shareUp cX4_shareUp 2 (some .int)] ++ wsX40)
def wsX4_sampled : List Cond := .code yX4_sampled cX4_sampled 2 (some .int) :: ([.fieldLink RX4 35 "WordSamplesModel" "words" "[I", .fieldLink RX4 7 "WordSamplesModel" "now" "[I"] ++ wsX40)
def wsX4_ofRow_r1 : List Cond := [Cond.fieldLink RX4 7 "WordSamplesModel" "now" "[I", Cond.fieldLink RX4 35 "WordSamplesModel" "words" "[I", Cond.fieldLink RX4 29 "WordSamplesModel" "values" "[I", Cond.methodLink RX4 43 yX4_isRow, Cond.instanceMethod yX4_isRow, Cond.selects RX4 yX4_isRow yX4_isRow, Cond.initialized RX4, Cond.code yX4_isRow cX4_isRow 2 (some .boolean), Cond.methodLink RX4 39 yX4_in, Cond.static yX4_in, Cond.code yX4_in cX4_in 3 (some .boolean), Cond.methodLink RX4 96 yX4_find, Cond.instanceMethod yX4_find, Cond.selects RX4 yX4_find yX4_find, Cond.code yX4_find cX4_find 4 none, Cond.methodLink RX4 89 yX4_codeAt, Cond.instanceMethod yX4_codeAt, Cond.selects RX4 yX4_codeAt yX4_codeAt, Cond.code yX4_codeAt cX4_codeAt 5 (some .int), Cond.methodLink RX4 80 yX4_at, Cond.instanceMethod yX4_at, Cond.selects RX4 yX4_at yX4_at, Cond.code yX4_at cX4_at 3 (some .int), Cond.methodLink RX4 92 yX4_note]
def wsX4_ofRow_r2 : List Cond := [Cond.instanceMethod yX4_note, Cond.selects RX4 yX4_note yX4_note, Cond.code yX4_note cX4_note 7 none, Cond.fieldLink RX4 32 "WordSamplesModel" "often" "[I", Cond.fieldLink RX4 26 "WordSamplesModel" "codes" "[I", Cond.methodLink RX4 86 yX4_valueOf, Cond.instanceMethod yX4_valueOf, Cond.selects RX4 yX4_valueOf yX4_valueOf, Cond.code yX4_valueOf cX4_valueOf 2 (some .int), Cond.constantLong RX4 84 (1000003), Cond.methodLink RX4 117 yX4_sampled, Cond.instanceMethod yX4_sampled, Cond.selects RX4 yX4_sampled yX4_sampled, Cond.code yX4_sampled cX4_sampled 2 (some .int)]
def wsX4_ofRow : List Cond := .code yX4_ofRow cX4_ofRow 3 (some .int) :: ((wsX4_ofRow_r1 ++ wsX4_ofRow_r2) ++ wsX40)
def wsX4_sign : List Cond := .code yX4_sign cX4_sign 3 (some .int) :: ([.methodLink RX4 76 yX4_isPlace, .instanceMethod yX4_isPlace, .selects RX4 yX4_isPlace yX4_isPlace, .initialized RX4, .code yX4_isPlace cX4_isPlace 3 (some .boolean), .fieldLink RX4 7 "WordSamplesModel" "now" "[I", .methodLink RX4 43 yX4_isRow, .instanceMethod yX4_isRow, .selects RX4 yX4_isRow yX4_isRow, .code yX4_isRow cX4_isRow 2 (some .boolean), .methodLink RX4 39 yX4_in, .static yX4_in, .code yX4_in cX4_in 3 (some .boolean), .methodLink RX4 80 yX4_at, .instanceMethod yX4_at, .selects RX4 yX4_at yX4_at, .code yX4_at cX4_at 3 (some .int)] ++ wsX40)
def wsX4_sample_r1 : List Cond := [Cond.fieldLink RX4 29 "WordSamplesModel" "values" "[I", Cond.fieldLink RX4 26 "WordSamplesModel" "codes" "[I", Cond.fieldLink RX4 32 "WordSamplesModel" "often" "[I", Cond.methodLink RX4 43 yX4_isRow, Cond.instanceMethod yX4_isRow, Cond.selects RX4 yX4_isRow yX4_isRow, Cond.initialized RX4, Cond.code yX4_isRow cX4_isRow 2 (some .boolean), Cond.fieldLink RX4 7 "WordSamplesModel" "now" "[I", Cond.methodLink RX4 39 yX4_in, Cond.static yX4_in, Cond.code yX4_in cX4_in 3 (some .boolean), Cond.methodLink RX4 96 yX4_find, Cond.instanceMethod yX4_find, Cond.selects RX4 yX4_find yX4_find, Cond.code yX4_find cX4_find 4 none, Cond.fieldLink RX4 35 "WordSamplesModel" "words" "[I", Cond.methodLink RX4 89 yX4_codeAt, Cond.instanceMethod yX4_codeAt, Cond.selects RX4 yX4_codeAt yX4_codeAt, Cond.code yX4_codeAt cX4_codeAt 5 (some .int), Cond.methodLink RX4 80 yX4_at, Cond.instanceMethod yX4_at, Cond.selects RX4 yX4_at yX4_at]
def wsX4_sample_r2 : List Cond := [Cond.code yX4_at cX4_at 3 (some .int), Cond.methodLink RX4 92 yX4_note, Cond.instanceMethod yX4_note, Cond.selects RX4 yX4_note yX4_note, Cond.code yX4_note cX4_note 7 none, Cond.methodLink RX4 86 yX4_valueOf, Cond.instanceMethod yX4_valueOf, Cond.selects RX4 yX4_valueOf yX4_valueOf, Cond.code yX4_valueOf cX4_valueOf 2 (some .int), Cond.constantLong RX4 84 (1000003), Cond.methodLink RX4 117 yX4_sampled, Cond.instanceMethod yX4_sampled, Cond.selects RX4 yX4_sampled yX4_sampled, Cond.code yX4_sampled cX4_sampled 2 (some .int)]
def wsX4_sample : List Cond := .code yX4_sample cX4_sample 4 (some .int) :: ((wsX4_sample_r1 ++ wsX4_sample_r2) ++ wsX40)
def wsX4_isAhead : List Cond := .code yX4_isAhead cX4_isAhead 6 (some .boolean) :: ([.fieldLink RX4 7 "WordSamplesModel" "now" "[I", .methodLink RX4 89 yX4_codeAt, .instanceMethod yX4_codeAt, .selects RX4 yX4_codeAt yX4_codeAt, .initialized RX4, .code yX4_codeAt cX4_codeAt 5 (some .int), .methodLink RX4 80 yX4_at, .instanceMethod yX4_at, .selects RX4 yX4_at yX4_at, .code yX4_at cX4_at 3 (some .int)] ++ wsX40)
def wsX4_different_r1 : List Cond := [Cond.fieldLink RX4 7 "WordSamplesModel" "now" "[I", Cond.fieldLink RX4 35 "WordSamplesModel" "words" "[I", Cond.fieldLink RX4 26 "WordSamplesModel" "codes" "[I", Cond.methodLink RX4 96 yX4_find, Cond.instanceMethod yX4_find, Cond.selects RX4 yX4_find yX4_find, Cond.initialized RX4, Cond.code yX4_find cX4_find 4 none, Cond.methodLink RX4 89 yX4_codeAt, Cond.instanceMethod yX4_codeAt, Cond.selects RX4 yX4_codeAt yX4_codeAt, Cond.code yX4_codeAt cX4_codeAt 5 (some .int), Cond.methodLink RX4 80 yX4_at, Cond.instanceMethod yX4_at, Cond.selects RX4 yX4_at yX4_at, Cond.code yX4_at cX4_at 3 (some .int), Cond.methodLink RX4 92 yX4_note, Cond.instanceMethod yX4_note, Cond.selects RX4 yX4_note yX4_note, Cond.code yX4_note cX4_note 7 none, Cond.fieldLink RX4 29 "WordSamplesModel" "values" "[I", Cond.fieldLink RX4 32 "WordSamplesModel" "often" "[I", Cond.methodLink RX4 86 yX4_valueOf, Cond.instanceMethod yX4_valueOf]
def wsX4_different_r2 : List Cond := [Cond.selects RX4 yX4_valueOf yX4_valueOf, Cond.code yX4_valueOf cX4_valueOf 2 (some .int), Cond.constantLong RX4 84 (1000003), Cond.methodLink RX4 120 yX4_isAhead, Cond.instanceMethod yX4_isAhead, Cond.selects RX4 yX4_isAhead yX4_isAhead, Cond.code yX4_isAhead cX4_isAhead 6 (some .boolean)]
def wsX4_different : List Cond := .code yX4_different cX4_different 4 (some .int) :: ((wsX4_different_r1 ++ wsX4_different_r2) ++ wsX40)
def wsX4_count_r1 : List Cond := [Cond.fieldLink RX4 7 "WordSamplesModel" "now" "[I", Cond.fieldLink RX4 62 "WordSamplesModel" "padded" "I", Cond.fieldLink RX4 47 "WordSamplesModel" "known" "I", Cond.methodLink RX4 123 yX4_different, Cond.instanceMethod yX4_different, Cond.selects RX4 yX4_different yX4_different, Cond.initialized RX4, Cond.code yX4_different cX4_different 4 (some .int), Cond.fieldLink RX4 35 "WordSamplesModel" "words" "[I", Cond.fieldLink RX4 26 "WordSamplesModel" "codes" "[I", Cond.methodLink RX4 96 yX4_find, Cond.instanceMethod yX4_find, Cond.selects RX4 yX4_find yX4_find, Cond.code yX4_find cX4_find 4 none, Cond.methodLink RX4 89 yX4_codeAt, Cond.instanceMethod yX4_codeAt, Cond.selects RX4 yX4_codeAt yX4_codeAt, Cond.code yX4_codeAt cX4_codeAt 5 (some .int), Cond.methodLink RX4 80 yX4_at, Cond.instanceMethod yX4_at, Cond.selects RX4 yX4_at yX4_at, Cond.code yX4_at cX4_at 3 (some .int), Cond.methodLink RX4 92 yX4_note, Cond.instanceMethod yX4_note]
def wsX4_count_r2 : List Cond := [Cond.selects RX4 yX4_note yX4_note, Cond.code yX4_note cX4_note 7 none, Cond.fieldLink RX4 29 "WordSamplesModel" "values" "[I", Cond.fieldLink RX4 32 "WordSamplesModel" "often" "[I", Cond.methodLink RX4 86 yX4_valueOf, Cond.instanceMethod yX4_valueOf, Cond.selects RX4 yX4_valueOf yX4_valueOf, Cond.code yX4_valueOf cX4_valueOf 2 (some .int), Cond.constantLong RX4 84 (1000003), Cond.methodLink RX4 120 yX4_isAhead, Cond.instanceMethod yX4_isAhead, Cond.selects RX4 yX4_isAhead yX4_isAhead, Cond.code yX4_isAhead cX4_isAhead 6 (some .boolean)]
def wsX4_count : List Cond := .code yX4_count cX4_count 2 (some .int) :: ((wsX4_count_r1 ++ wsX4_count_r2) ++ wsX40)
def wsX4_told_r1 : List Cond := [Cond.fieldLink RX4 7 "WordSamplesModel" "now" "[I", Cond.fieldLink RX4 99 "WordSamplesModel" "common" "I", Cond.fieldLink RX4 102 "WordSamplesModel" "shared" "I", Cond.methodLink RX4 43 yX4_isRow, Cond.instanceMethod yX4_isRow, Cond.selects RX4 yX4_isRow yX4_isRow, Cond.initialized RX4, Cond.code yX4_isRow cX4_isRow 2 (some .boolean), Cond.methodLink RX4 39 yX4_in, Cond.static yX4_in, Cond.code yX4_in cX4_in 3 (some .boolean), Cond.methodLink RX4 126 yX4_compare, Cond.instanceMethod yX4_compare, Cond.selects RX4 yX4_compare yX4_compare, Cond.code yX4_compare cX4_compare 8 none, Cond.fieldLink RX4 35 "WordSamplesModel" "words" "[I", Cond.fieldLink RX4 29 "WordSamplesModel" "values" "[I", Cond.fieldLink RX4 105 "WordSamplesModel" "rest" "I", Cond.fieldLink RX4 108 "WordSamplesModel" "both" "I", Cond.methodLink RX4 96 yX4_find, Cond.instanceMethod yX4_find, Cond.selects RX4 yX4_find yX4_find, Cond.code yX4_find cX4_find 4 none, Cond.methodLink RX4 89 yX4_codeAt]
def wsX4_told_r2 : List Cond := [Cond.instanceMethod yX4_codeAt, Cond.selects RX4 yX4_codeAt yX4_codeAt, Cond.code yX4_codeAt cX4_codeAt 5 (some .int), Cond.methodLink RX4 80 yX4_at, Cond.instanceMethod yX4_at, Cond.selects RX4 yX4_at yX4_at, Cond.code yX4_at cX4_at 3 (some .int), Cond.methodLink RX4 92 yX4_note, Cond.instanceMethod yX4_note, Cond.selects RX4 yX4_note yX4_note, Cond.code yX4_note cX4_note 7 none, Cond.fieldLink RX4 32 "WordSamplesModel" "often" "[I", Cond.fieldLink RX4 26 "WordSamplesModel" "codes" "[I", Cond.methodLink RX4 86 yX4_valueOf, Cond.instanceMethod yX4_valueOf, Cond.selects RX4 yX4_valueOf yX4_valueOf, Cond.code yX4_valueOf cX4_valueOf 2 (some .int), Cond.constantLong RX4 84 (1000003), Cond.methodLink RX4 111 yX4_share, Cond.static yX4_share, Cond.code yX4_share cX4_share 2 (some .int), Cond.methodLink RX4 130 yX4_lower, Cond.instanceMethod yX4_lower, Cond.selects RX4 yX4_lower yX4_lower]
def wsX4_told_r3 : List Cond := [Cond.code yX4_lower cX4_lower 1 (some .int), Cond.methodLink RX4 133 yX4_upper, Cond.instanceMethod yX4_upper, Cond.selects RX4 yX4_upper yX4_upper, Cond.code yX4_upper cX4_upper 1 (some .int), Cond.methodLink RX4 114 yX4_shareUp, Cond.static yX4_shareUp, Cond.code yX4_shareUp cX4_shareUp 2 (some .int)]
def wsX4_told : List Cond := .code yX4_told cX4_told 4 (some .int) :: ((wsX4_told_r1 ++ (wsX4_told_r2 ++ wsX4_told_r3)) ++ wsX40)
def wsX4_exact_r1 : List Cond := [Cond.fieldLink RX4 7 "WordSamplesModel" "now" "[I", Cond.fieldLink RX4 108 "WordSamplesModel" "both" "I", Cond.methodLink RX4 43 yX4_isRow, Cond.instanceMethod yX4_isRow, Cond.selects RX4 yX4_isRow yX4_isRow, Cond.initialized RX4, Cond.code yX4_isRow cX4_isRow 2 (some .boolean), Cond.methodLink RX4 39 yX4_in, Cond.static yX4_in, Cond.code yX4_in cX4_in 3 (some .boolean), Cond.methodLink RX4 126 yX4_compare, Cond.instanceMethod yX4_compare, Cond.selects RX4 yX4_compare yX4_compare, Cond.code yX4_compare cX4_compare 8 none, Cond.fieldLink RX4 99 "WordSamplesModel" "common" "I", Cond.fieldLink RX4 102 "WordSamplesModel" "shared" "I", Cond.fieldLink RX4 35 "WordSamplesModel" "words" "[I", Cond.fieldLink RX4 29 "WordSamplesModel" "values" "[I", Cond.fieldLink RX4 105 "WordSamplesModel" "rest" "I", Cond.methodLink RX4 96 yX4_find, Cond.instanceMethod yX4_find, Cond.selects RX4 yX4_find yX4_find, Cond.code yX4_find cX4_find 4 none, Cond.methodLink RX4 89 yX4_codeAt]
def wsX4_exact_r2 : List Cond := [Cond.instanceMethod yX4_codeAt, Cond.selects RX4 yX4_codeAt yX4_codeAt, Cond.code yX4_codeAt cX4_codeAt 5 (some .int), Cond.methodLink RX4 80 yX4_at, Cond.instanceMethod yX4_at, Cond.selects RX4 yX4_at yX4_at, Cond.code yX4_at cX4_at 3 (some .int), Cond.methodLink RX4 92 yX4_note, Cond.instanceMethod yX4_note, Cond.selects RX4 yX4_note yX4_note, Cond.code yX4_note cX4_note 7 none, Cond.fieldLink RX4 32 "WordSamplesModel" "often" "[I", Cond.fieldLink RX4 26 "WordSamplesModel" "codes" "[I", Cond.methodLink RX4 86 yX4_valueOf, Cond.instanceMethod yX4_valueOf, Cond.selects RX4 yX4_valueOf yX4_valueOf, Cond.code yX4_valueOf cX4_valueOf 2 (some .int), Cond.constantLong RX4 84 (1000003), Cond.methodLink RX4 136 yX4_either, Cond.instanceMethod yX4_either, Cond.selects RX4 yX4_either yX4_either, Cond.code yX4_either cX4_either 1 (some .int), Cond.methodLink RX4 111 yX4_share, Cond.static yX4_share]
def wsX4_exact_r3 : List Cond := [Cond.code yX4_share cX4_share 2 (some .int)]
def wsX4_exact : List Cond := .code yX4_exact cX4_exact 4 (some .int) :: ((wsX4_exact_r1 ++ (wsX4_exact_r2 ++ wsX4_exact_r3)) ++ wsX40)
def wsX4_inside_r1 : List Cond := [Cond.fieldLink RX4 7 "WordSamplesModel" "now" "[I", Cond.fieldLink RX4 108 "WordSamplesModel" "both" "I", Cond.fieldLink RX4 35 "WordSamplesModel" "words" "[I", Cond.fieldLink RX4 102 "WordSamplesModel" "shared" "I", Cond.fieldLink RX4 105 "WordSamplesModel" "rest" "I", Cond.methodLink RX4 43 yX4_isRow, Cond.instanceMethod yX4_isRow, Cond.selects RX4 yX4_isRow yX4_isRow, Cond.initialized RX4, Cond.code yX4_isRow cX4_isRow 2 (some .boolean), Cond.methodLink RX4 39 yX4_in, Cond.static yX4_in, Cond.code yX4_in cX4_in 3 (some .boolean), Cond.methodLink RX4 126 yX4_compare, Cond.instanceMethod yX4_compare, Cond.selects RX4 yX4_compare yX4_compare, Cond.code yX4_compare cX4_compare 8 none, Cond.fieldLink RX4 99 "WordSamplesModel" "common" "I", Cond.fieldLink RX4 29 "WordSamplesModel" "values" "[I", Cond.methodLink RX4 96 yX4_find, Cond.instanceMethod yX4_find, Cond.selects RX4 yX4_find yX4_find, Cond.code yX4_find cX4_find 4 none, Cond.methodLink RX4 89 yX4_codeAt]
def wsX4_inside_r2 : List Cond := [Cond.instanceMethod yX4_codeAt, Cond.selects RX4 yX4_codeAt yX4_codeAt, Cond.code yX4_codeAt cX4_codeAt 5 (some .int), Cond.methodLink RX4 80 yX4_at, Cond.instanceMethod yX4_at, Cond.selects RX4 yX4_at yX4_at, Cond.code yX4_at cX4_at 3 (some .int), Cond.methodLink RX4 92 yX4_note, Cond.instanceMethod yX4_note, Cond.selects RX4 yX4_note yX4_note, Cond.code yX4_note cX4_note 7 none, Cond.fieldLink RX4 32 "WordSamplesModel" "often" "[I", Cond.fieldLink RX4 26 "WordSamplesModel" "codes" "[I", Cond.methodLink RX4 86 yX4_valueOf, Cond.instanceMethod yX4_valueOf, Cond.selects RX4 yX4_valueOf yX4_valueOf, Cond.code yX4_valueOf cX4_valueOf 2 (some .int), Cond.constantLong RX4 84 (1000003), Cond.methodLink RX4 111 yX4_share, Cond.static yX4_share, Cond.code yX4_share cX4_share 2 (some .int), Cond.methodLink RX4 114 yX4_shareUp, Cond.static yX4_shareUp, Cond.code yX4_shareUp cX4_shareUp 2 (some .int)]
def wsX4_inside : List Cond := .code yX4_inside cX4_inside 4 (some .int) :: ((wsX4_inside_r1 ++ wsX4_inside_r2) ++ wsX40)
def wsX4_nearest_r1 : List Cond := [Cond.fieldLink RX4 7 "WordSamplesModel" "now" "[I", Cond.fieldLink RX4 102 "WordSamplesModel" "shared" "I", Cond.fieldLink RX4 99 "WordSamplesModel" "common" "I", Cond.fieldLink RX4 108 "WordSamplesModel" "both" "I", Cond.methodLink RX4 43 yX4_isRow, Cond.instanceMethod yX4_isRow, Cond.selects RX4 yX4_isRow yX4_isRow, Cond.initialized RX4, Cond.code yX4_isRow cX4_isRow 2 (some .boolean), Cond.methodLink RX4 39 yX4_in, Cond.static yX4_in, Cond.code yX4_in cX4_in 3 (some .boolean), Cond.methodLink RX4 126 yX4_compare, Cond.instanceMethod yX4_compare, Cond.selects RX4 yX4_compare yX4_compare, Cond.code yX4_compare cX4_compare 8 none, Cond.fieldLink RX4 35 "WordSamplesModel" "words" "[I", Cond.fieldLink RX4 29 "WordSamplesModel" "values" "[I", Cond.fieldLink RX4 105 "WordSamplesModel" "rest" "I", Cond.methodLink RX4 96 yX4_find, Cond.instanceMethod yX4_find, Cond.selects RX4 yX4_find yX4_find, Cond.code yX4_find cX4_find 4 none, Cond.methodLink RX4 89 yX4_codeAt]
def wsX4_nearest_r2 : List Cond := [Cond.instanceMethod yX4_codeAt, Cond.selects RX4 yX4_codeAt yX4_codeAt, Cond.code yX4_codeAt cX4_codeAt 5 (some .int), Cond.methodLink RX4 80 yX4_at, Cond.instanceMethod yX4_at, Cond.selects RX4 yX4_at yX4_at, Cond.code yX4_at cX4_at 3 (some .int), Cond.methodLink RX4 92 yX4_note, Cond.instanceMethod yX4_note, Cond.selects RX4 yX4_note yX4_note, Cond.code yX4_note cX4_note 7 none, Cond.fieldLink RX4 32 "WordSamplesModel" "often" "[I", Cond.fieldLink RX4 26 "WordSamplesModel" "codes" "[I", Cond.methodLink RX4 86 yX4_valueOf, Cond.instanceMethod yX4_valueOf, Cond.selects RX4 yX4_valueOf yX4_valueOf, Cond.code yX4_valueOf cX4_valueOf 2 (some .int), Cond.constantLong RX4 84 (1000003), Cond.methodLink RX4 111 yX4_share, Cond.static yX4_share, Cond.code yX4_share cX4_share 2 (some .int), Cond.methodLink RX4 136 yX4_either, Cond.instanceMethod yX4_either, Cond.selects RX4 yX4_either yX4_either]
def wsX4_nearest_r3 : List Cond := [Cond.code yX4_either cX4_either 1 (some .int)]
def wsX4_nearest : List Cond := .code yX4_nearest cX4_nearest 7 (some .int) :: ((wsX4_nearest_r1 ++ (wsX4_nearest_r2 ++ wsX4_nearest_r3)) ++ wsX40)
def wsX4_candidates_r1 : List Cond := [Cond.fieldLink RX4 7 "WordSamplesModel" "now" "[I", Cond.methodLink RX4 43 yX4_isRow, Cond.instanceMethod yX4_isRow, Cond.selects RX4 yX4_isRow yX4_isRow, Cond.initialized RX4, Cond.code yX4_isRow cX4_isRow 2 (some .boolean), Cond.methodLink RX4 39 yX4_in, Cond.static yX4_in, Cond.code yX4_in cX4_in 3 (some .boolean), Cond.methodLink RX4 126 yX4_compare, Cond.instanceMethod yX4_compare, Cond.selects RX4 yX4_compare yX4_compare, Cond.code yX4_compare cX4_compare 8 none, Cond.fieldLink RX4 99 "WordSamplesModel" "common" "I", Cond.fieldLink RX4 102 "WordSamplesModel" "shared" "I", Cond.fieldLink RX4 35 "WordSamplesModel" "words" "[I", Cond.fieldLink RX4 29 "WordSamplesModel" "values" "[I", Cond.fieldLink RX4 105 "WordSamplesModel" "rest" "I", Cond.fieldLink RX4 108 "WordSamplesModel" "both" "I", Cond.methodLink RX4 96 yX4_find, Cond.instanceMethod yX4_find, Cond.selects RX4 yX4_find yX4_find, Cond.code yX4_find cX4_find 4 none, Cond.methodLink RX4 89 yX4_codeAt]
def wsX4_candidates_r2 : List Cond := [Cond.instanceMethod yX4_codeAt, Cond.selects RX4 yX4_codeAt yX4_codeAt, Cond.code yX4_codeAt cX4_codeAt 5 (some .int), Cond.methodLink RX4 80 yX4_at, Cond.instanceMethod yX4_at, Cond.selects RX4 yX4_at yX4_at, Cond.code yX4_at cX4_at 3 (some .int), Cond.methodLink RX4 92 yX4_note, Cond.instanceMethod yX4_note, Cond.selects RX4 yX4_note yX4_note, Cond.code yX4_note cX4_note 7 none, Cond.fieldLink RX4 32 "WordSamplesModel" "often" "[I", Cond.fieldLink RX4 26 "WordSamplesModel" "codes" "[I", Cond.methodLink RX4 86 yX4_valueOf, Cond.instanceMethod yX4_valueOf, Cond.selects RX4 yX4_valueOf yX4_valueOf, Cond.code yX4_valueOf cX4_valueOf 2 (some .int), Cond.constantLong RX4 84 (1000003), Cond.methodLink RX4 130 yX4_lower, Cond.instanceMethod yX4_lower, Cond.selects RX4 yX4_lower yX4_lower, Cond.code yX4_lower cX4_lower 1 (some .int), Cond.methodLink RX4 111 yX4_share, Cond.static yX4_share]
def wsX4_candidates_r3 : List Cond := [Cond.code yX4_share cX4_share 2 (some .int), Cond.methodLink RX4 133 yX4_upper, Cond.instanceMethod yX4_upper, Cond.selects RX4 yX4_upper yX4_upper, Cond.code yX4_upper cX4_upper 1 (some .int), Cond.methodLink RX4 114 yX4_shareUp, Cond.static yX4_shareUp, Cond.code yX4_shareUp cX4_shareUp 2 (some .int)]
def wsX4_candidates : List Cond := .code yX4_candidates cX4_candidates 5 (some .int) :: ((wsX4_candidates_r1 ++ (wsX4_candidates_r2 ++ wsX4_candidates_r3)) ++ wsX40)
def wsX4_off_r1 : List Cond := [Cond.fieldLink RX4 102 "WordSamplesModel" "shared" "I", Cond.fieldLink RX4 99 "WordSamplesModel" "common" "I", Cond.fieldLink RX4 108 "WordSamplesModel" "both" "I", Cond.methodLink RX4 126 yX4_compare, Cond.instanceMethod yX4_compare, Cond.selects RX4 yX4_compare yX4_compare, Cond.initialized RX4, Cond.code yX4_compare cX4_compare 8 none, Cond.fieldLink RX4 35 "WordSamplesModel" "words" "[I", Cond.fieldLink RX4 29 "WordSamplesModel" "values" "[I", Cond.fieldLink RX4 105 "WordSamplesModel" "rest" "I", Cond.methodLink RX4 96 yX4_find, Cond.instanceMethod yX4_find, Cond.selects RX4 yX4_find yX4_find, Cond.code yX4_find cX4_find 4 none, Cond.fieldLink RX4 7 "WordSamplesModel" "now" "[I", Cond.methodLink RX4 89 yX4_codeAt, Cond.instanceMethod yX4_codeAt, Cond.selects RX4 yX4_codeAt yX4_codeAt, Cond.code yX4_codeAt cX4_codeAt 5 (some .int), Cond.methodLink RX4 80 yX4_at, Cond.instanceMethod yX4_at, Cond.selects RX4 yX4_at yX4_at, Cond.code yX4_at cX4_at 3 (some .int)]
def wsX4_off_r2 : List Cond := [Cond.methodLink RX4 92 yX4_note, Cond.instanceMethod yX4_note, Cond.selects RX4 yX4_note yX4_note, Cond.code yX4_note cX4_note 7 none, Cond.fieldLink RX4 32 "WordSamplesModel" "often" "[I", Cond.fieldLink RX4 26 "WordSamplesModel" "codes" "[I", Cond.methodLink RX4 86 yX4_valueOf, Cond.instanceMethod yX4_valueOf, Cond.selects RX4 yX4_valueOf yX4_valueOf, Cond.code yX4_valueOf cX4_valueOf 2 (some .int), Cond.constantLong RX4 84 (1000003), Cond.methodLink RX4 111 yX4_share, Cond.static yX4_share, Cond.code yX4_share cX4_share 2 (some .int), Cond.methodLink RX4 136 yX4_either, Cond.instanceMethod yX4_either, Cond.selects RX4 yX4_either yX4_either, Cond.code yX4_either cX4_either 1 (some .int)]
def wsX4_off : List Cond := .code yX4_off cX4_off 5 (some .int) :: ((wsX4_off_r1 ++ wsX4_off_r2) ++ wsX40)
def wsX4_worst_r1 : List Cond := [Cond.fieldLink RX4 7 "WordSamplesModel" "now" "[I", Cond.methodLink RX4 39 yX4_in, Cond.static yX4_in, Cond.initialized RX4, Cond.code yX4_in cX4_in 3 (some .boolean), Cond.methodLink RX4 139 yX4_off, Cond.instanceMethod yX4_off, Cond.selects RX4 yX4_off yX4_off, Cond.code yX4_off cX4_off 5 (some .int), Cond.fieldLink RX4 102 "WordSamplesModel" "shared" "I", Cond.fieldLink RX4 99 "WordSamplesModel" "common" "I", Cond.fieldLink RX4 108 "WordSamplesModel" "both" "I", Cond.methodLink RX4 126 yX4_compare, Cond.instanceMethod yX4_compare, Cond.selects RX4 yX4_compare yX4_compare, Cond.code yX4_compare cX4_compare 8 none, Cond.fieldLink RX4 35 "WordSamplesModel" "words" "[I", Cond.fieldLink RX4 29 "WordSamplesModel" "values" "[I", Cond.fieldLink RX4 105 "WordSamplesModel" "rest" "I", Cond.methodLink RX4 96 yX4_find, Cond.instanceMethod yX4_find, Cond.selects RX4 yX4_find yX4_find, Cond.code yX4_find cX4_find 4 none, Cond.methodLink RX4 89 yX4_codeAt]
def wsX4_worst_r2 : List Cond := [Cond.instanceMethod yX4_codeAt, Cond.selects RX4 yX4_codeAt yX4_codeAt, Cond.code yX4_codeAt cX4_codeAt 5 (some .int), Cond.methodLink RX4 80 yX4_at, Cond.instanceMethod yX4_at, Cond.selects RX4 yX4_at yX4_at, Cond.code yX4_at cX4_at 3 (some .int), Cond.methodLink RX4 92 yX4_note, Cond.instanceMethod yX4_note, Cond.selects RX4 yX4_note yX4_note, Cond.code yX4_note cX4_note 7 none, Cond.fieldLink RX4 32 "WordSamplesModel" "often" "[I", Cond.fieldLink RX4 26 "WordSamplesModel" "codes" "[I", Cond.methodLink RX4 86 yX4_valueOf, Cond.instanceMethod yX4_valueOf, Cond.selects RX4 yX4_valueOf yX4_valueOf, Cond.code yX4_valueOf cX4_valueOf 2 (some .int), Cond.constantLong RX4 84 (1000003), Cond.methodLink RX4 111 yX4_share, Cond.static yX4_share, Cond.code yX4_share cX4_share 2 (some .int), Cond.methodLink RX4 136 yX4_either, Cond.instanceMethod yX4_either, Cond.selects RX4 yX4_either yX4_either]
def wsX4_worst_r3 : List Cond := [Cond.code yX4_either cX4_either 1 (some .int)]
def wsX4_worst : List Cond := .code yX4_worst cX4_worst 8 (some .int) :: ((wsX4_worst_r1 ++ (wsX4_worst_r2 ++ wsX4_worst_r3)) ++ wsX40)
def wsX4_bestKept_r1 : List Cond := [Cond.fieldLink RX4 7 "WordSamplesModel" "now" "[I", Cond.methodLink RX4 39 yX4_in, Cond.static yX4_in, Cond.initialized RX4, Cond.code yX4_in cX4_in 3 (some .boolean), Cond.methodLink RX4 139 yX4_off, Cond.instanceMethod yX4_off, Cond.selects RX4 yX4_off yX4_off, Cond.code yX4_off cX4_off 5 (some .int), Cond.fieldLink RX4 102 "WordSamplesModel" "shared" "I", Cond.fieldLink RX4 99 "WordSamplesModel" "common" "I", Cond.fieldLink RX4 108 "WordSamplesModel" "both" "I", Cond.methodLink RX4 126 yX4_compare, Cond.instanceMethod yX4_compare, Cond.selects RX4 yX4_compare yX4_compare, Cond.code yX4_compare cX4_compare 8 none, Cond.fieldLink RX4 35 "WordSamplesModel" "words" "[I", Cond.fieldLink RX4 29 "WordSamplesModel" "values" "[I", Cond.fieldLink RX4 105 "WordSamplesModel" "rest" "I", Cond.methodLink RX4 96 yX4_find, Cond.instanceMethod yX4_find, Cond.selects RX4 yX4_find yX4_find, Cond.code yX4_find cX4_find 4 none, Cond.methodLink RX4 89 yX4_codeAt]
def wsX4_bestKept_r2 : List Cond := [Cond.instanceMethod yX4_codeAt, Cond.selects RX4 yX4_codeAt yX4_codeAt, Cond.code yX4_codeAt cX4_codeAt 5 (some .int), Cond.methodLink RX4 80 yX4_at, Cond.instanceMethod yX4_at, Cond.selects RX4 yX4_at yX4_at, Cond.code yX4_at cX4_at 3 (some .int), Cond.methodLink RX4 92 yX4_note, Cond.instanceMethod yX4_note, Cond.selects RX4 yX4_note yX4_note, Cond.code yX4_note cX4_note 7 none, Cond.fieldLink RX4 32 "WordSamplesModel" "often" "[I", Cond.fieldLink RX4 26 "WordSamplesModel" "codes" "[I", Cond.methodLink RX4 86 yX4_valueOf, Cond.instanceMethod yX4_valueOf, Cond.selects RX4 yX4_valueOf yX4_valueOf, Cond.code yX4_valueOf cX4_valueOf 2 (some .int), Cond.constantLong RX4 84 (1000003), Cond.methodLink RX4 111 yX4_share, Cond.static yX4_share, Cond.code yX4_share cX4_share 2 (some .int), Cond.methodLink RX4 136 yX4_either, Cond.instanceMethod yX4_either, Cond.selects RX4 yX4_either yX4_either]
def wsX4_bestKept_r3 : List Cond := [Cond.code yX4_either cX4_either 1 (some .int)]
def wsX4_bestKept : List Cond := .code yX4_bestKept cX4_bestKept 6 (some .int) :: ((wsX4_bestKept_r1 ++ (wsX4_bestKept_r2 ++ wsX4_bestKept_r3)) ++ wsX40)
def wsX4_group_r1 : List Cond := [Cond.fieldLink RX4 7 "WordSamplesModel" "now" "[I", Cond.fieldLink RX4 102 "WordSamplesModel" "shared" "I", Cond.fieldLink RX4 99 "WordSamplesModel" "common" "I", Cond.methodLink RX4 43 yX4_isRow, Cond.instanceMethod yX4_isRow, Cond.selects RX4 yX4_isRow yX4_isRow, Cond.initialized RX4, Cond.code yX4_isRow cX4_isRow 2 (some .boolean), Cond.methodLink RX4 39 yX4_in, Cond.static yX4_in, Cond.code yX4_in cX4_in 3 (some .boolean), Cond.methodLink RX4 126 yX4_compare, Cond.instanceMethod yX4_compare, Cond.selects RX4 yX4_compare yX4_compare, Cond.code yX4_compare cX4_compare 8 none, Cond.fieldLink RX4 35 "WordSamplesModel" "words" "[I", Cond.fieldLink RX4 29 "WordSamplesModel" "values" "[I", Cond.fieldLink RX4 105 "WordSamplesModel" "rest" "I", Cond.fieldLink RX4 108 "WordSamplesModel" "both" "I", Cond.methodLink RX4 96 yX4_find, Cond.instanceMethod yX4_find, Cond.selects RX4 yX4_find yX4_find, Cond.code yX4_find cX4_find 4 none, Cond.methodLink RX4 89 yX4_codeAt]
def wsX4_group_r2 : List Cond := [Cond.instanceMethod yX4_codeAt, Cond.selects RX4 yX4_codeAt yX4_codeAt, Cond.code yX4_codeAt cX4_codeAt 5 (some .int), Cond.methodLink RX4 80 yX4_at, Cond.instanceMethod yX4_at, Cond.selects RX4 yX4_at yX4_at, Cond.code yX4_at cX4_at 3 (some .int), Cond.methodLink RX4 92 yX4_note, Cond.instanceMethod yX4_note, Cond.selects RX4 yX4_note yX4_note, Cond.code yX4_note cX4_note 7 none, Cond.fieldLink RX4 32 "WordSamplesModel" "often" "[I", Cond.fieldLink RX4 26 "WordSamplesModel" "codes" "[I", Cond.methodLink RX4 86 yX4_valueOf, Cond.instanceMethod yX4_valueOf, Cond.selects RX4 yX4_valueOf yX4_valueOf, Cond.code yX4_valueOf cX4_valueOf 2 (some .int), Cond.constantLong RX4 84 (1000003), Cond.methodLink RX4 111 yX4_share, Cond.static yX4_share, Cond.code yX4_share cX4_share 2 (some .int)]
def wsX4_group : List Cond := .code yX4_group cX4_group 7 (some .int) :: ((wsX4_group_r1 ++ wsX4_group_r2) ++ wsX40)
def wsX4_put : List Cond := .code yX4_put cX4_put 7 (some .int) :: ([.constantLong RX4 143 (255), .fieldLink RX4 62 "WordSamplesModel" "padded" "I", .fieldLink RX4 23 "WordSamplesModel" "pad" "[I", .methodLink RX4 39 yX4_in, .static yX4_in, .initialized RX4, .code yX4_in cX4_in 3 (some .boolean)] ++ wsX40)
def wsX4_wipe : List Cond := .code yX4_wipe cX4_wipe 2 (some .int) :: ([.fieldLink RX4 62 "WordSamplesModel" "padded" "I"] ++ wsX40)
def wsX4_undo : List Cond := .code yX4_undo cX4_undo 2 (some .int) :: ([.fieldLink RX4 47 "WordSamplesModel" "known" "I", .fieldLink RX4 7 "WordSamplesModel" "now" "[I", .fieldLink RX4 13 "WordSamplesModel" "before" "[I"] ++ wsX40)
def wsX4_save : List Cond := .code yX4_save cX4_save 3 (some .int) :: ([.fieldLink RX4 16 "WordSamplesModel" "stored" "[I", .fieldLink RX4 7 "WordSamplesModel" "now" "[I", .fieldLink RX4 19 "WordSamplesModel" "isStored" "[Z", .methodLink RX4 39 yX4_in, .static yX4_in, .initialized RX4, .code yX4_in cX4_in 3 (some .boolean)] ++ wsX40)
def wsX4_restore : List Cond := .code yX4_restore cX4_restore 3 (some .int) :: ([.fieldLink RX4 19 "WordSamplesModel" "isStored" "[Z", .fieldLink RX4 7 "WordSamplesModel" "now" "[I", .fieldLink RX4 16 "WordSamplesModel" "stored" "[I", .methodLink RX4 39 yX4_in, .static yX4_in, .initialized RX4, .code yX4_in cX4_in 3 (some .boolean), .methodLink RX4 59 yX4_know, .instanceMethod yX4_know, .selects RX4 yX4_know yX4_know, .code yX4_know cX4_know 2 none, .fieldLink RX4 47 "WordSamplesModel" "known" "I", .fieldLink RX4 13 "WordSamplesModel" "before" "[I"] ++ wsX40)
def wsJ9_abs_0f7a4 : List Cond := .code yJ9_abs_0f7a4 cJ9_abs_0f7a4 1 (some .int) :: ([])
def wsJ9_max_7cf53 : List Cond := .code yJ9_max_7cf53 cJ9_max_7cf53 2 (some .int) :: ([])
def wsJ9_min_7cf53 : List Cond := .code yJ9_min_7cf53 cJ9_min_7cf53 2 (some .int) :: ([])
theorem inJ9 : ∀ w ∈ wsJ90, w ∈ lw_tbl := by decide +kernel
theorem inJ10 : ∀ w ∈ wsJ100, w ∈ lw_tbl := by decide +kernel
abbrev vwCl : List vw_C := [(RX0, TX0, 7), (RX1, TX1, 4), (RX2, TX2, 4), (RX3, TX3, 11), (RX4, TX4, 15)]
end
section
theorem dX0_init_0 : decode cX0_init 0 = .ok (.aload_n 0, 1) := by decide +kernel
theorem dX0_init_1 : decode cX0_init 1 = .ok (.invokespecial 3, 3) := by decide +kernel
theorem dX0_init_4 : decode cX0_init 4 = .ok (.aload_n 0, 1) := by decide +kernel
theorem dX0_init_5 : decode cX0_init 5 = .ok (.bipush 33, 2) := by decide +kernel
theorem dX0_init_7 : decode cX0_init 7 = .ok (.newarray .int, 2) := by decide +kernel
theorem dX0_init_9 : decode cX0_init 9 = .ok (.putfield 9, 3) := by decide +kernel
theorem dX0_init_12 : decode cX0_init 12 = .ok (.aload_n 0, 1) := by decide +kernel
theorem dX0_init_13 : decode cX0_init 13 = .ok (.bipush 33, 2) := by decide +kernel
theorem dX0_init_15 : decode cX0_init 15 = .ok (.newarray .int, 2) := by decide +kernel
theorem dX0_init_17 : decode cX0_init 17 = .ok (.putfield 15, 3) := by decide +kernel
theorem dX0_init_20 : decode cX0_init 20 = .ok (.aload_n 0, 1) := by decide +kernel
theorem dX0_init_21 : decode cX0_init 21 = .ok (.bipush 33, 2) := by decide +kernel
theorem dX0_init_23 : decode cX0_init 23 = .ok (.newarray .int, 2) := by decide +kernel
theorem dX0_init_25 : decode cX0_init 25 = .ok (.putfield 18, 3) := by decide +kernel
theorem dX0_init_28 : decode cX0_init 28 = .ok (.aload_n 0, 1) := by decide +kernel
theorem dX0_init_29 : decode cX0_init 29 = .ok (.iconst 0, 1) := by decide +kernel
theorem dX0_init_30 : decode cX0_init 30 = .ok (.putfield 21, 3) := by decide +kernel
theorem dX0_init_33 : decode cX0_init 33 = .ok (.aload_n 0, 1) := by decide +kernel
theorem dX0_init_34 : decode cX0_init 34 = .ok (.iconst 0, 1) := by decide +kernel
theorem dX0_init_35 : decode cX0_init 35 = .ok (.putfield 25, 3) := by decide +kernel
theorem dX0_init_38 : decode cX0_init 38 = .ok (.aload_n 0, 1) := by decide +kernel
theorem dX0_init_39 : decode cX0_init 39 = .ok (.iconst 0, 1) := by decide +kernel
theorem dX0_init_40 : decode cX0_init 40 = .ok (.putfield 28, 3) := by decide +kernel
theorem dX0_init_43 : decode cX0_init 43 = .ok (.aload_n 0, 1) := by decide +kernel
theorem dX0_init_44 : decode cX0_init 44 = .ok (.iconst 0, 1) := by decide +kernel
theorem dX0_init_45 : decode cX0_init 45 = .ok (.putfield 31, 3) := by decide +kernel
theorem dX0_init_48 : decode cX0_init 48 = .ok (.return_, 1) := by decide +kernel
set_option maxRecDepth 20000 in
theorem ggX0_measure_X2_valueAt : GoodIn wsX0_measure wsX2_valueAt := goodIn_r _ [14, 15, 16, 17, 18, 19, 20, 21] (by decide +kernel) (by decide +kernel)
set_option maxRecDepth 20000 in
theorem gX0_measure_X2_valueAt : GoodIn wsX0_measure (wsV RX0 39 RX2 yX2_valueAt wsX2_valueAt) := goodIn_app (goodIn_of _ (by decide +kernel)) ggX0_measure_X2_valueAt
theorem dX0_measure_0 : decode cX0_measure 0 = .ok (.aload_n 0, 1) := by decide +kernel
theorem dX0_measure_1 : decode cX0_measure 1 = .ok (.aload_n 1, 1) := by decide +kernel
theorem dX0_measure_2 : decode cX0_measure 2 = .ok (.getfield 34, 3) := by decide +kernel
theorem dX0_measure_5 : decode cX0_measure 5 = .ok (.putfield 21, 3) := by decide +kernel
theorem dX0_measure_8 : decode cX0_measure 8 = .ok (.aload_n 0, 1) := by decide +kernel
theorem dX0_measure_9 : decode cX0_measure 9 = .ok (.aload_n 2, 1) := by decide +kernel
theorem dX0_measure_10 : decode cX0_measure 10 = .ok (.getfield 34, 3) := by decide +kernel
theorem dX0_measure_13 : decode cX0_measure 13 = .ok (.putfield 25, 3) := by decide +kernel
theorem dX0_measure_16 : decode cX0_measure 16 = .ok (.aload_n 0, 1) := by decide +kernel
theorem dX0_measure_17 : decode cX0_measure 17 = .ok (.iconst 0, 1) := by decide +kernel
theorem dX0_measure_18 : decode cX0_measure 18 = .ok (.putfield 28, 3) := by decide +kernel
theorem dX0_measure_21 : decode cX0_measure 21 = .ok (.aload_n 0, 1) := by decide +kernel
theorem dX0_measure_22 : decode cX0_measure 22 = .ok (.iconst 0, 1) := by decide +kernel
theorem dX0_measure_23 : decode cX0_measure 23 = .ok (.putfield 31, 3) := by decide +kernel
theorem dX0_measure_26 : decode cX0_measure 26 = .ok (.iconst 0, 1) := by decide +kernel
theorem dX0_measure_27 : decode cX0_measure 27 = .ok (.istore_n 3, 1) := by decide +kernel
theorem dX0_measure_28 : decode cX0_measure 28 = .ok (.iconst 0, 1) := by decide +kernel
theorem dX0_measure_29 : decode cX0_measure 29 = .ok (.istore 4, 2) := by decide +kernel
theorem dX0_measure_31 : decode cX0_measure 31 = .ok (.iconst 0, 1) := by decide +kernel
theorem dX0_measure_32 : decode cX0_measure 32 = .ok (.istore 5, 2) := by decide +kernel
theorem dX0_measure_34 : decode cX0_measure 34 = .ok (.iload 5, 2) := by decide +kernel
theorem dX0_measure_36 : decode cX0_measure 36 = .ok (.aload_n 0, 1) := by decide +kernel
theorem dX0_measure_37 : decode cX0_measure 37 = .ok (.getfield 21, 3) := by decide +kernel
theorem dX0_measure_40 : decode cX0_measure 40 = .ok (.aload_n 0, 1) := by decide +kernel
theorem dX0_measure_41 : decode cX0_measure 41 = .ok (.getfield 25, 3) := by decide +kernel
theorem dX0_measure_44 : decode cX0_measure 44 = .ok (.iadd, 1) := by decide +kernel
theorem dX0_measure_45 : decode cX0_measure 45 = .ok (.if_icmp .ge 147, 3) := by decide +kernel
theorem dX0_measure_48 : decode cX0_measure 48 = .ok (.aload_n 1, 1) := by decide +kernel
theorem dX0_measure_49 : decode cX0_measure 49 = .ok (.iload_n 3, 1) := by decide +kernel
theorem dX0_measure_50 : decode cX0_measure 50 = .ok (.invokevirtual 39, 3) := by decide +kernel
theorem dX0_measure_53 : decode cX0_measure 53 = .ok (.istore 6, 2) := by decide +kernel
theorem dX0_measure_55 : decode cX0_measure 55 = .ok (.aload_n 2, 1) := by decide +kernel
theorem dX0_measure_56 : decode cX0_measure 56 = .ok (.iload 4, 2) := by decide +kernel
theorem dX0_measure_58 : decode cX0_measure 58 = .ok (.invokevirtual 39, 3) := by decide +kernel
theorem dX0_measure_61 : decode cX0_measure 61 = .ok (.istore 7, 2) := by decide +kernel
theorem dX0_measure_63 : decode cX0_measure 63 = .ok (.iload 6, 2) := by decide +kernel
theorem dX0_measure_65 : decode cX0_measure 65 = .ok (.ldc 43, 2) := by decide +kernel
theorem dX0_measure_67 : decode cX0_measure 67 = .ok (.if_icmp .ne 13, 3) := by decide +kernel
theorem dX0_measure_70 : decode cX0_measure 70 = .ok (.iload 7, 2) := by decide +kernel
theorem dX0_measure_72 : decode cX0_measure 72 = .ok (.ldc 43, 2) := by decide +kernel
theorem dX0_measure_74 : decode cX0_measure 74 = .ok (.if_icmp .ne 6, 3) := by decide +kernel
theorem dX0_measure_77 : decode cX0_measure 77 = .ok (.goto 115, 3) := by decide +kernel
theorem dX0_measure_80 : decode cX0_measure 80 = .ok (.iload_n 3, 1) := by decide +kernel
theorem dX0_measure_81 : decode cX0_measure 81 = .ok (.iload 6, 2) := by decide +kernel
theorem dX0_measure_83 : decode cX0_measure 83 = .ok (.iload 7, 2) := by decide +kernel
theorem dX0_measure_85 : decode cX0_measure 85 = .ok (.if_icmp .gt 7, 3) := by decide +kernel
theorem dX0_measure_88 : decode cX0_measure 88 = .ok (.iconst 1, 1) := by decide +kernel
theorem dX0_measure_89 : decode cX0_measure 89 = .ok (.goto 4, 3) := by decide +kernel
theorem dX0_measure_92 : decode cX0_measure 92 = .ok (.iconst 0, 1) := by decide +kernel
theorem dX0_measure_93 : decode cX0_measure 93 = .ok (.iadd, 1) := by decide +kernel
theorem dX0_measure_94 : decode cX0_measure 94 = .ok (.istore_n 3, 1) := by decide +kernel
theorem dX0_measure_95 : decode cX0_measure 95 = .ok (.iload 4, 2) := by decide +kernel
theorem dX0_measure_97 : decode cX0_measure 97 = .ok (.iload 7, 2) := by decide +kernel
theorem dX0_measure_99 : decode cX0_measure 99 = .ok (.iload 6, 2) := by decide +kernel
theorem dX0_measure_101 : decode cX0_measure 101 = .ok (.if_icmp .gt 7, 3) := by decide +kernel
theorem dX0_measure_104 : decode cX0_measure 104 = .ok (.iconst 1, 1) := by decide +kernel
theorem dX0_measure_105 : decode cX0_measure 105 = .ok (.goto 4, 3) := by decide +kernel
theorem dX0_measure_108 : decode cX0_measure 108 = .ok (.iconst 0, 1) := by decide +kernel
theorem dX0_measure_109 : decode cX0_measure 109 = .ok (.iadd, 1) := by decide +kernel
theorem dX0_measure_110 : decode cX0_measure 110 = .ok (.istore 4, 2) := by decide +kernel
theorem dX0_measure_112 : decode cX0_measure 112 = .ok (.aload_n 0, 1) := by decide +kernel
theorem dX0_measure_113 : decode cX0_measure 113 = .ok (.dup, 1) := by decide +kernel
theorem dX0_measure_114 : decode cX0_measure 114 = .ok (.getfield 31, 3) := by decide +kernel
theorem dX0_measure_117 : decode cX0_measure 117 = .ok (.iload 6, 2) := by decide +kernel
theorem dX0_measure_119 : decode cX0_measure 119 = .ok (.iload 7, 2) := by decide +kernel
theorem dX0_measure_121 : decode cX0_measure 121 = .ok (.if_icmp .ne 7, 3) := by decide +kernel
theorem dX0_measure_124 : decode cX0_measure 124 = .ok (.iconst 1, 1) := by decide +kernel
theorem dX0_measure_125 : decode cX0_measure 125 = .ok (.goto 4, 3) := by decide +kernel
theorem dX0_measure_128 : decode cX0_measure 128 = .ok (.iconst 0, 1) := by decide +kernel
theorem dX0_measure_129 : decode cX0_measure 129 = .ok (.iadd, 1) := by decide +kernel
theorem dX0_measure_130 : decode cX0_measure 130 = .ok (.putfield 31, 3) := by decide +kernel
theorem dX0_measure_133 : decode cX0_measure 133 = .ok (.aload_n 0, 1) := by decide +kernel
theorem dX0_measure_134 : decode cX0_measure 134 = .ok (.dup, 1) := by decide +kernel
theorem dX0_measure_135 : decode cX0_measure 135 = .ok (.getfield 28, 3) := by decide +kernel
theorem dX0_measure_138 : decode cX0_measure 138 = .ok (.iconst 1, 1) := by decide +kernel
theorem dX0_measure_139 : decode cX0_measure 139 = .ok (.iadd, 1) := by decide +kernel
theorem dX0_measure_140 : decode cX0_measure 140 = .ok (.putfield 28, 3) := by decide +kernel
theorem dX0_measure_143 : decode cX0_measure 143 = .ok (.aload_n 0, 1) := by decide +kernel
theorem dX0_measure_144 : decode cX0_measure 144 = .ok (.getfield 28, 3) := by decide +kernel
theorem dX0_measure_147 : decode cX0_measure 147 = .ok (.bipush 32, 2) := by decide +kernel
theorem dX0_measure_149 : decode cX0_measure 149 = .ok (.if_icmp .gt 37, 3) := by decide +kernel
theorem dX0_measure_152 : decode cX0_measure 152 = .ok (.aload_n 0, 1) := by decide +kernel
theorem dX0_measure_153 : decode cX0_measure 153 = .ok (.getfield 15, 3) := by decide +kernel
theorem dX0_measure_156 : decode cX0_measure 156 = .ok (.aload_n 0, 1) := by decide +kernel
theorem dX0_measure_157 : decode cX0_measure 157 = .ok (.getfield 28, 3) := by decide +kernel
theorem dX0_measure_160 : decode cX0_measure 160 = .ok (.iload_n 3, 1) := by decide +kernel
theorem dX0_measure_161 : decode cX0_measure 161 = .ok (.iastore, 1) := by decide +kernel
theorem dX0_measure_162 : decode cX0_measure 162 = .ok (.aload_n 0, 1) := by decide +kernel
theorem dX0_measure_163 : decode cX0_measure 163 = .ok (.getfield 18, 3) := by decide +kernel
theorem dX0_measure_166 : decode cX0_measure 166 = .ok (.aload_n 0, 1) := by decide +kernel
theorem dX0_measure_167 : decode cX0_measure 167 = .ok (.getfield 28, 3) := by decide +kernel
theorem dX0_measure_170 : decode cX0_measure 170 = .ok (.iload 4, 2) := by decide +kernel
theorem dX0_measure_172 : decode cX0_measure 172 = .ok (.iastore, 1) := by decide +kernel
theorem dX0_measure_173 : decode cX0_measure 173 = .ok (.aload_n 0, 1) := by decide +kernel
theorem dX0_measure_174 : decode cX0_measure 174 = .ok (.getfield 9, 3) := by decide +kernel
theorem dX0_measure_177 : decode cX0_measure 177 = .ok (.aload_n 0, 1) := by decide +kernel
theorem dX0_measure_178 : decode cX0_measure 178 = .ok (.getfield 28, 3) := by decide +kernel
theorem dX0_measure_181 : decode cX0_measure 181 = .ok (.aload_n 0, 1) := by decide +kernel
theorem dX0_measure_182 : decode cX0_measure 182 = .ok (.getfield 31, 3) := by decide +kernel
theorem dX0_measure_185 : decode cX0_measure 185 = .ok (.iastore, 1) := by decide +kernel
theorem dX0_measure_186 : decode cX0_measure 186 = .ok (.iinc 5 1, 3) := by decide +kernel
theorem dX0_measure_189 : decode cX0_measure 189 = .ok (.goto (-155), 3) := by decide +kernel
theorem dX0_measure_192 : decode cX0_measure 192 = .ok (.return_, 1) := by decide +kernel
theorem dX0_commonWords_0 : decode cX0_commonWords 0 = .ok (.aload_n 0, 1) := by decide +kernel
theorem dX0_commonWords_1 : decode cX0_commonWords 1 = .ok (.getfield 28, 3) := by decide +kernel
theorem dX0_commonWords_4 : decode cX0_commonWords 4 = .ok (.iconst 0, 1) := by decide +kernel
theorem dX0_commonWords_5 : decode cX0_commonWords 5 = .ok (.iload_n 1, 1) := by decide +kernel
theorem dX0_commonWords_6 : decode cX0_commonWords 6 = .ok (.bipush 32, 2) := by decide +kernel
theorem dX0_commonWords_8 : decode cX0_commonWords 8 = .ok (.invokestatic 44, 3) := by decide +kernel
theorem dX0_commonWords_11 : decode cX0_commonWords 11 = .ok (.invokestatic 50, 3) := by decide +kernel
theorem dX0_commonWords_14 : decode cX0_commonWords 14 = .ok (.invokestatic 44, 3) := by decide +kernel
theorem dX0_commonWords_17 : decode cX0_commonWords 17 = .ok (.ireturn, 1) := by decide +kernel
set_option maxRecDepth 20000 in
theorem ggX0_leastCommon_X0_commonWords : GoodIn wsX0_leastCommon wsX0_commonWords := goodIn_r _ [6, 7, 8, 9, 10, 11, 12, 13, 14, 15, 16, 17, 18, 19, 20, 21] (by decide +kernel) (by decide +kernel)
set_option maxRecDepth 20000 in
theorem gX0_leastCommon_X0_commonWords : GoodIn wsX0_leastCommon (wsV RX0 53 RX0 yX0_commonWords wsX0_commonWords) := goodIn_app (goodIn_of _ (by decide +kernel)) ggX0_leastCommon_X0_commonWords
theorem dX0_leastCommon_0 : decode cX0_leastCommon 0 = .ok (.aload_n 0, 1) := by decide +kernel
theorem dX0_leastCommon_1 : decode cX0_leastCommon 1 = .ok (.getfield 9, 3) := by decide +kernel
theorem dX0_leastCommon_4 : decode cX0_leastCommon 4 = .ok (.aload_n 0, 1) := by decide +kernel
theorem dX0_leastCommon_5 : decode cX0_leastCommon 5 = .ok (.iload_n 1, 1) := by decide +kernel
theorem dX0_leastCommon_6 : decode cX0_leastCommon 6 = .ok (.invokevirtual 53, 3) := by decide +kernel
theorem dX0_leastCommon_9 : decode cX0_leastCommon 9 = .ok (.iaload, 1) := by decide +kernel
theorem dX0_leastCommon_10 : decode cX0_leastCommon 10 = .ok (.ireturn, 1) := by decide +kernel
set_option maxRecDepth 20000 in
theorem ggX0_mostCommon_X0_commonWords : GoodIn wsX0_mostCommon wsX0_commonWords := goodIn_r _ [14, 15, 6, 7, 8, 9, 16, 17, 18, 19, 20, 21, 22, 23, 24, 25] (by decide +kernel) (by decide +kernel)
set_option maxRecDepth 20000 in
theorem gX0_mostCommon_X0_commonWords : GoodIn wsX0_mostCommon (wsV RX0 53 RX0 yX0_commonWords wsX0_commonWords) := goodIn_app (goodIn_of _ (by decide +kernel)) ggX0_mostCommon_X0_commonWords
theorem dX0_mostCommon_0 : decode cX0_mostCommon 0 = .ok (.aload_n 0, 1) := by decide +kernel
theorem dX0_mostCommon_1 : decode cX0_mostCommon 1 = .ok (.iload_n 1, 1) := by decide +kernel
theorem dX0_mostCommon_2 : decode cX0_mostCommon 2 = .ok (.invokevirtual 53, 3) := by decide +kernel
theorem dX0_mostCommon_5 : decode cX0_mostCommon 5 = .ok (.istore_n 2, 1) := by decide +kernel
theorem dX0_mostCommon_6 : decode cX0_mostCommon 6 = .ok (.aload_n 0, 1) := by decide +kernel
theorem dX0_mostCommon_7 : decode cX0_mostCommon 7 = .ok (.getfield 21, 3) := by decide +kernel
theorem dX0_mostCommon_10 : decode cX0_mostCommon 10 = .ok (.aload_n 0, 1) := by decide +kernel
theorem dX0_mostCommon_11 : decode cX0_mostCommon 11 = .ok (.getfield 15, 3) := by decide +kernel
theorem dX0_mostCommon_14 : decode cX0_mostCommon 14 = .ok (.iload_n 2, 1) := by decide +kernel
theorem dX0_mostCommon_15 : decode cX0_mostCommon 15 = .ok (.iaload, 1) := by decide +kernel
theorem dX0_mostCommon_16 : decode cX0_mostCommon 16 = .ok (.isub, 1) := by decide +kernel
theorem dX0_mostCommon_17 : decode cX0_mostCommon 17 = .ok (.istore_n 3, 1) := by decide +kernel
theorem dX0_mostCommon_18 : decode cX0_mostCommon 18 = .ok (.aload_n 0, 1) := by decide +kernel
theorem dX0_mostCommon_19 : decode cX0_mostCommon 19 = .ok (.getfield 25, 3) := by decide +kernel
theorem dX0_mostCommon_22 : decode cX0_mostCommon 22 = .ok (.aload_n 0, 1) := by decide +kernel
theorem dX0_mostCommon_23 : decode cX0_mostCommon 23 = .ok (.getfield 18, 3) := by decide +kernel
theorem dX0_mostCommon_26 : decode cX0_mostCommon 26 = .ok (.iload_n 2, 1) := by decide +kernel
theorem dX0_mostCommon_27 : decode cX0_mostCommon 27 = .ok (.iaload, 1) := by decide +kernel
theorem dX0_mostCommon_28 : decode cX0_mostCommon 28 = .ok (.isub, 1) := by decide +kernel
theorem dX0_mostCommon_29 : decode cX0_mostCommon 29 = .ok (.istore 4, 2) := by decide +kernel
theorem dX0_mostCommon_31 : decode cX0_mostCommon 31 = .ok (.aload_n 0, 1) := by decide +kernel
theorem dX0_mostCommon_32 : decode cX0_mostCommon 32 = .ok (.getfield 9, 3) := by decide +kernel
theorem dX0_mostCommon_35 : decode cX0_mostCommon 35 = .ok (.iload_n 2, 1) := by decide +kernel
theorem dX0_mostCommon_36 : decode cX0_mostCommon 36 = .ok (.iaload, 1) := by decide +kernel
theorem dX0_mostCommon_37 : decode cX0_mostCommon 37 = .ok (.iload_n 3, 1) := by decide +kernel
theorem dX0_mostCommon_38 : decode cX0_mostCommon 38 = .ok (.iload 4, 2) := by decide +kernel
theorem dX0_mostCommon_40 : decode cX0_mostCommon 40 = .ok (.invokestatic 44, 3) := by decide +kernel
theorem dX0_mostCommon_43 : decode cX0_mostCommon 43 = .ok (.iadd, 1) := by decide +kernel
theorem dX0_mostCommon_44 : decode cX0_mostCommon 44 = .ok (.ireturn, 1) := by decide +kernel
set_option maxRecDepth 20000 in
theorem ggX0_toldShare_X0_leastCommon : GoodIn wsX0_toldShare wsX0_leastCommon := goodIn_r _ [5, 6, 7, 8, 9, 4, 10, 11, 12, 13, 14, 15, 16, 17, 18, 22, 23, 24, 25, 26, 27, 28] (by decide +kernel) (by decide +kernel)
set_option maxRecDepth 20000 in
theorem gX0_toldShare_X0_leastCommon : GoodIn wsX0_toldShare (wsV RX0 56 RX0 yX0_leastCommon wsX0_leastCommon) := goodIn_app (goodIn_of _ (by decide +kernel)) ggX0_toldShare_X0_leastCommon
set_option maxRecDepth 20000 in
theorem ggX0_toldShare_X0_commonWords : GoodIn wsX0_toldShare wsX0_commonWords := goodIn_r _ [10, 11, 12, 13, 14, 15, 16, 17, 18, 22, 23, 24, 25, 26, 27, 28] (by decide +kernel) (by decide +kernel)
set_option maxRecDepth 20000 in
theorem gX0_toldShare_X0_commonWords : GoodIn wsX0_toldShare (wsV RX0 53 RX0 yX0_commonWords wsX0_commonWords) := goodIn_app (goodIn_of _ (by decide +kernel)) ggX0_toldShare_X0_commonWords
set_option maxRecDepth 20000 in
theorem ggX0_toldShare_X3_shareDown : GoodIn wsX0_toldShare wsX3_shareDown := goodIn_r _ [21] (by decide +kernel) (by decide +kernel)
set_option maxRecDepth 20000 in
theorem gX0_toldShare_X3_shareDown_n59 : GoodIn wsX0_toldShare (wsX3_shareDown) := ggX0_toldShare_X3_shareDown
theorem dX0_toldShare_0 : decode cX0_toldShare 0 = .ok (.aload_n 0, 1) := by decide +kernel
theorem dX0_toldShare_1 : decode cX0_toldShare 1 = .ok (.iload_n 1, 1) := by decide +kernel
theorem dX0_toldShare_2 : decode cX0_toldShare 2 = .ok (.invokevirtual 56, 3) := by decide +kernel
theorem dX0_toldShare_5 : decode cX0_toldShare 5 = .ok (.aload_n 0, 1) := by decide +kernel
theorem dX0_toldShare_6 : decode cX0_toldShare 6 = .ok (.iload_n 1, 1) := by decide +kernel
theorem dX0_toldShare_7 : decode cX0_toldShare 7 = .ok (.invokevirtual 53, 3) := by decide +kernel
theorem dX0_toldShare_10 : decode cX0_toldShare 10 = .ok (.invokestatic 59, 3) := by decide +kernel
theorem dX0_toldShare_13 : decode cX0_toldShare 13 = .ok (.ireturn, 1) := by decide +kernel
set_option maxRecDepth 20000 in
theorem ggX0_trueShare_X3_shareDown : GoodIn wsX0_trueShare wsX3_shareDown := goodIn_r _ [5] (by decide +kernel) (by decide +kernel)
set_option maxRecDepth 20000 in
theorem gX0_trueShare_X3_shareDown_n59 : GoodIn wsX0_trueShare (wsX3_shareDown) := ggX0_trueShare_X3_shareDown
theorem dX0_trueShare_0 : decode cX0_trueShare 0 = .ok (.aload_n 0, 1) := by decide +kernel
theorem dX0_trueShare_1 : decode cX0_trueShare 1 = .ok (.getfield 31, 3) := by decide +kernel
theorem dX0_trueShare_4 : decode cX0_trueShare 4 = .ok (.aload_n 0, 1) := by decide +kernel
theorem dX0_trueShare_5 : decode cX0_trueShare 5 = .ok (.getfield 28, 3) := by decide +kernel
theorem dX0_trueShare_8 : decode cX0_trueShare 8 = .ok (.invokestatic 59, 3) := by decide +kernel
theorem dX0_trueShare_11 : decode cX0_trueShare 11 = .ok (.ireturn, 1) := by decide +kernel
set_option maxRecDepth 20000 in
theorem ggX0_lowerBound_X0_leastCommon : GoodIn wsX0_lowerBound wsX0_leastCommon := goodIn_r _ [7, 8, 9, 10, 11, 6, 12, 13, 14, 15, 16, 17, 18, 19, 20, 24, 25, 26, 27, 28, 29, 30] (by decide +kernel) (by decide +kernel)
set_option maxRecDepth 20000 in
theorem gX0_lowerBound_X0_leastCommon : GoodIn wsX0_lowerBound (wsV RX0 56 RX0 yX0_leastCommon wsX0_leastCommon) := goodIn_app (goodIn_of _ (by decide +kernel)) ggX0_lowerBound_X0_leastCommon
set_option maxRecDepth 20000 in
theorem ggX0_lowerBound_X3_shareDown : GoodIn wsX0_lowerBound wsX3_shareDown := goodIn_r _ [23] (by decide +kernel) (by decide +kernel)
set_option maxRecDepth 20000 in
theorem gX0_lowerBound_X3_shareDown_n59 : GoodIn wsX0_lowerBound (wsX3_shareDown) := ggX0_lowerBound_X3_shareDown
theorem dX0_lowerBound_0 : decode cX0_lowerBound 0 = .ok (.aload_n 0, 1) := by decide +kernel
theorem dX0_lowerBound_1 : decode cX0_lowerBound 1 = .ok (.iload_n 1, 1) := by decide +kernel
theorem dX0_lowerBound_2 : decode cX0_lowerBound 2 = .ok (.invokevirtual 56, 3) := by decide +kernel
theorem dX0_lowerBound_5 : decode cX0_lowerBound 5 = .ok (.istore_n 2, 1) := by decide +kernel
theorem dX0_lowerBound_6 : decode cX0_lowerBound 6 = .ok (.iload_n 2, 1) := by decide +kernel
theorem dX0_lowerBound_7 : decode cX0_lowerBound 7 = .ok (.aload_n 0, 1) := by decide +kernel
theorem dX0_lowerBound_8 : decode cX0_lowerBound 8 = .ok (.getfield 21, 3) := by decide +kernel
theorem dX0_lowerBound_11 : decode cX0_lowerBound 11 = .ok (.aload_n 0, 1) := by decide +kernel
theorem dX0_lowerBound_12 : decode cX0_lowerBound 12 = .ok (.getfield 25, 3) := by decide +kernel
theorem dX0_lowerBound_15 : decode cX0_lowerBound 15 = .ok (.iadd, 1) := by decide +kernel
theorem dX0_lowerBound_16 : decode cX0_lowerBound 16 = .ok (.iload_n 2, 1) := by decide +kernel
theorem dX0_lowerBound_17 : decode cX0_lowerBound 17 = .ok (.isub, 1) := by decide +kernel
theorem dX0_lowerBound_18 : decode cX0_lowerBound 18 = .ok (.invokestatic 59, 3) := by decide +kernel
theorem dX0_lowerBound_21 : decode cX0_lowerBound 21 = .ok (.ireturn, 1) := by decide +kernel
set_option maxRecDepth 20000 in
theorem ggX0_upperBound_X0_mostCommon : GoodIn wsX0_upperBound wsX0_mostCommon := goodIn_r _ [7, 1, 8, 2, 9, 10, 11, 12, 13, 14, 15, 16, 17, 6, 18, 19, 20, 21, 22, 26, 27, 28, 29, 30, 31, 32] (by decide +kernel) (by decide +kernel)
set_option maxRecDepth 20000 in
theorem gX0_upperBound_X0_mostCommon : GoodIn wsX0_upperBound (wsV RX0 62 RX0 yX0_mostCommon wsX0_mostCommon) := goodIn_app (goodIn_of _ (by decide +kernel)) ggX0_upperBound_X0_mostCommon
set_option maxRecDepth 20000 in
theorem ggX0_upperBound_X3_shareUp : GoodIn wsX0_upperBound wsX3_shareUp := goodIn_r _ [25] (by decide +kernel) (by decide +kernel)
set_option maxRecDepth 20000 in
theorem gX0_upperBound_X3_shareUp_n65 : GoodIn wsX0_upperBound (wsX3_shareUp) := ggX0_upperBound_X3_shareUp
theorem dX0_upperBound_0 : decode cX0_upperBound 0 = .ok (.aload_n 0, 1) := by decide +kernel
theorem dX0_upperBound_1 : decode cX0_upperBound 1 = .ok (.iload_n 1, 1) := by decide +kernel
theorem dX0_upperBound_2 : decode cX0_upperBound 2 = .ok (.invokevirtual 62, 3) := by decide +kernel
theorem dX0_upperBound_5 : decode cX0_upperBound 5 = .ok (.istore_n 2, 1) := by decide +kernel
theorem dX0_upperBound_6 : decode cX0_upperBound 6 = .ok (.iload_n 2, 1) := by decide +kernel
theorem dX0_upperBound_7 : decode cX0_upperBound 7 = .ok (.aload_n 0, 1) := by decide +kernel
theorem dX0_upperBound_8 : decode cX0_upperBound 8 = .ok (.getfield 21, 3) := by decide +kernel
theorem dX0_upperBound_11 : decode cX0_upperBound 11 = .ok (.aload_n 0, 1) := by decide +kernel
theorem dX0_upperBound_12 : decode cX0_upperBound 12 = .ok (.getfield 25, 3) := by decide +kernel
theorem dX0_upperBound_15 : decode cX0_upperBound 15 = .ok (.iadd, 1) := by decide +kernel
theorem dX0_upperBound_16 : decode cX0_upperBound 16 = .ok (.iload_n 2, 1) := by decide +kernel
theorem dX0_upperBound_17 : decode cX0_upperBound 17 = .ok (.isub, 1) := by decide +kernel
theorem dX0_upperBound_18 : decode cX0_upperBound 18 = .ok (.invokestatic 65, 3) := by decide +kernel
theorem dX0_upperBound_21 : decode cX0_upperBound 21 = .ok (.ireturn, 1) := by decide +kernel
set_option maxRecDepth 20000 in
theorem ggX0_errorOfTold_X0_toldShare : GoodIn wsX0_errorOfTold wsX0_toldShare := goodIn_r _ [9, 10, 11, 12, 8, 13, 14, 15, 16, 17, 18, 19, 20, 21, 3, 22, 23, 24, 25, 26, 27, 28, 34, 35, 36, 37, 38, 39, 40] (by decide +kernel) (by decide +kernel)
set_option maxRecDepth 20000 in
theorem gX0_errorOfTold_X0_toldShare : GoodIn wsX0_errorOfTold (wsV RX0 68 RX0 yX0_toldShare wsX0_toldShare) := goodIn_app (goodIn_of _ (by decide +kernel)) ggX0_errorOfTold_X0_toldShare
set_option maxRecDepth 20000 in
theorem ggX0_errorOfTold_X0_trueShare : GoodIn wsX0_errorOfTold wsX0_trueShare := goodIn_r _ [32, 33, 19, 26, 27, 28, 34, 35, 36, 37, 38, 39, 40] (by decide +kernel) (by decide +kernel)
set_option maxRecDepth 20000 in
theorem gX0_errorOfTold_X0_trueShare : GoodIn wsX0_errorOfTold (wsV RX0 71 RX0 yX0_trueShare wsX0_trueShare) := goodIn_app (goodIn_of _ (by decide +kernel)) ggX0_errorOfTold_X0_trueShare
theorem dX0_errorOfTold_0 : decode cX0_errorOfTold 0 = .ok (.aload_n 0, 1) := by decide +kernel
theorem dX0_errorOfTold_1 : decode cX0_errorOfTold 1 = .ok (.iload_n 1, 1) := by decide +kernel
theorem dX0_errorOfTold_2 : decode cX0_errorOfTold 2 = .ok (.invokevirtual 68, 3) := by decide +kernel
theorem dX0_errorOfTold_5 : decode cX0_errorOfTold 5 = .ok (.aload_n 0, 1) := by decide +kernel
theorem dX0_errorOfTold_6 : decode cX0_errorOfTold 6 = .ok (.invokevirtual 71, 3) := by decide +kernel
theorem dX0_errorOfTold_9 : decode cX0_errorOfTold 9 = .ok (.isub, 1) := by decide +kernel
theorem dX0_errorOfTold_10 : decode cX0_errorOfTold 10 = .ok (.invokestatic 75, 3) := by decide +kernel
theorem dX0_errorOfTold_13 : decode cX0_errorOfTold 13 = .ok (.ireturn, 1) := by decide +kernel
theorem dX1_init_0 : decode cX1_init 0 = .ok (.aload_n 0, 1) := by decide +kernel
theorem dX1_init_1 : decode cX1_init 1 = .ok (.invokespecial 3, 3) := by decide +kernel
theorem dX1_init_4 : decode cX1_init 4 = .ok (.aload_n 0, 1) := by decide +kernel
theorem dX1_init_5 : decode cX1_init 5 = .ok (.iconst 4, 1) := by decide +kernel
theorem dX1_init_6 : decode cX1_init 6 = .ok (.newarray .int, 2) := by decide +kernel
theorem dX1_init_8 : decode cX1_init 8 = .ok (.putfield 9, 3) := by decide +kernel
theorem dX1_init_11 : decode cX1_init 11 = .ok (.aload_n 0, 1) := by decide +kernel
theorem dX1_init_12 : decode cX1_init 12 = .ok (.bipush 10, 2) := by decide +kernel
theorem dX1_init_14 : decode cX1_init 14 = .ok (.newarray .int, 2) := by decide +kernel
theorem dX1_init_16 : decode cX1_init 16 = .ok (.putfield 15, 3) := by decide +kernel
theorem dX1_init_19 : decode cX1_init 19 = .ok (.aload_n 0, 1) := by decide +kernel
theorem dX1_init_20 : decode cX1_init 20 = .ok (.sipush 640, 3) := by decide +kernel
theorem dX1_init_23 : decode cX1_init 23 = .ok (.newarray .int, 2) := by decide +kernel
theorem dX1_init_25 : decode cX1_init 25 = .ok (.putfield 18, 3) := by decide +kernel
theorem dX1_init_28 : decode cX1_init 28 = .ok (.aload_n 0, 1) := by decide +kernel
theorem dX1_init_29 : decode cX1_init 29 = .ok (.iconst 0, 1) := by decide +kernel
theorem dX1_init_30 : decode cX1_init 30 = .ok (.putfield 21, 3) := by decide +kernel
theorem dX1_init_33 : decode cX1_init 33 = .ok (.getstatic 25, 3) := by decide +kernel
theorem dX1_init_36 : decode cX1_init 36 = .ok (.iconst 0, 1) := by decide +kernel
theorem dX1_init_37 : decode cX1_init 37 = .ok (.aload_n 0, 1) := by decide +kernel
theorem dX1_init_38 : decode cX1_init 38 = .ok (.getfield 9, 3) := by decide +kernel
theorem dX1_init_41 : decode cX1_init 41 = .ok (.iconst 0, 1) := by decide +kernel
theorem dX1_init_42 : decode cX1_init 42 = .ok (.iconst 4, 1) := by decide +kernel
theorem dX1_init_43 : decode cX1_init 43 = .ok (.invokestatic 28, 3) := by decide +kernel
theorem dX1_init_46 : decode cX1_init 46 = .ok (.return_, 1) := by decide +kernel
theorem dX1_copyFrom_0 : decode cX1_copyFrom 0 = .ok (.aload_n 1, 1) := by decide +kernel
theorem dX1_copyFrom_1 : decode cX1_copyFrom 1 = .ok (.getfield 9, 3) := by decide +kernel
theorem dX1_copyFrom_4 : decode cX1_copyFrom 4 = .ok (.iconst 0, 1) := by decide +kernel
theorem dX1_copyFrom_5 : decode cX1_copyFrom 5 = .ok (.aload_n 0, 1) := by decide +kernel
theorem dX1_copyFrom_6 : decode cX1_copyFrom 6 = .ok (.getfield 9, 3) := by decide +kernel
theorem dX1_copyFrom_9 : decode cX1_copyFrom 9 = .ok (.iconst 0, 1) := by decide +kernel
theorem dX1_copyFrom_10 : decode cX1_copyFrom 10 = .ok (.iconst 4, 1) := by decide +kernel
theorem dX1_copyFrom_11 : decode cX1_copyFrom 11 = .ok (.invokestatic 28, 3) := by decide +kernel
theorem dX1_copyFrom_14 : decode cX1_copyFrom 14 = .ok (.aload_n 1, 1) := by decide +kernel
theorem dX1_copyFrom_15 : decode cX1_copyFrom 15 = .ok (.getfield 15, 3) := by decide +kernel
theorem dX1_copyFrom_18 : decode cX1_copyFrom 18 = .ok (.iconst 0, 1) := by decide +kernel
theorem dX1_copyFrom_19 : decode cX1_copyFrom 19 = .ok (.aload_n 0, 1) := by decide +kernel
theorem dX1_copyFrom_20 : decode cX1_copyFrom 20 = .ok (.getfield 15, 3) := by decide +kernel
theorem dX1_copyFrom_23 : decode cX1_copyFrom 23 = .ok (.iconst 0, 1) := by decide +kernel
theorem dX1_copyFrom_24 : decode cX1_copyFrom 24 = .ok (.bipush 10, 2) := by decide +kernel
theorem dX1_copyFrom_26 : decode cX1_copyFrom 26 = .ok (.invokestatic 28, 3) := by decide +kernel
theorem dX1_copyFrom_29 : decode cX1_copyFrom 29 = .ok (.aload_n 1, 1) := by decide +kernel
theorem dX1_copyFrom_30 : decode cX1_copyFrom 30 = .ok (.getfield 18, 3) := by decide +kernel
theorem dX1_copyFrom_33 : decode cX1_copyFrom 33 = .ok (.iconst 0, 1) := by decide +kernel
theorem dX1_copyFrom_34 : decode cX1_copyFrom 34 = .ok (.aload_n 0, 1) := by decide +kernel
theorem dX1_copyFrom_35 : decode cX1_copyFrom 35 = .ok (.getfield 18, 3) := by decide +kernel
theorem dX1_copyFrom_38 : decode cX1_copyFrom 38 = .ok (.iconst 0, 1) := by decide +kernel
theorem dX1_copyFrom_39 : decode cX1_copyFrom 39 = .ok (.sipush 640, 3) := by decide +kernel
theorem dX1_copyFrom_42 : decode cX1_copyFrom 42 = .ok (.invokestatic 28, 3) := by decide +kernel
theorem dX1_copyFrom_45 : decode cX1_copyFrom 45 = .ok (.aload_n 0, 1) := by decide +kernel
theorem dX1_copyFrom_46 : decode cX1_copyFrom 46 = .ok (.aload_n 1, 1) := by decide +kernel
theorem dX1_copyFrom_47 : decode cX1_copyFrom 47 = .ok (.getfield 21, 3) := by decide +kernel
theorem dX1_copyFrom_50 : decode cX1_copyFrom 50 = .ok (.putfield 21, 3) := by decide +kernel
theorem dX1_copyFrom_53 : decode cX1_copyFrom 53 = .ok (.return_, 1) := by decide +kernel
theorem dX2_init_0 : decode cX2_init 0 = .ok (.aload_n 0, 1) := by decide +kernel
theorem dX2_init_1 : decode cX2_init 1 = .ok (.invokespecial 3, 3) := by decide +kernel
theorem dX2_init_4 : decode cX2_init 4 = .ok (.aload_n 0, 1) := by decide +kernel
theorem dX2_init_5 : decode cX2_init 5 = .ok (.bipush 64, 2) := by decide +kernel
theorem dX2_init_7 : decode cX2_init 7 = .ok (.newarray .int, 2) := by decide +kernel
theorem dX2_init_9 : decode cX2_init 9 = .ok (.putfield 9, 3) := by decide +kernel
theorem dX2_init_12 : decode cX2_init 12 = .ok (.aload_n 0, 1) := by decide +kernel
theorem dX2_init_13 : decode cX2_init 13 = .ok (.bipush 64, 2) := by decide +kernel
theorem dX2_init_15 : decode cX2_init 15 = .ok (.newarray .int, 2) := by decide +kernel
theorem dX2_init_17 : decode cX2_init 17 = .ok (.putfield 15, 3) := by decide +kernel
theorem dX2_init_20 : decode cX2_init 20 = .ok (.aload_n 0, 1) := by decide +kernel
theorem dX2_init_21 : decode cX2_init 21 = .ok (.bipush 64, 2) := by decide +kernel
theorem dX2_init_23 : decode cX2_init 23 = .ok (.newarray .int, 2) := by decide +kernel
theorem dX2_init_25 : decode cX2_init 25 = .ok (.putfield 18, 3) := by decide +kernel
theorem dX2_init_28 : decode cX2_init 28 = .ok (.aload_n 0, 1) := by decide +kernel
theorem dX2_init_29 : decode cX2_init 29 = .ok (.iconst 0, 1) := by decide +kernel
theorem dX2_init_30 : decode cX2_init 30 = .ok (.putfield 21, 3) := by decide +kernel
theorem dX2_init_33 : decode cX2_init 33 = .ok (.return_, 1) := by decide +kernel
set_option maxRecDepth 20000 in
theorem ggX2_gather_X2_codeAt : GoodIn wsX2_gather wsX2_codeAt := goodIn_r _ [9] (by decide +kernel) (by decide +kernel)
set_option maxRecDepth 20000 in
theorem gX2_gather_X2_codeAt : GoodIn wsX2_gather (va_wsS RX2 36 yX2_codeAt wsX2_codeAt) := goodIn_app (goodIn_of _ (by decide +kernel)) ggX2_gather_X2_codeAt
set_option maxRecDepth 20000 in
theorem ggX2_gather_X2_enter : GoodIn wsX2_gather wsX2_enter := goodIn_r _ [13, 1, 14, 15, 16, 17, 18, 19, 20, 21, 22, 23, 8, 24, 25, 26, 27, 28, 29] (by decide +kernel) (by decide +kernel)
set_option maxRecDepth 20000 in
theorem gX2_gather_X2_enter : GoodIn wsX2_gather (wsV RX2 42 RX2 yX2_enter wsX2_enter) := goodIn_app (goodIn_of _ (by decide +kernel)) ggX2_gather_X2_enter
theorem dX2_gather_0 : decode cX2_gather 0 = .ok (.aload_n 0, 1) := by decide +kernel
theorem dX2_gather_1 : decode cX2_gather 1 = .ok (.iconst 0, 1) := by decide +kernel
theorem dX2_gather_2 : decode cX2_gather 2 = .ok (.putfield 21, 3) := by decide +kernel
theorem dX2_gather_5 : decode cX2_gather 5 = .ok (.iload_n 2, 1) := by decide +kernel
theorem dX2_gather_6 : decode cX2_gather 6 = .ok (.bipush 64, 2) := by decide +kernel
theorem dX2_gather_8 : decode cX2_gather 8 = .ok (.imul, 1) := by decide +kernel
theorem dX2_gather_9 : decode cX2_gather 9 = .ok (.istore_n 3, 1) := by decide +kernel
theorem dX2_gather_10 : decode cX2_gather 10 = .ok (.aload_n 1, 1) := by decide +kernel
theorem dX2_gather_11 : decode cX2_gather 11 = .ok (.getfield 25, 3) := by decide +kernel
theorem dX2_gather_14 : decode cX2_gather 14 = .ok (.iconst 0, 1) := by decide +kernel
theorem dX2_gather_15 : decode cX2_gather 15 = .ok (.iaload, 1) := by decide +kernel
theorem dX2_gather_16 : decode cX2_gather 16 = .ok (.istore 4, 2) := by decide +kernel
theorem dX2_gather_18 : decode cX2_gather 18 = .ok (.aload_n 1, 1) := by decide +kernel
theorem dX2_gather_19 : decode cX2_gather 19 = .ok (.getfield 30, 3) := by decide +kernel
theorem dX2_gather_22 : decode cX2_gather 22 = .ok (.iload_n 2, 1) := by decide +kernel
theorem dX2_gather_23 : decode cX2_gather 23 = .ok (.iaload, 1) := by decide +kernel
theorem dX2_gather_24 : decode cX2_gather 24 = .ok (.iload 4, 2) := by decide +kernel
theorem dX2_gather_26 : decode cX2_gather 26 = .ok (.isub, 1) := by decide +kernel
theorem dX2_gather_27 : decode cX2_gather 27 = .ok (.istore 5, 2) := by decide +kernel
theorem dX2_gather_29 : decode cX2_gather 29 = .ok (.iconst 0, 1) := by decide +kernel
theorem dX2_gather_30 : decode cX2_gather 30 = .ok (.istore 6, 2) := by decide +kernel
theorem dX2_gather_32 : decode cX2_gather 32 = .ok (.iload 6, 2) := by decide +kernel
theorem dX2_gather_34 : decode cX2_gather 34 = .ok (.iload 5, 2) := by decide +kernel
theorem dX2_gather_36 : decode cX2_gather 36 = .ok (.if_icmp .gt 58, 3) := by decide +kernel
theorem dX2_gather_39 : decode cX2_gather 39 = .ok (.aload_n 1, 1) := by decide +kernel
theorem dX2_gather_40 : decode cX2_gather 40 = .ok (.getfield 33, 3) := by decide +kernel
theorem dX2_gather_43 : decode cX2_gather 43 = .ok (.iload_n 3, 1) := by decide +kernel
theorem dX2_gather_44 : decode cX2_gather 44 = .ok (.iload 6, 2) := by decide +kernel
theorem dX2_gather_46 : decode cX2_gather 46 = .ok (.iadd, 1) := by decide +kernel
theorem dX2_gather_47 : decode cX2_gather 47 = .ok (.iload 4, 2) := by decide +kernel
theorem dX2_gather_49 : decode cX2_gather 49 = .ok (.invokestatic 36, 3) := by decide +kernel
theorem dX2_gather_52 : decode cX2_gather 52 = .ok (.istore 7, 2) := by decide +kernel
theorem dX2_gather_54 : decode cX2_gather 54 = .ok (.iload 7, 2) := by decide +kernel
theorem dX2_gather_56 : decode cX2_gather 56 = .ok (.i2l, 1) := by decide +kernel
theorem dX2_gather_57 : decode cX2_gather 57 = .ok (.aload_n 1, 1) := by decide +kernel
theorem dX2_gather_58 : decode cX2_gather 58 = .ok (.getfield 25, 3) := by decide +kernel
theorem dX2_gather_61 : decode cX2_gather 61 = .ok (.iconst 2, 1) := by decide +kernel
theorem dX2_gather_62 : decode cX2_gather 62 = .ok (.iaload, 1) := by decide +kernel
theorem dX2_gather_63 : decode cX2_gather 63 = .ok (.i2l, 1) := by decide +kernel
theorem dX2_gather_64 : decode cX2_gather 64 = .ok (.lmul, 1) := by decide +kernel
theorem dX2_gather_65 : decode cX2_gather 65 = .ok (.aload_n 1, 1) := by decide +kernel
theorem dX2_gather_66 : decode cX2_gather 66 = .ok (.getfield 25, 3) := by decide +kernel
theorem dX2_gather_69 : decode cX2_gather 69 = .ok (.iconst 3, 1) := by decide +kernel
theorem dX2_gather_70 : decode cX2_gather 70 = .ok (.iaload, 1) := by decide +kernel
theorem dX2_gather_71 : decode cX2_gather 71 = .ok (.i2l, 1) := by decide +kernel
theorem dX2_gather_72 : decode cX2_gather 72 = .ok (.ladd, 1) := by decide +kernel
theorem dX2_gather_73 : decode cX2_gather 73 = .ok (.lstore 8, 2) := by decide +kernel
theorem dX2_gather_75 : decode cX2_gather 75 = .ok (.aload_n 0, 1) := by decide +kernel
theorem dX2_gather_76 : decode cX2_gather 76 = .ok (.iload 7, 2) := by decide +kernel
theorem dX2_gather_78 : decode cX2_gather 78 = .ok (.lload 8, 2) := by decide +kernel
theorem dX2_gather_80 : decode cX2_gather 80 = .ok (.ldc2_w 40, 3) := by decide +kernel
theorem dX2_gather_83 : decode cX2_gather 83 = .ok (.lrem, 1) := by decide +kernel
theorem dX2_gather_84 : decode cX2_gather 84 = .ok (.l2i, 1) := by decide +kernel
theorem dX2_gather_85 : decode cX2_gather 85 = .ok (.invokevirtual 42, 3) := by decide +kernel
theorem dX2_gather_88 : decode cX2_gather 88 = .ok (.iinc 6 1, 3) := by decide +kernel
theorem dX2_gather_91 : decode cX2_gather 91 = .ok (.goto (-59), 3) := by decide +kernel
theorem dX2_gather_94 : decode cX2_gather 94 = .ok (.return_, 1) := by decide +kernel
theorem dX2_valueAt_0 : decode cX2_valueAt 0 = .ok (.iload_n 1, 1) := by decide +kernel
theorem dX2_valueAt_1 : decode cX2_valueAt 1 = .ok (.ifCond .lt 20, 3) := by decide +kernel
theorem dX2_valueAt_4 : decode cX2_valueAt 4 = .ok (.iload_n 1, 1) := by decide +kernel
theorem dX2_valueAt_5 : decode cX2_valueAt 5 = .ok (.aload_n 0, 1) := by decide +kernel
theorem dX2_valueAt_6 : decode cX2_valueAt 6 = .ok (.getfield 21, 3) := by decide +kernel
theorem dX2_valueAt_9 : decode cX2_valueAt 9 = .ok (.if_icmp .ge 12, 3) := by decide +kernel
theorem dX2_valueAt_12 : decode cX2_valueAt 12 = .ok (.aload_n 0, 1) := by decide +kernel
theorem dX2_valueAt_13 : decode cX2_valueAt 13 = .ok (.getfield 9, 3) := by decide +kernel
theorem dX2_valueAt_16 : decode cX2_valueAt 16 = .ok (.iload_n 1, 1) := by decide +kernel
theorem dX2_valueAt_17 : decode cX2_valueAt 17 = .ok (.iaload, 1) := by decide +kernel
theorem dX2_valueAt_18 : decode cX2_valueAt 18 = .ok (.goto 5, 3) := by decide +kernel
theorem dX2_valueAt_21 : decode cX2_valueAt 21 = .ok (.ldc 46, 2) := by decide +kernel
theorem dX2_valueAt_23 : decode cX2_valueAt 23 = .ok (.ireturn, 1) := by decide +kernel
theorem dX2_codeAt_0 : decode cX2_codeAt 0 = .ok (.iconst 0, 1) := by decide +kernel
theorem dX2_codeAt_1 : decode cX2_codeAt 1 = .ok (.istore_n 3, 1) := by decide +kernel
theorem dX2_codeAt_2 : decode cX2_codeAt 2 = .ok (.iconst 0, 1) := by decide +kernel
theorem dX2_codeAt_3 : decode cX2_codeAt 3 = .ok (.istore 4, 2) := by decide +kernel
theorem dX2_codeAt_5 : decode cX2_codeAt 5 = .ok (.iload 4, 2) := by decide +kernel
theorem dX2_codeAt_7 : decode cX2_codeAt 7 = .ok (.iload_n 2, 1) := by decide +kernel
theorem dX2_codeAt_8 : decode cX2_codeAt 8 = .ok (.if_icmp .ge 21, 3) := by decide +kernel
theorem dX2_codeAt_11 : decode cX2_codeAt 11 = .ok (.iload_n 3, 1) := by decide +kernel
theorem dX2_codeAt_12 : decode cX2_codeAt 12 = .ok (.bipush 27, 2) := by decide +kernel
theorem dX2_codeAt_14 : decode cX2_codeAt 14 = .ok (.imul, 1) := by decide +kernel
theorem dX2_codeAt_15 : decode cX2_codeAt 15 = .ok (.aload_n 0, 1) := by decide +kernel
theorem dX2_codeAt_16 : decode cX2_codeAt 16 = .ok (.iload_n 1, 1) := by decide +kernel
theorem dX2_codeAt_17 : decode cX2_codeAt 17 = .ok (.iload 4, 2) := by decide +kernel
theorem dX2_codeAt_19 : decode cX2_codeAt 19 = .ok (.iadd, 1) := by decide +kernel
theorem dX2_codeAt_20 : decode cX2_codeAt 20 = .ok (.iaload, 1) := by decide +kernel
theorem dX2_codeAt_21 : decode cX2_codeAt 21 = .ok (.iadd, 1) := by decide +kernel
theorem dX2_codeAt_22 : decode cX2_codeAt 22 = .ok (.istore_n 3, 1) := by decide +kernel
theorem dX2_codeAt_23 : decode cX2_codeAt 23 = .ok (.iinc 4 1, 3) := by decide +kernel
theorem dX2_codeAt_26 : decode cX2_codeAt 26 = .ok (.goto (-21), 3) := by decide +kernel
theorem dX2_codeAt_29 : decode cX2_codeAt 29 = .ok (.iload_n 3, 1) := by decide +kernel
theorem dX2_codeAt_30 : decode cX2_codeAt 30 = .ok (.ireturn, 1) := by decide +kernel
set_option maxRecDepth 20000 in
theorem ggX2_enter_X2_valueAt : GoodIn wsX2_enter wsX2_valueAt := goodIn_r _ [13, 1, 2, 14, 15, 16, 17, 18] (by decide +kernel) (by decide +kernel)
set_option maxRecDepth 20000 in
theorem gX2_enter_X2_valueAt : GoodIn wsX2_enter (wsV RX2 47 RX2 yX2_valueAt wsX2_valueAt) := goodIn_app (goodIn_of _ (by decide +kernel)) ggX2_enter_X2_valueAt
theorem dX2_enter_0 : decode cX2_enter 0 = .ok (.iconst 0, 1) := by decide +kernel
theorem dX2_enter_1 : decode cX2_enter 1 = .ok (.istore_n 3, 1) := by decide +kernel
theorem dX2_enter_2 : decode cX2_enter 2 = .ok (.iload_n 3, 1) := by decide +kernel
theorem dX2_enter_3 : decode cX2_enter 3 = .ok (.aload_n 0, 1) := by decide +kernel
theorem dX2_enter_4 : decode cX2_enter 4 = .ok (.getfield 21, 3) := by decide +kernel
theorem dX2_enter_7 : decode cX2_enter 7 = .ok (.if_icmp .ge 19, 3) := by decide +kernel
theorem dX2_enter_10 : decode cX2_enter 10 = .ok (.aload_n 0, 1) := by decide +kernel
theorem dX2_enter_11 : decode cX2_enter 11 = .ok (.getfield 9, 3) := by decide +kernel
theorem dX2_enter_14 : decode cX2_enter 14 = .ok (.iload_n 3, 1) := by decide +kernel
theorem dX2_enter_15 : decode cX2_enter 15 = .ok (.iaload, 1) := by decide +kernel
theorem dX2_enter_16 : decode cX2_enter 16 = .ok (.iload_n 2, 1) := by decide +kernel
theorem dX2_enter_17 : decode cX2_enter 17 = .ok (.if_icmp .ge 9, 3) := by decide +kernel
theorem dX2_enter_20 : decode cX2_enter 20 = .ok (.iinc 3 1, 3) := by decide +kernel
theorem dX2_enter_23 : decode cX2_enter 23 = .ok (.goto (-21), 3) := by decide +kernel
theorem dX2_enter_26 : decode cX2_enter 26 = .ok (.aload_n 0, 1) := by decide +kernel
theorem dX2_enter_27 : decode cX2_enter 27 = .ok (.iload_n 3, 1) := by decide +kernel
theorem dX2_enter_28 : decode cX2_enter 28 = .ok (.invokevirtual 47, 3) := by decide +kernel
theorem dX2_enter_31 : decode cX2_enter 31 = .ok (.iload_n 2, 1) := by decide +kernel
theorem dX2_enter_32 : decode cX2_enter 32 = .ok (.if_icmp .ne 14, 3) := by decide +kernel
theorem dX2_enter_35 : decode cX2_enter 35 = .ok (.aload_n 0, 1) := by decide +kernel
theorem dX2_enter_36 : decode cX2_enter 36 = .ok (.getfield 18, 3) := by decide +kernel
theorem dX2_enter_39 : decode cX2_enter 39 = .ok (.iload_n 3, 1) := by decide +kernel
theorem dX2_enter_40 : decode cX2_enter 40 = .ok (.dup2, 1) := by decide +kernel
theorem dX2_enter_41 : decode cX2_enter 41 = .ok (.iaload, 1) := by decide +kernel
theorem dX2_enter_42 : decode cX2_enter 42 = .ok (.iconst 1, 1) := by decide +kernel
theorem dX2_enter_43 : decode cX2_enter 43 = .ok (.iadd, 1) := by decide +kernel
theorem dX2_enter_44 : decode cX2_enter 44 = .ok (.iastore, 1) := by decide +kernel
theorem dX2_enter_45 : decode cX2_enter 45 = .ok (.return_, 1) := by decide +kernel
theorem dX2_enter_46 : decode cX2_enter 46 = .ok (.aload_n 0, 1) := by decide +kernel
theorem dX2_enter_47 : decode cX2_enter 47 = .ok (.getfield 21, 3) := by decide +kernel
theorem dX2_enter_50 : decode cX2_enter 50 = .ok (.bipush 64, 2) := by decide +kernel
theorem dX2_enter_52 : decode cX2_enter 52 = .ok (.if_icmp .lt 4, 3) := by decide +kernel
theorem dX2_enter_55 : decode cX2_enter 55 = .ok (.return_, 1) := by decide +kernel
theorem dX2_enter_56 : decode cX2_enter 56 = .ok (.aload_n 0, 1) := by decide +kernel
theorem dX2_enter_57 : decode cX2_enter 57 = .ok (.getfield 9, 3) := by decide +kernel
theorem dX2_enter_60 : decode cX2_enter 60 = .ok (.iload_n 3, 1) := by decide +kernel
theorem dX2_enter_61 : decode cX2_enter 61 = .ok (.aload_n 0, 1) := by decide +kernel
theorem dX2_enter_62 : decode cX2_enter 62 = .ok (.getfield 9, 3) := by decide +kernel
theorem dX2_enter_65 : decode cX2_enter 65 = .ok (.iload_n 3, 1) := by decide +kernel
theorem dX2_enter_66 : decode cX2_enter 66 = .ok (.iconst 1, 1) := by decide +kernel
theorem dX2_enter_67 : decode cX2_enter 67 = .ok (.iadd, 1) := by decide +kernel
theorem dX2_enter_68 : decode cX2_enter 68 = .ok (.aload_n 0, 1) := by decide +kernel
theorem dX2_enter_69 : decode cX2_enter 69 = .ok (.getfield 21, 3) := by decide +kernel
theorem dX2_enter_72 : decode cX2_enter 72 = .ok (.iload_n 3, 1) := by decide +kernel
theorem dX2_enter_73 : decode cX2_enter 73 = .ok (.isub, 1) := by decide +kernel
theorem dX2_enter_74 : decode cX2_enter 74 = .ok (.invokestatic 51, 3) := by decide +kernel
theorem dX2_enter_77 : decode cX2_enter 77 = .ok (.aload_n 0, 1) := by decide +kernel
theorem dX2_enter_78 : decode cX2_enter 78 = .ok (.getfield 15, 3) := by decide +kernel
theorem dX2_enter_81 : decode cX2_enter 81 = .ok (.iload_n 3, 1) := by decide +kernel
theorem dX2_enter_82 : decode cX2_enter 82 = .ok (.aload_n 0, 1) := by decide +kernel
theorem dX2_enter_83 : decode cX2_enter 83 = .ok (.getfield 15, 3) := by decide +kernel
theorem dX2_enter_86 : decode cX2_enter 86 = .ok (.iload_n 3, 1) := by decide +kernel
theorem dX2_enter_87 : decode cX2_enter 87 = .ok (.iconst 1, 1) := by decide +kernel
theorem dX2_enter_88 : decode cX2_enter 88 = .ok (.iadd, 1) := by decide +kernel
theorem dX2_enter_89 : decode cX2_enter 89 = .ok (.aload_n 0, 1) := by decide +kernel
theorem dX2_enter_90 : decode cX2_enter 90 = .ok (.getfield 21, 3) := by decide +kernel
theorem dX2_enter_93 : decode cX2_enter 93 = .ok (.iload_n 3, 1) := by decide +kernel
theorem dX2_enter_94 : decode cX2_enter 94 = .ok (.isub, 1) := by decide +kernel
theorem dX2_enter_95 : decode cX2_enter 95 = .ok (.invokestatic 51, 3) := by decide +kernel
theorem dX2_enter_98 : decode cX2_enter 98 = .ok (.aload_n 0, 1) := by decide +kernel
theorem dX2_enter_99 : decode cX2_enter 99 = .ok (.getfield 18, 3) := by decide +kernel
theorem dX2_enter_102 : decode cX2_enter 102 = .ok (.iload_n 3, 1) := by decide +kernel
theorem dX2_enter_103 : decode cX2_enter 103 = .ok (.aload_n 0, 1) := by decide +kernel
theorem dX2_enter_104 : decode cX2_enter 104 = .ok (.getfield 18, 3) := by decide +kernel
theorem dX2_enter_107 : decode cX2_enter 107 = .ok (.iload_n 3, 1) := by decide +kernel
theorem dX2_enter_108 : decode cX2_enter 108 = .ok (.iconst 1, 1) := by decide +kernel
theorem dX2_enter_109 : decode cX2_enter 109 = .ok (.iadd, 1) := by decide +kernel
theorem dX2_enter_110 : decode cX2_enter 110 = .ok (.aload_n 0, 1) := by decide +kernel
theorem dX2_enter_111 : decode cX2_enter 111 = .ok (.getfield 21, 3) := by decide +kernel
theorem dX2_enter_114 : decode cX2_enter 114 = .ok (.iload_n 3, 1) := by decide +kernel
theorem dX2_enter_115 : decode cX2_enter 115 = .ok (.isub, 1) := by decide +kernel
theorem dX2_enter_116 : decode cX2_enter 116 = .ok (.invokestatic 51, 3) := by decide +kernel
theorem dX2_enter_119 : decode cX2_enter 119 = .ok (.aload_n 0, 1) := by decide +kernel
theorem dX2_enter_120 : decode cX2_enter 120 = .ok (.getfield 9, 3) := by decide +kernel
theorem dX2_enter_123 : decode cX2_enter 123 = .ok (.iload_n 3, 1) := by decide +kernel
theorem dX2_enter_124 : decode cX2_enter 124 = .ok (.iload_n 2, 1) := by decide +kernel
theorem dX2_enter_125 : decode cX2_enter 125 = .ok (.iastore, 1) := by decide +kernel
theorem dX2_enter_126 : decode cX2_enter 126 = .ok (.aload_n 0, 1) := by decide +kernel
theorem dX2_enter_127 : decode cX2_enter 127 = .ok (.getfield 15, 3) := by decide +kernel
theorem dX2_enter_130 : decode cX2_enter 130 = .ok (.iload_n 3, 1) := by decide +kernel
theorem dX2_enter_131 : decode cX2_enter 131 = .ok (.iload_n 1, 1) := by decide +kernel
theorem dX2_enter_132 : decode cX2_enter 132 = .ok (.iastore, 1) := by decide +kernel
theorem dX2_enter_133 : decode cX2_enter 133 = .ok (.aload_n 0, 1) := by decide +kernel
theorem dX2_enter_134 : decode cX2_enter 134 = .ok (.getfield 18, 3) := by decide +kernel
theorem dX2_enter_137 : decode cX2_enter 137 = .ok (.iload_n 3, 1) := by decide +kernel
theorem dX2_enter_138 : decode cX2_enter 138 = .ok (.iconst 1, 1) := by decide +kernel
theorem dX2_enter_139 : decode cX2_enter 139 = .ok (.iastore, 1) := by decide +kernel
theorem dX2_enter_140 : decode cX2_enter 140 = .ok (.aload_n 0, 1) := by decide +kernel
theorem dX2_enter_141 : decode cX2_enter 141 = .ok (.dup, 1) := by decide +kernel
theorem dX2_enter_142 : decode cX2_enter 142 = .ok (.getfield 21, 3) := by decide +kernel
theorem dX2_enter_145 : decode cX2_enter 145 = .ok (.iconst 1, 1) := by decide +kernel
theorem dX2_enter_146 : decode cX2_enter 146 = .ok (.iadd, 1) := by decide +kernel
theorem dX2_enter_147 : decode cX2_enter 147 = .ok (.putfield 21, 3) := by decide +kernel
theorem dX2_enter_150 : decode cX2_enter 150 = .ok (.return_, 1) := by decide +kernel
set_option maxRecDepth 20000 in
theorem ggX3_init_X1_init : GoodIn wsX3_init wsX1_init := goodIn_r _ [28, 29, 2, 3, 13, 30, 31, 32, 33, 34, 35, 36, 37, 57, 58, 59, 60] (by decide +kernel) (by decide +kernel)
set_option maxRecDepth 20000 in
theorem gX3_init_X1_init : GoodIn wsX3_init (wsX1_init) := ggX3_init_X1_init
set_option maxRecDepth 20000 in
theorem ggX3_init_X0_init : GoodIn wsX3_init wsX0_init := goodIn_r _ [40, 41, 2, 3, 13, 42, 43, 44, 45, 46, 47, 48, 72, 73, 74, 75, 76, 77, 78] (by decide +kernel) (by decide +kernel)
set_option maxRecDepth 20000 in
theorem gX3_init_X0_init : GoodIn wsX3_init (wsX0_init) := ggX3_init_X0_init
set_option maxRecDepth 20000 in
theorem ggX3_init_X2_init : GoodIn wsX3_init wsX2_init := goodIn_r _ [51, 52, 2, 3, 13, 53, 54, 55, 56, 79, 80, 81, 82] (by decide +kernel) (by decide +kernel)
set_option maxRecDepth 20000 in
theorem gX3_init_X2_init : GoodIn wsX3_init (wsX2_init) := ggX3_init_X2_init
theorem dX3_init_0 : decode cX3_init 0 = .ok (.aload_n 0, 1) := by decide +kernel
theorem dX3_init_1 : decode cX3_init 1 = .ok (.invokespecial 1, 3) := by decide +kernel
theorem dX3_init_4 : decode cX3_init 4 = .ok (.aload_n 0, 1) := by decide +kernel
theorem dX3_init_5 : decode cX3_init 5 = .ok (.new 7, 3) := by decide +kernel
theorem dX3_init_8 : decode cX3_init 8 = .ok (.dup, 1) := by decide +kernel
theorem dX3_init_9 : decode cX3_init 9 = .ok (.invokespecial 9, 3) := by decide +kernel
theorem dX3_init_12 : decode cX3_init 12 = .ok (.putfield 10, 3) := by decide +kernel
theorem dX3_init_15 : decode cX3_init 15 = .ok (.aload_n 0, 1) := by decide +kernel
theorem dX3_init_16 : decode cX3_init 16 = .ok (.bipush 6, 2) := by decide +kernel
theorem dX3_init_18 : decode cX3_init 18 = .ok (.anewarray 7, 3) := by decide +kernel
theorem dX3_init_21 : decode cX3_init 21 = .ok (.putfield 16, 3) := by decide +kernel
theorem dX3_init_24 : decode cX3_init 24 = .ok (.aload_n 0, 1) := by decide +kernel
theorem dX3_init_25 : decode cX3_init 25 = .ok (.iconst 0, 1) := by decide +kernel
theorem dX3_init_26 : decode cX3_init 26 = .ok (.putfield 20, 3) := by decide +kernel
theorem dX3_init_29 : decode cX3_init 29 = .ok (.aload_n 0, 1) := by decide +kernel
theorem dX3_init_30 : decode cX3_init 30 = .ok (.iconst 2, 1) := by decide +kernel
theorem dX3_init_31 : decode cX3_init 31 = .ok (.anewarray 7, 3) := by decide +kernel
theorem dX3_init_34 : decode cX3_init 34 = .ok (.putfield 24, 3) := by decide +kernel
theorem dX3_init_37 : decode cX3_init 37 = .ok (.aload_n 0, 1) := by decide +kernel
theorem dX3_init_38 : decode cX3_init 38 = .ok (.iconst 2, 1) := by decide +kernel
theorem dX3_init_39 : decode cX3_init 39 = .ok (.newarray .boolean, 2) := by decide +kernel
theorem dX3_init_41 : decode cX3_init 41 = .ok (.putfield 27, 3) := by decide +kernel
theorem dX3_init_44 : decode cX3_init 44 = .ok (.aload_n 0, 1) := by decide +kernel
theorem dX3_init_45 : decode cX3_init 45 = .ok (.bipush 64, 2) := by decide +kernel
theorem dX3_init_47 : decode cX3_init 47 = .ok (.newarray .int, 2) := by decide +kernel
theorem dX3_init_49 : decode cX3_init 49 = .ok (.putfield 31, 3) := by decide +kernel
theorem dX3_init_52 : decode cX3_init 52 = .ok (.aload_n 0, 1) := by decide +kernel
theorem dX3_init_53 : decode cX3_init 53 = .ok (.iconst 0, 1) := by decide +kernel
theorem dX3_init_54 : decode cX3_init 54 = .ok (.putfield 35, 3) := by decide +kernel
theorem dX3_init_57 : decode cX3_init 57 = .ok (.aload_n 0, 1) := by decide +kernel
theorem dX3_init_58 : decode cX3_init 58 = .ok (.bipush 10, 2) := by decide +kernel
theorem dX3_init_60 : decode cX3_init 60 = .ok (.anewarray 38, 3) := by decide +kernel
theorem dX3_init_63 : decode cX3_init 63 = .ok (.putfield 40, 3) := by decide +kernel
theorem dX3_init_66 : decode cX3_init 66 = .ok (.aload_n 0, 1) := by decide +kernel
theorem dX3_init_67 : decode cX3_init 67 = .ok (.bipush 10, 2) := by decide +kernel
theorem dX3_init_69 : decode cX3_init 69 = .ok (.newarray .boolean, 2) := by decide +kernel
theorem dX3_init_71 : decode cX3_init 71 = .ok (.putfield 44, 3) := by decide +kernel
theorem dX3_init_74 : decode cX3_init 74 = .ok (.aload_n 0, 1) := by decide +kernel
theorem dX3_init_75 : decode cX3_init 75 = .ok (.new 47, 3) := by decide +kernel
theorem dX3_init_78 : decode cX3_init 78 = .ok (.dup, 1) := by decide +kernel
theorem dX3_init_79 : decode cX3_init 79 = .ok (.invokespecial 49, 3) := by decide +kernel
theorem dX3_init_82 : decode cX3_init 82 = .ok (.putfield 50, 3) := by decide +kernel
theorem dX3_init_85 : decode cX3_init 85 = .ok (.aload_n 0, 1) := by decide +kernel
theorem dX3_init_86 : decode cX3_init 86 = .ok (.bipush 10, 2) := by decide +kernel
theorem dX3_init_88 : decode cX3_init 88 = .ok (.newarray .int, 2) := by decide +kernel
theorem dX3_init_90 : decode cX3_init 90 = .ok (.putfield 54, 3) := by decide +kernel
theorem dX3_init_93 : decode cX3_init 93 = .ok (.iconst 0, 1) := by decide +kernel
theorem dX3_init_94 : decode cX3_init 94 = .ok (.istore_n 1, 1) := by decide +kernel
theorem dX3_init_95 : decode cX3_init 95 = .ok (.iload_n 1, 1) := by decide +kernel
theorem dX3_init_96 : decode cX3_init 96 = .ok (.bipush 6, 2) := by decide +kernel
theorem dX3_init_98 : decode cX3_init 98 = .ok (.if_icmp .ge 22, 3) := by decide +kernel
theorem dX3_init_101 : decode cX3_init 101 = .ok (.aload_n 0, 1) := by decide +kernel
theorem dX3_init_102 : decode cX3_init 102 = .ok (.getfield 16, 3) := by decide +kernel
theorem dX3_init_105 : decode cX3_init 105 = .ok (.iload_n 1, 1) := by decide +kernel
theorem dX3_init_106 : decode cX3_init 106 = .ok (.new 7, 3) := by decide +kernel
theorem dX3_init_109 : decode cX3_init 109 = .ok (.dup, 1) := by decide +kernel
theorem dX3_init_110 : decode cX3_init 110 = .ok (.invokespecial 9, 3) := by decide +kernel
theorem dX3_init_113 : decode cX3_init 113 = .ok (.aastore, 1) := by decide +kernel
theorem dX3_init_114 : decode cX3_init 114 = .ok (.iinc 1 1, 3) := by decide +kernel
theorem dX3_init_117 : decode cX3_init 117 = .ok (.goto (-22), 3) := by decide +kernel
theorem dX3_init_120 : decode cX3_init 120 = .ok (.iconst 0, 1) := by decide +kernel
theorem dX3_init_121 : decode cX3_init 121 = .ok (.istore_n 1, 1) := by decide +kernel
theorem dX3_init_122 : decode cX3_init 122 = .ok (.iload_n 1, 1) := by decide +kernel
theorem dX3_init_123 : decode cX3_init 123 = .ok (.iconst 2, 1) := by decide +kernel
theorem dX3_init_124 : decode cX3_init 124 = .ok (.if_icmp .ge 22, 3) := by decide +kernel
theorem dX3_init_127 : decode cX3_init 127 = .ok (.aload_n 0, 1) := by decide +kernel
theorem dX3_init_128 : decode cX3_init 128 = .ok (.getfield 24, 3) := by decide +kernel
theorem dX3_init_131 : decode cX3_init 131 = .ok (.iload_n 1, 1) := by decide +kernel
theorem dX3_init_132 : decode cX3_init 132 = .ok (.new 7, 3) := by decide +kernel
theorem dX3_init_135 : decode cX3_init 135 = .ok (.dup, 1) := by decide +kernel
theorem dX3_init_136 : decode cX3_init 136 = .ok (.invokespecial 9, 3) := by decide +kernel
theorem dX3_init_139 : decode cX3_init 139 = .ok (.aastore, 1) := by decide +kernel
theorem dX3_init_140 : decode cX3_init 140 = .ok (.iinc 1 1, 3) := by decide +kernel
theorem dX3_init_143 : decode cX3_init 143 = .ok (.goto (-21), 3) := by decide +kernel
theorem dX3_init_146 : decode cX3_init 146 = .ok (.iconst 0, 1) := by decide +kernel
theorem dX3_init_147 : decode cX3_init 147 = .ok (.istore_n 1, 1) := by decide +kernel
theorem dX3_init_148 : decode cX3_init 148 = .ok (.iload_n 1, 1) := by decide +kernel
theorem dX3_init_149 : decode cX3_init 149 = .ok (.bipush 10, 2) := by decide +kernel
theorem dX3_init_151 : decode cX3_init 151 = .ok (.if_icmp .ge 22, 3) := by decide +kernel
theorem dX3_init_154 : decode cX3_init 154 = .ok (.aload_n 0, 1) := by decide +kernel
theorem dX3_init_155 : decode cX3_init 155 = .ok (.getfield 40, 3) := by decide +kernel
theorem dX3_init_158 : decode cX3_init 158 = .ok (.iload_n 1, 1) := by decide +kernel
theorem dX3_init_159 : decode cX3_init 159 = .ok (.new 38, 3) := by decide +kernel
theorem dX3_init_162 : decode cX3_init 162 = .ok (.dup, 1) := by decide +kernel
theorem dX3_init_163 : decode cX3_init 163 = .ok (.invokespecial 57, 3) := by decide +kernel
theorem dX3_init_166 : decode cX3_init 166 = .ok (.aastore, 1) := by decide +kernel
theorem dX3_init_167 : decode cX3_init 167 = .ok (.iinc 1 1, 3) := by decide +kernel
theorem dX3_init_170 : decode cX3_init 170 = .ok (.goto (-22), 3) := by decide +kernel
theorem dX3_init_173 : decode cX3_init 173 = .ok (.return_, 1) := by decide +kernel
set_option maxRecDepth 20000 in
theorem ggX3_set_X3_beginChange : GoodIn wsX3_set wsX3_beginChange := goodIn_r _ [9, 10, 11, 3, 12, 13, 14, 8, 15, 16, 17, 18, 19, 20, 21, 22, 23, 24, 25, 26, 27, 28, 29, 30, 31, 32, 33, 34, 35, 36, 37, 38, 39, 40, 41, 42, 43, 44, 45, 46, 47, 48] (by decide +kernel) (by decide +kernel)
set_option maxRecDepth 20000 in
theorem gX3_set_X3_beginChange : GoodIn wsX3_set (wsV RX3 64 RX3 yX3_beginChange wsX3_beginChange) := goodIn_app (goodIn_of _ (by decide +kernel)) ggX3_set_X3_beginChange
theorem dX3_set_0 : decode cX3_set 0 = .ok (.iload_n 1, 1) := by decide +kernel
theorem dX3_set_1 : decode cX3_set 1 = .ok (.ifCond .lt 8, 3) := by decide +kernel
theorem dX3_set_4 : decode cX3_set 4 = .ok (.iload_n 1, 1) := by decide +kernel
theorem dX3_set_5 : decode cX3_set 5 = .ok (.iconst 4, 1) := by decide +kernel
theorem dX3_set_6 : decode cX3_set 6 = .ok (.if_icmp .lt 6, 3) := by decide +kernel
theorem dX3_set_9 : decode cX3_set 9 = .ok (.bipush (-2), 2) := by decide +kernel
theorem dX3_set_11 : decode cX3_set 11 = .ok (.ireturn, 1) := by decide +kernel
theorem dX3_set_12 : decode cX3_set 12 = .ok (.iload_n 2, 1) := by decide +kernel
theorem dX3_set_13 : decode cX3_set 13 = .ok (.getstatic 58, 3) := by decide +kernel
theorem dX3_set_16 : decode cX3_set 16 = .ok (.iload_n 1, 1) := by decide +kernel
theorem dX3_set_17 : decode cX3_set 17 = .ok (.iaload, 1) := by decide +kernel
theorem dX3_set_18 : decode cX3_set 18 = .ok (.if_icmp .lt 12, 3) := by decide +kernel
theorem dX3_set_21 : decode cX3_set 21 = .ok (.iload_n 2, 1) := by decide +kernel
theorem dX3_set_22 : decode cX3_set 22 = .ok (.getstatic 61, 3) := by decide +kernel
theorem dX3_set_25 : decode cX3_set 25 = .ok (.iload_n 1, 1) := by decide +kernel
theorem dX3_set_26 : decode cX3_set 26 = .ok (.iaload, 1) := by decide +kernel
theorem dX3_set_27 : decode cX3_set 27 = .ok (.if_icmp .le 6, 3) := by decide +kernel
theorem dX3_set_30 : decode cX3_set 30 = .ok (.bipush (-2), 2) := by decide +kernel
theorem dX3_set_32 : decode cX3_set 32 = .ok (.ireturn, 1) := by decide +kernel
theorem dX3_set_33 : decode cX3_set 33 = .ok (.aload_n 0, 1) := by decide +kernel
theorem dX3_set_34 : decode cX3_set 34 = .ok (.invokevirtual 64, 3) := by decide +kernel
theorem dX3_set_37 : decode cX3_set 37 = .ok (.aload_n 0, 1) := by decide +kernel
theorem dX3_set_38 : decode cX3_set 38 = .ok (.getfield 10, 3) := by decide +kernel
theorem dX3_set_41 : decode cX3_set 41 = .ok (.getfield 67, 3) := by decide +kernel
theorem dX3_set_44 : decode cX3_set 44 = .ok (.iload_n 1, 1) := by decide +kernel
theorem dX3_set_45 : decode cX3_set 45 = .ok (.iaload, 1) := by decide +kernel
theorem dX3_set_46 : decode cX3_set 46 = .ok (.istore_n 3, 1) := by decide +kernel
theorem dX3_set_47 : decode cX3_set 47 = .ok (.aload_n 0, 1) := by decide +kernel
theorem dX3_set_48 : decode cX3_set 48 = .ok (.getfield 10, 3) := by decide +kernel
theorem dX3_set_51 : decode cX3_set 51 = .ok (.getfield 67, 3) := by decide +kernel
theorem dX3_set_54 : decode cX3_set 54 = .ok (.iload_n 1, 1) := by decide +kernel
theorem dX3_set_55 : decode cX3_set 55 = .ok (.iload_n 2, 1) := by decide +kernel
theorem dX3_set_56 : decode cX3_set 56 = .ok (.iastore, 1) := by decide +kernel
theorem dX3_set_57 : decode cX3_set 57 = .ok (.iload_n 3, 1) := by decide +kernel
theorem dX3_set_58 : decode cX3_set 58 = .ok (.ireturn, 1) := by decide +kernel
set_option maxRecDepth 20000 in
theorem ggX3_add_X3_padFault : GoodIn wsX3_add wsX3_padFault := goodIn_r _ [8, 9, 10, 11, 12, 7, 13, 47, 48, 49, 50, 51, 52, 53, 54, 55, 56, 57] (by decide +kernel) (by decide +kernel)
set_option maxRecDepth 20000 in
theorem gX3_add_X3_padFault : GoodIn wsX3_add (wsV RX3 70 RX3 yX3_padFault wsX3_padFault) := goodIn_app (goodIn_of _ (by decide +kernel)) ggX3_add_X3_padFault
set_option maxRecDepth 20000 in
theorem ggX3_add_X3_beginChange : GoodIn wsX3_add wsX3_beginChange := goodIn_r _ [17, 18, 19, 1, 20, 21, 22, 7, 23, 24, 25, 26, 27, 28, 29, 30, 31, 32, 33, 34, 35, 36, 37, 38, 39, 40, 41, 47, 48, 49, 50, 51, 52, 53, 54, 55, 56, 57, 58, 59, 60, 61] (by decide +kernel) (by decide +kernel)
set_option maxRecDepth 20000 in
theorem gX3_add_X3_beginChange : GoodIn wsX3_add (wsV RX3 64 RX3 yX3_beginChange wsX3_beginChange) := goodIn_app (goodIn_of _ (by decide +kernel)) ggX3_add_X3_beginChange
set_option maxRecDepth 20000 in
theorem ggX3_add_X3_movePadTo : GoodIn wsX3_add wsX3_movePadTo := goodIn_r _ [45, 1, 3, 9, 46, 10, 11, 12, 7, 13, 47, 48, 49, 50, 51, 52, 53, 54, 55, 56, 57, 58, 59, 60, 61] (by decide +kernel) (by decide +kernel)
set_option maxRecDepth 20000 in
theorem gX3_add_X3_movePadTo : GoodIn wsX3_add (wsV RX3 80 RX3 yX3_movePadTo wsX3_movePadTo) := goodIn_app (goodIn_of _ (by decide +kernel)) ggX3_add_X3_movePadTo
theorem dX3_add_0 : decode cX3_add 0 = .ok (.aload_n 0, 1) := by decide +kernel
theorem dX3_add_1 : decode cX3_add 1 = .ok (.invokevirtual 70, 3) := by decide +kernel
theorem dX3_add_4 : decode cX3_add 4 = .ok (.bipush (-6), 2) := by decide +kernel
theorem dX3_add_6 : decode cX3_add 6 = .ok (.if_icmp .eq 6, 3) := by decide +kernel
theorem dX3_add_9 : decode cX3_add 9 = .ok (.bipush (-3), 2) := by decide +kernel
theorem dX3_add_11 : decode cX3_add 11 = .ok (.ireturn, 1) := by decide +kernel
theorem dX3_add_12 : decode cX3_add 12 = .ok (.aload_n 0, 1) := by decide +kernel
theorem dX3_add_13 : decode cX3_add 13 = .ok (.getfield 10, 3) := by decide +kernel
theorem dX3_add_16 : decode cX3_add 16 = .ok (.getfield 74, 3) := by decide +kernel
theorem dX3_add_19 : decode cX3_add 19 = .ok (.bipush 10, 2) := by decide +kernel
theorem dX3_add_21 : decode cX3_add 21 = .ok (.if_icmp .lt 6, 3) := by decide +kernel
theorem dX3_add_24 : decode cX3_add 24 = .ok (.bipush (-4), 2) := by decide +kernel
theorem dX3_add_26 : decode cX3_add 26 = .ok (.ireturn, 1) := by decide +kernel
theorem dX3_add_27 : decode cX3_add 27 = .ok (.aload_n 0, 1) := by decide +kernel
theorem dX3_add_28 : decode cX3_add 28 = .ok (.invokevirtual 64, 3) := by decide +kernel
theorem dX3_add_31 : decode cX3_add 31 = .ok (.aload_n 0, 1) := by decide +kernel
theorem dX3_add_32 : decode cX3_add 32 = .ok (.getfield 10, 3) := by decide +kernel
theorem dX3_add_35 : decode cX3_add 35 = .ok (.getfield 74, 3) := by decide +kernel
theorem dX3_add_38 : decode cX3_add 38 = .ok (.istore_n 1, 1) := by decide +kernel
theorem dX3_add_39 : decode cX3_add 39 = .ok (.aload_n 0, 1) := by decide +kernel
theorem dX3_add_40 : decode cX3_add 40 = .ok (.getfield 10, 3) := by decide +kernel
theorem dX3_add_43 : decode cX3_add 43 = .ok (.dup, 1) := by decide +kernel
theorem dX3_add_44 : decode cX3_add 44 = .ok (.getfield 74, 3) := by decide +kernel
theorem dX3_add_47 : decode cX3_add 47 = .ok (.iconst 1, 1) := by decide +kernel
theorem dX3_add_48 : decode cX3_add 48 = .ok (.iadd, 1) := by decide +kernel
theorem dX3_add_49 : decode cX3_add 49 = .ok (.putfield 74, 3) := by decide +kernel
theorem dX3_add_52 : decode cX3_add 52 = .ok (.aload_n 0, 1) := by decide +kernel
theorem dX3_add_53 : decode cX3_add 53 = .ok (.getfield 10, 3) := by decide +kernel
theorem dX3_add_56 : decode cX3_add 56 = .ok (.getfield 77, 3) := by decide +kernel
theorem dX3_add_59 : decode cX3_add 59 = .ok (.iload_n 1, 1) := by decide +kernel
theorem dX3_add_60 : decode cX3_add 60 = .ok (.iconst 0, 1) := by decide +kernel
theorem dX3_add_61 : decode cX3_add 61 = .ok (.iastore, 1) := by decide +kernel
theorem dX3_add_62 : decode cX3_add 62 = .ok (.aload_n 0, 1) := by decide +kernel
theorem dX3_add_63 : decode cX3_add 63 = .ok (.iload_n 1, 1) := by decide +kernel
theorem dX3_add_64 : decode cX3_add 64 = .ok (.invokevirtual 80, 3) := by decide +kernel
theorem dX3_add_67 : decode cX3_add 67 = .ok (.iload_n 1, 1) := by decide +kernel
theorem dX3_add_68 : decode cX3_add 68 = .ok (.ireturn, 1) := by decide +kernel
set_option maxRecDepth 20000 in
theorem ggX3_append_X3_noRow : GoodIn wsX3_append wsX3_noRow := goodIn_r _ [8, 1, 9, 51, 52, 53, 54, 55, 56, 57, 58, 59, 60, 61, 62, 63, 64, 65] (by decide +kernel) (by decide +kernel)
set_option maxRecDepth 20000 in
theorem gX3_append_X3_noRow : GoodIn wsX3_append (wsV RX3 84 RX3 yX3_noRow wsX3_noRow) := goodIn_app (goodIn_of _ (by decide +kernel)) ggX3_append_X3_noRow
set_option maxRecDepth 20000 in
theorem ggX3_append_X3_padFault : GoodIn wsX3_append wsX3_padFault := goodIn_r _ [13, 3, 14, 15, 16, 7, 17, 51, 52, 53, 54, 55, 56, 57, 58, 59, 60, 61] (by decide +kernel) (by decide +kernel)
set_option maxRecDepth 20000 in
theorem gX3_append_X3_padFault : GoodIn wsX3_append (wsV RX3 70 RX3 yX3_padFault wsX3_padFault) := goodIn_app (goodIn_of _ (by decide +kernel)) ggX3_append_X3_padFault
set_option maxRecDepth 20000 in
theorem ggX3_append_X3_beginChange : GoodIn wsX3_append wsX3_beginChange := goodIn_r _ [21, 22, 23, 1, 24, 25, 26, 7, 27, 28, 29, 30, 31, 32, 33, 34, 35, 36, 37, 38, 39, 40, 41, 42, 43, 44, 45, 51, 52, 53, 54, 55, 56, 57, 58, 59, 60, 61, 62, 63, 64, 65] (by decide +kernel) (by decide +kernel)
set_option maxRecDepth 20000 in
theorem gX3_append_X3_beginChange : GoodIn wsX3_append (wsV RX3 64 RX3 yX3_beginChange wsX3_beginChange) := goodIn_app (goodIn_of _ (by decide +kernel)) ggX3_append_X3_beginChange
set_option maxRecDepth 20000 in
theorem ggX3_append_X3_movePadTo : GoodIn wsX3_append wsX3_movePadTo := goodIn_r _ [49, 1, 2, 3, 50, 14, 15, 16, 7, 17, 51, 52, 53, 54, 55, 56, 57, 58, 59, 60, 61, 62, 63, 64, 65] (by decide +kernel) (by decide +kernel)
set_option maxRecDepth 20000 in
theorem gX3_append_X3_movePadTo : GoodIn wsX3_append (wsV RX3 80 RX3 yX3_movePadTo wsX3_movePadTo) := goodIn_app (goodIn_of _ (by decide +kernel)) ggX3_append_X3_movePadTo
theorem dX3_append_0 : decode cX3_append 0 = .ok (.aload_n 0, 1) := by decide +kernel
theorem dX3_append_1 : decode cX3_append 1 = .ok (.iload_n 1, 1) := by decide +kernel
theorem dX3_append_2 : decode cX3_append 2 = .ok (.invokevirtual 84, 3) := by decide +kernel
theorem dX3_append_5 : decode cX3_append 5 = .ok (.ifCond .eq 5, 3) := by decide +kernel
theorem dX3_append_8 : decode cX3_append 8 = .ok (.iconst (-1), 1) := by decide +kernel
theorem dX3_append_9 : decode cX3_append 9 = .ok (.ireturn, 1) := by decide +kernel
theorem dX3_append_10 : decode cX3_append 10 = .ok (.aload_n 0, 1) := by decide +kernel
theorem dX3_append_11 : decode cX3_append 11 = .ok (.invokevirtual 70, 3) := by decide +kernel
theorem dX3_append_14 : decode cX3_append 14 = .ok (.bipush (-6), 2) := by decide +kernel
theorem dX3_append_16 : decode cX3_append 16 = .ok (.if_icmp .eq 6, 3) := by decide +kernel
theorem dX3_append_19 : decode cX3_append 19 = .ok (.bipush (-3), 2) := by decide +kernel
theorem dX3_append_21 : decode cX3_append 21 = .ok (.ireturn, 1) := by decide +kernel
theorem dX3_append_22 : decode cX3_append 22 = .ok (.aload_n 0, 1) := by decide +kernel
theorem dX3_append_23 : decode cX3_append 23 = .ok (.getfield 10, 3) := by decide +kernel
theorem dX3_append_26 : decode cX3_append 26 = .ok (.getfield 77, 3) := by decide +kernel
theorem dX3_append_29 : decode cX3_append 29 = .ok (.iload_n 1, 1) := by decide +kernel
theorem dX3_append_30 : decode cX3_append 30 = .ok (.iaload, 1) := by decide +kernel
theorem dX3_append_31 : decode cX3_append 31 = .ok (.aload_n 0, 1) := by decide +kernel
theorem dX3_append_32 : decode cX3_append 32 = .ok (.getfield 35, 3) := by decide +kernel
theorem dX3_append_35 : decode cX3_append 35 = .ok (.iadd, 1) := by decide +kernel
theorem dX3_append_36 : decode cX3_append 36 = .ok (.bipush 64, 2) := by decide +kernel
theorem dX3_append_38 : decode cX3_append 38 = .ok (.if_icmp .le 6, 3) := by decide +kernel
theorem dX3_append_41 : decode cX3_append 41 = .ok (.bipush (-4), 2) := by decide +kernel
theorem dX3_append_43 : decode cX3_append 43 = .ok (.ireturn, 1) := by decide +kernel
theorem dX3_append_44 : decode cX3_append 44 = .ok (.aload_n 0, 1) := by decide +kernel
theorem dX3_append_45 : decode cX3_append 45 = .ok (.invokevirtual 64, 3) := by decide +kernel
theorem dX3_append_48 : decode cX3_append 48 = .ok (.aload_n 0, 1) := by decide +kernel
theorem dX3_append_49 : decode cX3_append 49 = .ok (.iload_n 1, 1) := by decide +kernel
theorem dX3_append_50 : decode cX3_append 50 = .ok (.invokevirtual 80, 3) := by decide +kernel
theorem dX3_append_53 : decode cX3_append 53 = .ok (.aload_n 0, 1) := by decide +kernel
theorem dX3_append_54 : decode cX3_append 54 = .ok (.getfield 10, 3) := by decide +kernel
theorem dX3_append_57 : decode cX3_append 57 = .ok (.getfield 77, 3) := by decide +kernel
theorem dX3_append_60 : decode cX3_append 60 = .ok (.iload_n 1, 1) := by decide +kernel
theorem dX3_append_61 : decode cX3_append 61 = .ok (.iaload, 1) := by decide +kernel
theorem dX3_append_62 : decode cX3_append 62 = .ok (.ireturn, 1) := by decide +kernel
set_option maxRecDepth 20000 in
theorem ggX3_change_X3_noPlace : GoodIn wsX3_change wsX3_noPlace := goodIn_r _ [7, 1, 8, 9, 10, 11, 6, 12, 13, 42, 43, 44, 45, 46, 47, 48, 49, 50, 51, 52, 53, 54, 55, 56] (by decide +kernel) (by decide +kernel)
set_option maxRecDepth 20000 in
theorem gX3_change_X3_noPlace : GoodIn wsX3_change (wsV RX3 88 RX3 yX3_noPlace wsX3_noPlace) := goodIn_app (goodIn_of _ (by decide +kernel)) ggX3_change_X3_noPlace
set_option maxRecDepth 20000 in
theorem ggX3_change_X3_beginChange : GoodIn wsX3_change wsX3_beginChange := goodIn_r _ [17, 18, 19, 1, 20, 21, 22, 6, 23, 24, 25, 26, 27, 28, 29, 30, 31, 32, 33, 34, 35, 36, 37, 38, 39, 40, 41, 42, 43, 44, 45, 46, 47, 48, 49, 50, 51, 52, 53, 54, 55, 56] (by decide +kernel) (by decide +kernel)
set_option maxRecDepth 20000 in
theorem gX3_change_X3_beginChange : GoodIn wsX3_change (wsV RX3 64 RX3 yX3_beginChange wsX3_beginChange) := goodIn_app (goodIn_of _ (by decide +kernel)) ggX3_change_X3_beginChange
theorem dX3_change_0 : decode cX3_change 0 = .ok (.aload_n 0, 1) := by decide +kernel
theorem dX3_change_1 : decode cX3_change 1 = .ok (.iload_n 1, 1) := by decide +kernel
theorem dX3_change_2 : decode cX3_change 2 = .ok (.iload_n 2, 1) := by decide +kernel
theorem dX3_change_3 : decode cX3_change 3 = .ok (.invokevirtual 88, 3) := by decide +kernel
theorem dX3_change_6 : decode cX3_change 6 = .ok (.ifCond .eq 5, 3) := by decide +kernel
theorem dX3_change_9 : decode cX3_change 9 = .ok (.iconst (-1), 1) := by decide +kernel
theorem dX3_change_10 : decode cX3_change 10 = .ok (.ireturn, 1) := by decide +kernel
theorem dX3_change_11 : decode cX3_change 11 = .ok (.iload_n 3, 1) := by decide +kernel
theorem dX3_change_12 : decode cX3_change 12 = .ok (.ifCond .lt 9, 3) := by decide +kernel
theorem dX3_change_15 : decode cX3_change 15 = .ok (.iload_n 3, 1) := by decide +kernel
theorem dX3_change_16 : decode cX3_change 16 = .ok (.bipush 26, 2) := by decide +kernel
theorem dX3_change_18 : decode cX3_change 18 = .ok (.if_icmp .le 6, 3) := by decide +kernel
theorem dX3_change_21 : decode cX3_change 21 = .ok (.bipush (-2), 2) := by decide +kernel
theorem dX3_change_23 : decode cX3_change 23 = .ok (.ireturn, 1) := by decide +kernel
theorem dX3_change_24 : decode cX3_change 24 = .ok (.aload_n 0, 1) := by decide +kernel
theorem dX3_change_25 : decode cX3_change 25 = .ok (.invokevirtual 64, 3) := by decide +kernel
theorem dX3_change_28 : decode cX3_change 28 = .ok (.iload_n 1, 1) := by decide +kernel
theorem dX3_change_29 : decode cX3_change 29 = .ok (.bipush 64, 2) := by decide +kernel
theorem dX3_change_31 : decode cX3_change 31 = .ok (.imul, 1) := by decide +kernel
theorem dX3_change_32 : decode cX3_change 32 = .ok (.iload_n 2, 1) := by decide +kernel
theorem dX3_change_33 : decode cX3_change 33 = .ok (.iadd, 1) := by decide +kernel
theorem dX3_change_34 : decode cX3_change 34 = .ok (.istore 4, 2) := by decide +kernel
theorem dX3_change_36 : decode cX3_change 36 = .ok (.aload_n 0, 1) := by decide +kernel
theorem dX3_change_37 : decode cX3_change 37 = .ok (.getfield 10, 3) := by decide +kernel
theorem dX3_change_40 : decode cX3_change 40 = .ok (.getfield 92, 3) := by decide +kernel
theorem dX3_change_43 : decode cX3_change 43 = .ok (.iload 4, 2) := by decide +kernel
theorem dX3_change_45 : decode cX3_change 45 = .ok (.iaload, 1) := by decide +kernel
theorem dX3_change_46 : decode cX3_change 46 = .ok (.istore 5, 2) := by decide +kernel
theorem dX3_change_48 : decode cX3_change 48 = .ok (.aload_n 0, 1) := by decide +kernel
theorem dX3_change_49 : decode cX3_change 49 = .ok (.getfield 10, 3) := by decide +kernel
theorem dX3_change_52 : decode cX3_change 52 = .ok (.getfield 92, 3) := by decide +kernel
theorem dX3_change_55 : decode cX3_change 55 = .ok (.iload 4, 2) := by decide +kernel
theorem dX3_change_57 : decode cX3_change 57 = .ok (.iload_n 3, 1) := by decide +kernel
theorem dX3_change_58 : decode cX3_change 58 = .ok (.iastore, 1) := by decide +kernel
theorem dX3_change_59 : decode cX3_change 59 = .ok (.iload 5, 2) := by decide +kernel
theorem dX3_change_61 : decode cX3_change 61 = .ok (.ireturn, 1) := by decide +kernel
set_option maxRecDepth 20000 in
theorem ggX3_remove_X3_noRow : GoodIn wsX3_remove wsX3_noRow := goodIn_r _ [13, 1, 2, 39, 40, 41, 42, 43, 44, 45, 46, 47, 48, 49, 50, 51, 52, 53] (by decide +kernel) (by decide +kernel)
set_option maxRecDepth 20000 in
theorem gX3_remove_X3_noRow : GoodIn wsX3_remove (wsV RX3 84 RX3 yX3_noRow wsX3_noRow) := goodIn_app (goodIn_of _ (by decide +kernel)) ggX3_remove_X3_noRow
set_option maxRecDepth 20000 in
theorem ggX3_remove_X3_beginChange : GoodIn wsX3_remove wsX3_beginChange := goodIn_r _ [17, 18, 19, 1, 20, 21, 22, 12, 23, 24, 25, 26, 27, 28, 29, 30, 5, 6, 7, 31, 32, 33, 34, 35, 36, 37, 38, 39, 40, 41, 42, 43, 44, 45, 46, 47, 48, 49, 50, 51, 52, 53] (by decide +kernel) (by decide +kernel)
set_option maxRecDepth 20000 in
theorem gX3_remove_X3_beginChange : GoodIn wsX3_remove (wsV RX3 64 RX3 yX3_beginChange wsX3_beginChange) := goodIn_app (goodIn_of _ (by decide +kernel)) ggX3_remove_X3_beginChange
theorem dX3_remove_0 : decode cX3_remove 0 = .ok (.aload_n 0, 1) := by decide +kernel
theorem dX3_remove_1 : decode cX3_remove 1 = .ok (.iload_n 1, 1) := by decide +kernel
theorem dX3_remove_2 : decode cX3_remove 2 = .ok (.invokevirtual 84, 3) := by decide +kernel
theorem dX3_remove_5 : decode cX3_remove 5 = .ok (.ifCond .eq 5, 3) := by decide +kernel
theorem dX3_remove_8 : decode cX3_remove 8 = .ok (.iconst (-1), 1) := by decide +kernel
theorem dX3_remove_9 : decode cX3_remove 9 = .ok (.ireturn, 1) := by decide +kernel
theorem dX3_remove_10 : decode cX3_remove 10 = .ok (.aload_n 0, 1) := by decide +kernel
theorem dX3_remove_11 : decode cX3_remove 11 = .ok (.invokevirtual 64, 3) := by decide +kernel
theorem dX3_remove_14 : decode cX3_remove 14 = .ok (.aload_n 0, 1) := by decide +kernel
theorem dX3_remove_15 : decode cX3_remove 15 = .ok (.getfield 10, 3) := by decide +kernel
theorem dX3_remove_18 : decode cX3_remove 18 = .ok (.getfield 74, 3) := by decide +kernel
theorem dX3_remove_21 : decode cX3_remove 21 = .ok (.iconst 1, 1) := by decide +kernel
theorem dX3_remove_22 : decode cX3_remove 22 = .ok (.isub, 1) := by decide +kernel
theorem dX3_remove_23 : decode cX3_remove 23 = .ok (.iload_n 1, 1) := by decide +kernel
theorem dX3_remove_24 : decode cX3_remove 24 = .ok (.isub, 1) := by decide +kernel
theorem dX3_remove_25 : decode cX3_remove 25 = .ok (.istore_n 2, 1) := by decide +kernel
theorem dX3_remove_26 : decode cX3_remove 26 = .ok (.aload_n 0, 1) := by decide +kernel
theorem dX3_remove_27 : decode cX3_remove 27 = .ok (.getfield 10, 3) := by decide +kernel
theorem dX3_remove_30 : decode cX3_remove 30 = .ok (.getfield 77, 3) := by decide +kernel
theorem dX3_remove_33 : decode cX3_remove 33 = .ok (.iload_n 1, 1) := by decide +kernel
theorem dX3_remove_34 : decode cX3_remove 34 = .ok (.iconst 1, 1) := by decide +kernel
theorem dX3_remove_35 : decode cX3_remove 35 = .ok (.iadd, 1) := by decide +kernel
theorem dX3_remove_36 : decode cX3_remove 36 = .ok (.aload_n 0, 1) := by decide +kernel
theorem dX3_remove_37 : decode cX3_remove 37 = .ok (.getfield 10, 3) := by decide +kernel
theorem dX3_remove_40 : decode cX3_remove 40 = .ok (.getfield 77, 3) := by decide +kernel
theorem dX3_remove_43 : decode cX3_remove 43 = .ok (.iload_n 1, 1) := by decide +kernel
theorem dX3_remove_44 : decode cX3_remove 44 = .ok (.iload_n 2, 1) := by decide +kernel
theorem dX3_remove_45 : decode cX3_remove 45 = .ok (.invokestatic 95, 3) := by decide +kernel
theorem dX3_remove_48 : decode cX3_remove 48 = .ok (.aload_n 0, 1) := by decide +kernel
theorem dX3_remove_49 : decode cX3_remove 49 = .ok (.getfield 10, 3) := by decide +kernel
theorem dX3_remove_52 : decode cX3_remove 52 = .ok (.getfield 92, 3) := by decide +kernel
theorem dX3_remove_55 : decode cX3_remove 55 = .ok (.iload_n 1, 1) := by decide +kernel
theorem dX3_remove_56 : decode cX3_remove 56 = .ok (.iconst 1, 1) := by decide +kernel
theorem dX3_remove_57 : decode cX3_remove 57 = .ok (.iadd, 1) := by decide +kernel
theorem dX3_remove_58 : decode cX3_remove 58 = .ok (.bipush 64, 2) := by decide +kernel
theorem dX3_remove_60 : decode cX3_remove 60 = .ok (.imul, 1) := by decide +kernel
theorem dX3_remove_61 : decode cX3_remove 61 = .ok (.aload_n 0, 1) := by decide +kernel
theorem dX3_remove_62 : decode cX3_remove 62 = .ok (.getfield 10, 3) := by decide +kernel
theorem dX3_remove_65 : decode cX3_remove 65 = .ok (.getfield 92, 3) := by decide +kernel
theorem dX3_remove_68 : decode cX3_remove 68 = .ok (.iload_n 1, 1) := by decide +kernel
theorem dX3_remove_69 : decode cX3_remove 69 = .ok (.bipush 64, 2) := by decide +kernel
theorem dX3_remove_71 : decode cX3_remove 71 = .ok (.imul, 1) := by decide +kernel
theorem dX3_remove_72 : decode cX3_remove 72 = .ok (.iload_n 2, 1) := by decide +kernel
theorem dX3_remove_73 : decode cX3_remove 73 = .ok (.bipush 64, 2) := by decide +kernel
theorem dX3_remove_75 : decode cX3_remove 75 = .ok (.imul, 1) := by decide +kernel
theorem dX3_remove_76 : decode cX3_remove 76 = .ok (.invokestatic 95, 3) := by decide +kernel
theorem dX3_remove_79 : decode cX3_remove 79 = .ok (.aload_n 0, 1) := by decide +kernel
theorem dX3_remove_80 : decode cX3_remove 80 = .ok (.getfield 10, 3) := by decide +kernel
theorem dX3_remove_83 : decode cX3_remove 83 = .ok (.dup, 1) := by decide +kernel
theorem dX3_remove_84 : decode cX3_remove 84 = .ok (.getfield 74, 3) := by decide +kernel
theorem dX3_remove_87 : decode cX3_remove 87 = .ok (.iconst 1, 1) := by decide +kernel
theorem dX3_remove_88 : decode cX3_remove 88 = .ok (.isub, 1) := by decide +kernel
theorem dX3_remove_89 : decode cX3_remove 89 = .ok (.putfield 74, 3) := by decide +kernel
theorem dX3_remove_92 : decode cX3_remove 92 = .ok (.aload_n 0, 1) := by decide +kernel
theorem dX3_remove_93 : decode cX3_remove 93 = .ok (.getfield 10, 3) := by decide +kernel
theorem dX3_remove_96 : decode cX3_remove 96 = .ok (.getfield 74, 3) := by decide +kernel
theorem dX3_remove_99 : decode cX3_remove 99 = .ok (.ireturn, 1) := by decide +kernel
set_option maxRecDepth 20000 in
theorem ggX3_ofRow_X3_noRow : GoodIn wsX3_ofRow wsX3_noRow := goodIn_r _ [8, 1, 9, 59, 60, 61, 62, 63, 64, 65, 66, 67, 68, 69, 70, 71, 72, 73] (by decide +kernel) (by decide +kernel)
set_option maxRecDepth 20000 in
theorem gX3_ofRow_X3_noRow : GoodIn wsX3_ofRow (wsV RX3 84 RX3 yX3_noRow wsX3_noRow) := goodIn_app (goodIn_of _ (by decide +kernel)) ggX3_ofRow_X3_noRow
set_option maxRecDepth 20000 in
theorem ggX3_ofRow_X3_wordsOf : GoodIn wsX3_ofRow wsX3_wordsOf := goodIn_r _ [13, 14, 15, 1, 16, 17, 18, 19, 20, 21, 22, 23, 24, 25, 26, 27, 28, 29, 30, 31, 32, 33, 34, 35, 36, 37, 38, 39, 40, 41, 42, 43, 44, 59, 60, 61, 62, 63, 64, 65, 66, 67, 68, 69, 74, 75, 76, 77, 70, 71, 72, 73] (by decide +kernel) (by decide +kernel)
set_option maxRecDepth 20000 in
theorem gX3_ofRow_X3_wordsOf : GoodIn wsX3_ofRow (wsV RX3 101 RX3 yX3_wordsOf wsX3_wordsOf) := goodIn_app (goodIn_of _ (by decide +kernel)) ggX3_ofRow_X3_wordsOf
set_option maxRecDepth 20000 in
theorem ggX3_ofRow_X3_sampleSize : GoodIn wsX3_ofRow wsX3_sampleSize := goodIn_r _ [48, 3, 1, 49, 50, 51, 52, 53, 10, 11, 12, 7, 13, 14, 15, 16, 17, 18, 19, 20, 21, 22, 23, 24, 25, 26, 27, 28, 29, 30, 31, 32, 33, 34, 35, 36, 37, 38, 39, 40, 41, 42, 43, 44, 74, 75, 76, 77, 59, 60, 61, 62, 63, 64, 65, 66, 67, 68, 69, 70, 71, 72, 73] (by decide +kernel) (by decide +kernel)
set_option maxRecDepth 20000 in
theorem gX3_ofRow_X3_sampleSize : GoodIn wsX3_ofRow (wsV RX3 108 RX3 yX3_sampleSize wsX3_sampleSize) := goodIn_app (goodIn_of _ (by decide +kernel)) ggX3_ofRow_X3_sampleSize
set_option maxRecDepth 20000 in
theorem ggX3_ofRow_X3_greatestOfSample : GoodIn wsX3_ofRow wsX3_greatestOfSample := goodIn_r _ [57, 45, 46, 47, 7, 48, 3, 1, 49, 50, 51, 52, 53, 10, 11, 12, 13, 14, 15, 16, 17, 18, 19, 20, 21, 22, 23, 24, 25, 26, 27, 28, 29, 30, 31, 32, 33, 34, 35, 36, 37, 38, 39, 40, 41, 42, 43, 44, 58, 74, 75, 76, 77, 59, 60, 61, 62, 63, 64, 65, 66, 67, 68, 69, 70, 71, 72, 73] (by decide +kernel) (by decide +kernel)
set_option maxRecDepth 20000 in
theorem gX3_ofRow_X3_greatestOfSample : GoodIn wsX3_ofRow (wsV RX3 112 RX3 yX3_greatestOfSample wsX3_greatestOfSample) := goodIn_app (goodIn_of _ (by decide +kernel)) ggX3_ofRow_X3_greatestOfSample
theorem dX3_ofRow_0 : decode cX3_ofRow 0 = .ok (.aload_n 0, 1) := by decide +kernel
theorem dX3_ofRow_1 : decode cX3_ofRow 1 = .ok (.iload_n 1, 1) := by decide +kernel
theorem dX3_ofRow_2 : decode cX3_ofRow 2 = .ok (.invokevirtual 84, 3) := by decide +kernel
theorem dX3_ofRow_5 : decode cX3_ofRow 5 = .ok (.ifCond .eq 5, 3) := by decide +kernel
theorem dX3_ofRow_8 : decode cX3_ofRow 8 = .ok (.iconst (-1), 1) := by decide +kernel
theorem dX3_ofRow_9 : decode cX3_ofRow 9 = .ok (.ireturn, 1) := by decide +kernel
theorem dX3_ofRow_10 : decode cX3_ofRow 10 = .ok (.iload_n 2, 1) := by decide +kernel
theorem dX3_ofRow_11 : decode cX3_ofRow 11 = .ok (.tableswitch 60 0 3 #[29, 39, 48, 54], 29) := by decide +kernel
theorem dX3_ofRow_40 : decode cX3_ofRow 40 = .ok (.aload_n 0, 1) := by decide +kernel
theorem dX3_ofRow_41 : decode cX3_ofRow 41 = .ok (.getfield 10, 3) := by decide +kernel
theorem dX3_ofRow_44 : decode cX3_ofRow 44 = .ok (.getfield 77, 3) := by decide +kernel
theorem dX3_ofRow_47 : decode cX3_ofRow 47 = .ok (.iload_n 1, 1) := by decide +kernel
theorem dX3_ofRow_48 : decode cX3_ofRow 48 = .ok (.iaload, 1) := by decide +kernel
theorem dX3_ofRow_49 : decode cX3_ofRow 49 = .ok (.ireturn, 1) := by decide +kernel
theorem dX3_ofRow_50 : decode cX3_ofRow 50 = .ok (.aload_n 0, 1) := by decide +kernel
theorem dX3_ofRow_51 : decode cX3_ofRow 51 = .ok (.iload_n 1, 1) := by decide +kernel
theorem dX3_ofRow_52 : decode cX3_ofRow 52 = .ok (.invokevirtual 101, 3) := by decide +kernel
theorem dX3_ofRow_55 : decode cX3_ofRow 55 = .ok (.getfield 105, 3) := by decide +kernel
theorem dX3_ofRow_58 : decode cX3_ofRow 58 = .ok (.ireturn, 1) := by decide +kernel
theorem dX3_ofRow_59 : decode cX3_ofRow 59 = .ok (.aload_n 0, 1) := by decide +kernel
theorem dX3_ofRow_60 : decode cX3_ofRow 60 = .ok (.iload_n 1, 1) := by decide +kernel
theorem dX3_ofRow_61 : decode cX3_ofRow 61 = .ok (.invokevirtual 108, 3) := by decide +kernel
theorem dX3_ofRow_64 : decode cX3_ofRow 64 = .ok (.ireturn, 1) := by decide +kernel
theorem dX3_ofRow_65 : decode cX3_ofRow 65 = .ok (.aload_n 0, 1) := by decide +kernel
theorem dX3_ofRow_66 : decode cX3_ofRow 66 = .ok (.iload_n 1, 1) := by decide +kernel
theorem dX3_ofRow_67 : decode cX3_ofRow 67 = .ok (.invokevirtual 112, 3) := by decide +kernel
theorem dX3_ofRow_70 : decode cX3_ofRow 70 = .ok (.ireturn, 1) := by decide +kernel
theorem dX3_ofRow_71 : decode cX3_ofRow 71 = .ok (.bipush (-2), 2) := by decide +kernel
theorem dX3_ofRow_73 : decode cX3_ofRow 73 = .ok (.ireturn, 1) := by decide +kernel
set_option maxRecDepth 20000 in
theorem ggX3_sign_X3_noPlace : GoodIn wsX3_sign wsX3_noPlace := goodIn_r _ [7, 1, 8, 9, 10, 11, 6, 12, 13, 14, 15, 16, 17, 18, 19, 20, 21, 22, 23, 24, 25, 26, 27, 28] (by decide +kernel) (by decide +kernel)
set_option maxRecDepth 20000 in
theorem gX3_sign_X3_noPlace : GoodIn wsX3_sign (wsV RX3 88 RX3 yX3_noPlace wsX3_noPlace) := goodIn_app (goodIn_of _ (by decide +kernel)) ggX3_sign_X3_noPlace
theorem dX3_sign_0 : decode cX3_sign 0 = .ok (.aload_n 0, 1) := by decide +kernel
theorem dX3_sign_1 : decode cX3_sign 1 = .ok (.iload_n 1, 1) := by decide +kernel
theorem dX3_sign_2 : decode cX3_sign 2 = .ok (.iload_n 2, 1) := by decide +kernel
theorem dX3_sign_3 : decode cX3_sign 3 = .ok (.invokevirtual 88, 3) := by decide +kernel
theorem dX3_sign_6 : decode cX3_sign 6 = .ok (.ifCond .eq 7, 3) := by decide +kernel
theorem dX3_sign_9 : decode cX3_sign 9 = .ok (.iconst (-1), 1) := by decide +kernel
theorem dX3_sign_10 : decode cX3_sign 10 = .ok (.goto 17, 3) := by decide +kernel
theorem dX3_sign_13 : decode cX3_sign 13 = .ok (.aload_n 0, 1) := by decide +kernel
theorem dX3_sign_14 : decode cX3_sign 14 = .ok (.getfield 10, 3) := by decide +kernel
theorem dX3_sign_17 : decode cX3_sign 17 = .ok (.getfield 92, 3) := by decide +kernel
theorem dX3_sign_20 : decode cX3_sign 20 = .ok (.iload_n 1, 1) := by decide +kernel
theorem dX3_sign_21 : decode cX3_sign 21 = .ok (.bipush 64, 2) := by decide +kernel
theorem dX3_sign_23 : decode cX3_sign 23 = .ok (.imul, 1) := by decide +kernel
theorem dX3_sign_24 : decode cX3_sign 24 = .ok (.iload_n 2, 1) := by decide +kernel
theorem dX3_sign_25 : decode cX3_sign 25 = .ok (.iadd, 1) := by decide +kernel
theorem dX3_sign_26 : decode cX3_sign 26 = .ok (.iaload, 1) := by decide +kernel
theorem dX3_sign_27 : decode cX3_sign 27 = .ok (.ireturn, 1) := by decide +kernel
set_option maxRecDepth 20000 in
theorem ggX3_sample_X3_noRow : GoodIn wsX3_sample wsX3_noRow := goodIn_r _ [8, 9, 10, 60, 61, 62, 63, 64, 65, 66, 67, 68, 69, 70, 71, 72, 73, 74] (by decide +kernel) (by decide +kernel)
set_option maxRecDepth 20000 in
theorem gX3_sample_X3_noRow : GoodIn wsX3_sample (wsV RX3 84 RX3 yX3_noRow wsX3_noRow) := goodIn_app (goodIn_of _ (by decide +kernel)) ggX3_sample_X3_noRow
set_option maxRecDepth 20000 in
theorem ggX3_sample_X3_sampleSize : GoodIn wsX3_sample wsX3_sampleSize := goodIn_r _ [14, 15, 9, 16, 17, 18, 19, 20, 21, 22, 23, 7, 24, 25, 26, 27, 28, 29, 30, 31, 32, 33, 34, 35, 36, 37, 38, 39, 40, 41, 42, 43, 44, 45, 46, 47, 48, 49, 50, 51, 52, 53, 54, 55, 56, 57, 58, 59, 60, 61, 62, 63, 64, 65, 66, 67, 68, 69, 70, 71, 72, 73, 74] (by decide +kernel) (by decide +kernel)
set_option maxRecDepth 20000 in
theorem gX3_sample_X3_sampleSize : GoodIn wsX3_sample (wsV RX3 108 RX3 yX3_sampleSize wsX3_sampleSize) := goodIn_app (goodIn_of _ (by decide +kernel)) ggX3_sample_X3_sampleSize
set_option maxRecDepth 20000 in
theorem ggX3_sample_X3_wordsOf : GoodIn wsX3_sample wsX3_wordsOf := goodIn_r _ [24, 25, 26, 9, 27, 28, 29, 30, 31, 32, 33, 34, 35, 36, 37, 38, 39, 40, 41, 42, 43, 44, 45, 46, 47, 48, 49, 50, 51, 52, 53, 54, 55, 60, 61, 62, 63, 64, 65, 66, 67, 68, 69, 70, 56, 57, 58, 59, 71, 72, 73, 74] (by decide +kernel) (by decide +kernel)
set_option maxRecDepth 20000 in
theorem gX3_sample_X3_wordsOf : GoodIn wsX3_sample (wsV RX3 101 RX3 yX3_wordsOf wsX3_wordsOf) := goodIn_app (goodIn_of _ (by decide +kernel)) ggX3_sample_X3_wordsOf
theorem dX3_sample_0 : decode cX3_sample 0 = .ok (.aload_n 0, 1) := by decide +kernel
theorem dX3_sample_1 : decode cX3_sample 1 = .ok (.iload_n 1, 1) := by decide +kernel
theorem dX3_sample_2 : decode cX3_sample 2 = .ok (.invokevirtual 84, 3) := by decide +kernel
theorem dX3_sample_5 : decode cX3_sample 5 = .ok (.ifCond .ne 16, 3) := by decide +kernel
theorem dX3_sample_8 : decode cX3_sample 8 = .ok (.iload_n 2, 1) := by decide +kernel
theorem dX3_sample_9 : decode cX3_sample 9 = .ok (.ifCond .lt 12, 3) := by decide +kernel
theorem dX3_sample_12 : decode cX3_sample 12 = .ok (.iload_n 2, 1) := by decide +kernel
theorem dX3_sample_13 : decode cX3_sample 13 = .ok (.aload_n 0, 1) := by decide +kernel
theorem dX3_sample_14 : decode cX3_sample 14 = .ok (.iload_n 1, 1) := by decide +kernel
theorem dX3_sample_15 : decode cX3_sample 15 = .ok (.invokevirtual 108, 3) := by decide +kernel
theorem dX3_sample_18 : decode cX3_sample 18 = .ok (.if_icmp .lt 5, 3) := by decide +kernel
theorem dX3_sample_21 : decode cX3_sample 21 = .ok (.iconst (-1), 1) := by decide +kernel
theorem dX3_sample_22 : decode cX3_sample 22 = .ok (.ireturn, 1) := by decide +kernel
theorem dX3_sample_23 : decode cX3_sample 23 = .ok (.iload_n 3, 1) := by decide +kernel
theorem dX3_sample_24 : decode cX3_sample 24 = .ok (.tableswitch 61 0 2 #[28, 39, 50], 28) := by decide +kernel
theorem dX3_sample_52 : decode cX3_sample 52 = .ok (.aload_n 0, 1) := by decide +kernel
theorem dX3_sample_53 : decode cX3_sample 53 = .ok (.iload_n 1, 1) := by decide +kernel
theorem dX3_sample_54 : decode cX3_sample 54 = .ok (.invokevirtual 101, 3) := by decide +kernel
theorem dX3_sample_57 : decode cX3_sample 57 = .ok (.getfield 115, 3) := by decide +kernel
theorem dX3_sample_60 : decode cX3_sample 60 = .ok (.iload_n 2, 1) := by decide +kernel
theorem dX3_sample_61 : decode cX3_sample 61 = .ok (.iaload, 1) := by decide +kernel
theorem dX3_sample_62 : decode cX3_sample 62 = .ok (.ireturn, 1) := by decide +kernel
theorem dX3_sample_63 : decode cX3_sample 63 = .ok (.aload_n 0, 1) := by decide +kernel
theorem dX3_sample_64 : decode cX3_sample 64 = .ok (.iload_n 1, 1) := by decide +kernel
theorem dX3_sample_65 : decode cX3_sample 65 = .ok (.invokevirtual 101, 3) := by decide +kernel
theorem dX3_sample_68 : decode cX3_sample 68 = .ok (.getfield 118, 3) := by decide +kernel
theorem dX3_sample_71 : decode cX3_sample 71 = .ok (.iload_n 2, 1) := by decide +kernel
theorem dX3_sample_72 : decode cX3_sample 72 = .ok (.iaload, 1) := by decide +kernel
theorem dX3_sample_73 : decode cX3_sample 73 = .ok (.ireturn, 1) := by decide +kernel
theorem dX3_sample_74 : decode cX3_sample 74 = .ok (.aload_n 0, 1) := by decide +kernel
theorem dX3_sample_75 : decode cX3_sample 75 = .ok (.iload_n 1, 1) := by decide +kernel
theorem dX3_sample_76 : decode cX3_sample 76 = .ok (.invokevirtual 101, 3) := by decide +kernel
theorem dX3_sample_79 : decode cX3_sample 79 = .ok (.getfield 121, 3) := by decide +kernel
theorem dX3_sample_82 : decode cX3_sample 82 = .ok (.iload_n 2, 1) := by decide +kernel
theorem dX3_sample_83 : decode cX3_sample 83 = .ok (.iaload, 1) := by decide +kernel
theorem dX3_sample_84 : decode cX3_sample 84 = .ok (.ireturn, 1) := by decide +kernel
theorem dX3_sample_85 : decode cX3_sample 85 = .ok (.bipush (-2), 2) := by decide +kernel
theorem dX3_sample_87 : decode cX3_sample 87 = .ok (.ireturn, 1) := by decide +kernel
set_option maxRecDepth 20000 in
theorem ggX3_count_X3_wordsOfAll : GoodIn wsX3_count wsX3_wordsOfAll := goodIn_r _ [10, 1, 2, 11, 12, 13, 14, 15, 9, 16, 17, 18, 19, 20, 21, 22, 23, 24, 25, 26, 27, 28, 29, 30, 31, 32, 33, 34, 35, 36, 37, 38, 39, 40, 41, 42, 43, 44, 45, 46, 47, 48, 49, 50, 51, 52, 53, 54, 55, 56, 57, 58, 59, 60, 61, 62, 63, 64, 65, 66, 67, 68, 69, 70, 71, 72, 73, 74, 75, 76, 77, 78, 79] (by decide +kernel) (by decide +kernel)
set_option maxRecDepth 20000 in
theorem gX3_count_X3_wordsOfAll : GoodIn wsX3_count (wsV RX3 124 RX3 yX3_wordsOfAll wsX3_wordsOfAll) := goodIn_app (goodIn_of _ (by decide +kernel)) ggX3_count_X3_wordsOfAll
theorem dX3_count_0 : decode cX3_count 0 = .ok (.iload_n 1, 1) := by decide +kernel
theorem dX3_count_1 : decode cX3_count 1 = .ok (.tableswitch 82 0 7 #[47, 55, 55, 55, 55, 67, 72, 77], 47) := by decide +kernel
theorem dX3_count_48 : decode cX3_count 48 = .ok (.aload_n 0, 1) := by decide +kernel
theorem dX3_count_49 : decode cX3_count 49 = .ok (.getfield 10, 3) := by decide +kernel
theorem dX3_count_52 : decode cX3_count 52 = .ok (.getfield 74, 3) := by decide +kernel
theorem dX3_count_55 : decode cX3_count 55 = .ok (.ireturn, 1) := by decide +kernel
theorem dX3_count_56 : decode cX3_count 56 = .ok (.aload_n 0, 1) := by decide +kernel
theorem dX3_count_57 : decode cX3_count 57 = .ok (.getfield 10, 3) := by decide +kernel
theorem dX3_count_60 : decode cX3_count 60 = .ok (.getfield 67, 3) := by decide +kernel
theorem dX3_count_63 : decode cX3_count 63 = .ok (.iload_n 1, 1) := by decide +kernel
theorem dX3_count_64 : decode cX3_count 64 = .ok (.iconst 1, 1) := by decide +kernel
theorem dX3_count_65 : decode cX3_count 65 = .ok (.isub, 1) := by decide +kernel
theorem dX3_count_66 : decode cX3_count 66 = .ok (.iaload, 1) := by decide +kernel
theorem dX3_count_67 : decode cX3_count 67 = .ok (.ireturn, 1) := by decide +kernel
theorem dX3_count_68 : decode cX3_count 68 = .ok (.aload_n 0, 1) := by decide +kernel
theorem dX3_count_69 : decode cX3_count 69 = .ok (.invokevirtual 124, 3) := by decide +kernel
theorem dX3_count_72 : decode cX3_count 72 = .ok (.ireturn, 1) := by decide +kernel
theorem dX3_count_73 : decode cX3_count 73 = .ok (.aload_n 0, 1) := by decide +kernel
theorem dX3_count_74 : decode cX3_count 74 = .ok (.getfield 35, 3) := by decide +kernel
theorem dX3_count_77 : decode cX3_count 77 = .ok (.ireturn, 1) := by decide +kernel
theorem dX3_count_78 : decode cX3_count 78 = .ok (.aload_n 0, 1) := by decide +kernel
theorem dX3_count_79 : decode cX3_count 79 = .ok (.getfield 20, 3) := by decide +kernel
theorem dX3_count_82 : decode cX3_count 82 = .ok (.ireturn, 1) := by decide +kernel
theorem dX3_count_83 : decode cX3_count 83 = .ok (.bipush (-2), 2) := by decide +kernel
theorem dX3_count_85 : decode cX3_count 85 = .ok (.ireturn, 1) := by decide +kernel
set_option maxRecDepth 20000 in
theorem ggX3_told_X3_noRow : GoodIn wsX3_told wsX3_noRow := goodIn_r _ [7, 1, 8, 101, 102, 103, 104, 105, 106, 107, 108, 109, 110, 111, 112, 113, 114, 115] (by decide +kernel) (by decide +kernel)
set_option maxRecDepth 20000 in
theorem gX3_told_X3_noRow : GoodIn wsX3_told (wsV RX3 84 RX3 yX3_noRow wsX3_noRow) := goodIn_app (goodIn_of _ (by decide +kernel)) ggX3_told_X3_noRow
set_option maxRecDepth 20000 in
theorem ggX3_told_X3_pairOf : GoodIn wsX3_told wsX3_pairOf := goodIn_r _ [12, 13, 14, 15, 16, 6, 17, 18, 19, 1, 20, 21, 22, 23, 24, 25, 26, 27, 28, 29, 30, 31, 32, 33, 34, 35, 36, 37, 38, 39, 40, 41, 42, 43, 44, 45, 46, 47, 48, 49, 50, 51, 52, 53, 54, 55, 56, 57, 58, 59, 60, 61, 62, 63, 101, 102, 103, 104, 105, 106, 107, 108, 109, 110, 111, 116, 117, 118, 119, 112, 113, 114, 115, 120, 121, 122, 123, 124, 125, 126] (by decide +kernel) (by decide +kernel)
set_option maxRecDepth 20000 in
theorem gX3_told_X3_pairOf : GoodIn wsX3_told (wsV RX3 127 RX3 yX3_pairOf wsX3_pairOf) := goodIn_app (goodIn_of _ (by decide +kernel)) ggX3_told_X3_pairOf
set_option maxRecDepth 20000 in
theorem ggX3_told_X0_commonWords : GoodIn wsX3_told wsX0_commonWords := goodIn_r _ [67, 57, 68, 69, 70, 71, 72, 73, 74, 120, 121, 122, 123, 124, 125, 126] (by decide +kernel) (by decide +kernel)
set_option maxRecDepth 20000 in
theorem gX3_told_X0_commonWords : GoodIn wsX3_told (wsV RX3 131 RX0 yX0_commonWords wsX0_commonWords) := goodIn_app (goodIn_of _ (by decide +kernel)) ggX3_told_X0_commonWords
set_option maxRecDepth 20000 in
theorem ggX3_told_X0_leastCommon : GoodIn wsX3_told wsX0_leastCommon := goodIn_r _ [78, 62, 79, 65, 66, 52, 67, 57, 68, 69, 70, 71, 72, 73, 74, 120, 121, 122, 123, 124, 125, 126] (by decide +kernel) (by decide +kernel)
set_option maxRecDepth 20000 in
theorem gX3_told_X0_leastCommon : GoodIn wsX3_told (wsV RX3 134 RX0 yX0_leastCommon wsX0_leastCommon) := goodIn_app (goodIn_of _ (by decide +kernel)) ggX3_told_X0_leastCommon
set_option maxRecDepth 20000 in
theorem ggX3_told_X0_toldShare : GoodIn wsX3_told wsX0_toldShare := goodIn_r _ [83, 84, 76, 77, 52, 78, 62, 79, 65, 66, 67, 57, 68, 69, 70, 71, 72, 73, 74, 85, 6, 86, 120, 121, 122, 123, 124, 125, 126] (by decide +kernel) (by decide +kernel)
set_option maxRecDepth 20000 in
theorem gX3_told_X0_toldShare : GoodIn wsX3_told (wsV RX3 137 RX0 yX0_toldShare wsX0_toldShare) := goodIn_app (goodIn_of _ (by decide +kernel)) ggX3_told_X0_toldShare
set_option maxRecDepth 20000 in
theorem ggX3_told_X0_lowerBound : GoodIn wsX3_told wsX0_lowerBound := goodIn_r _ [90, 55, 56, 84, 76, 77, 52, 78, 62, 79, 65, 66, 67, 57, 68, 69, 70, 71, 72, 73, 74, 85, 6, 86, 120, 121, 122, 123, 124, 125, 126] (by decide +kernel) (by decide +kernel)
set_option maxRecDepth 20000 in
theorem gX3_told_X0_lowerBound : GoodIn wsX3_told (wsV RX3 140 RX0 yX0_lowerBound wsX0_lowerBound) := goodIn_app (goodIn_of _ (by decide +kernel)) ggX3_told_X0_lowerBound
set_option maxRecDepth 20000 in
theorem ggX3_told_X0_upperBound : GoodIn wsX3_told wsX0_upperBound := goodIn_r _ [94, 55, 56, 95, 96, 97, 52, 98, 60, 61, 62, 68, 69, 70, 71, 79, 65, 66, 67, 57, 72, 73, 74, 99, 6, 100, 120, 121, 122, 123, 124, 125, 126] (by decide +kernel) (by decide +kernel)
set_option maxRecDepth 20000 in
theorem gX3_told_X0_upperBound : GoodIn wsX3_told (wsV RX3 143 RX0 yX0_upperBound wsX0_upperBound) := goodIn_app (goodIn_of _ (by decide +kernel)) ggX3_told_X0_upperBound
theorem dX3_told_0 : decode cX3_told 0 = .ok (.aload_n 0, 1) := by decide +kernel
theorem dX3_told_1 : decode cX3_told 1 = .ok (.iload_n 1, 1) := by decide +kernel
theorem dX3_told_2 : decode cX3_told 2 = .ok (.invokevirtual 84, 3) := by decide +kernel
theorem dX3_told_5 : decode cX3_told 5 = .ok (.ifCond .ne 11, 3) := by decide +kernel
theorem dX3_told_8 : decode cX3_told 8 = .ok (.aload_n 0, 1) := by decide +kernel
theorem dX3_told_9 : decode cX3_told 9 = .ok (.iload_n 2, 1) := by decide +kernel
theorem dX3_told_10 : decode cX3_told 10 = .ok (.invokevirtual 84, 3) := by decide +kernel
theorem dX3_told_13 : decode cX3_told 13 = .ok (.ifCond .eq 5, 3) := by decide +kernel
theorem dX3_told_16 : decode cX3_told 16 = .ok (.iconst (-1), 1) := by decide +kernel
theorem dX3_told_17 : decode cX3_told 17 = .ok (.ireturn, 1) := by decide +kernel
theorem dX3_told_18 : decode cX3_told 18 = .ok (.aload_n 0, 1) := by decide +kernel
theorem dX3_told_19 : decode cX3_told 19 = .ok (.iload_n 1, 1) := by decide +kernel
theorem dX3_told_20 : decode cX3_told 20 = .ok (.iload_n 2, 1) := by decide +kernel
theorem dX3_told_21 : decode cX3_told 21 = .ok (.invokevirtual 127, 3) := by decide +kernel
theorem dX3_told_24 : decode cX3_told 24 = .ok (.astore 4, 2) := by decide +kernel
theorem dX3_told_26 : decode cX3_told 26 = .ok (.aload_n 0, 1) := by decide +kernel
theorem dX3_told_27 : decode cX3_told 27 = .ok (.getfield 10, 3) := by decide +kernel
theorem dX3_told_30 : decode cX3_told 30 = .ok (.getfield 67, 3) := by decide +kernel
theorem dX3_told_33 : decode cX3_told 33 = .ok (.iconst 1, 1) := by decide +kernel
theorem dX3_told_34 : decode cX3_told 34 = .ok (.iaload, 1) := by decide +kernel
theorem dX3_told_35 : decode cX3_told 35 = .ok (.istore 5, 2) := by decide +kernel
theorem dX3_told_37 : decode cX3_told 37 = .ok (.iload_n 3, 1) := by decide +kernel
theorem dX3_told_38 : decode cX3_told 38 = .ok (.tableswitch 74 0 4 #[34, 42, 50, 58, 66], 34) := by decide +kernel
theorem dX3_told_72 : decode cX3_told 72 = .ok (.aload 4, 2) := by decide +kernel
theorem dX3_told_74 : decode cX3_told 74 = .ok (.iload 5, 2) := by decide +kernel
theorem dX3_told_76 : decode cX3_told 76 = .ok (.invokevirtual 131, 3) := by decide +kernel
theorem dX3_told_79 : decode cX3_told 79 = .ok (.ireturn, 1) := by decide +kernel
theorem dX3_told_80 : decode cX3_told 80 = .ok (.aload 4, 2) := by decide +kernel
theorem dX3_told_82 : decode cX3_told 82 = .ok (.iload 5, 2) := by decide +kernel
theorem dX3_told_84 : decode cX3_told 84 = .ok (.invokevirtual 134, 3) := by decide +kernel
theorem dX3_told_87 : decode cX3_told 87 = .ok (.ireturn, 1) := by decide +kernel
theorem dX3_told_88 : decode cX3_told 88 = .ok (.aload 4, 2) := by decide +kernel
theorem dX3_told_90 : decode cX3_told 90 = .ok (.iload 5, 2) := by decide +kernel
theorem dX3_told_92 : decode cX3_told 92 = .ok (.invokevirtual 137, 3) := by decide +kernel
theorem dX3_told_95 : decode cX3_told 95 = .ok (.ireturn, 1) := by decide +kernel
theorem dX3_told_96 : decode cX3_told 96 = .ok (.aload 4, 2) := by decide +kernel
theorem dX3_told_98 : decode cX3_told 98 = .ok (.iload 5, 2) := by decide +kernel
theorem dX3_told_100 : decode cX3_told 100 = .ok (.invokevirtual 140, 3) := by decide +kernel
theorem dX3_told_103 : decode cX3_told 103 = .ok (.ireturn, 1) := by decide +kernel
theorem dX3_told_104 : decode cX3_told 104 = .ok (.aload 4, 2) := by decide +kernel
theorem dX3_told_106 : decode cX3_told 106 = .ok (.iload 5, 2) := by decide +kernel
theorem dX3_told_108 : decode cX3_told 108 = .ok (.invokevirtual 143, 3) := by decide +kernel
theorem dX3_told_111 : decode cX3_told 111 = .ok (.ireturn, 1) := by decide +kernel
theorem dX3_told_112 : decode cX3_told 112 = .ok (.bipush (-2), 2) := by decide +kernel
theorem dX3_told_114 : decode cX3_told 114 = .ok (.ireturn, 1) := by decide +kernel
set_option maxRecDepth 20000 in
theorem ggX3_exact_X3_noRow : GoodIn wsX3_exact wsX3_noRow := goodIn_r _ [7, 8, 9, 78, 79, 80, 81, 82, 83, 84, 85, 86, 87, 88, 89, 90, 91, 92] (by decide +kernel) (by decide +kernel)
set_option maxRecDepth 20000 in
theorem gX3_exact_X3_noRow : GoodIn wsX3_exact (wsV RX3 84 RX3 yX3_noRow wsX3_noRow) := goodIn_app (goodIn_of _ (by decide +kernel)) ggX3_exact_X3_noRow
set_option maxRecDepth 20000 in
theorem ggX3_exact_X3_pairOf : GoodIn wsX3_exact wsX3_pairOf := goodIn_r _ [13, 14, 15, 16, 17, 6, 18, 19, 20, 8, 21, 22, 23, 24, 25, 26, 27, 28, 29, 30, 31, 32, 33, 34, 35, 36, 37, 38, 39, 40, 41, 42, 43, 44, 45, 46, 47, 48, 49, 50, 51, 52, 53, 54, 55, 56, 57, 58, 59, 60, 61, 62, 63, 64, 78, 79, 80, 81, 82, 83, 84, 85, 86, 87, 88, 93, 94, 95, 96, 89, 90, 91, 92, 71, 72, 73, 74, 75, 76, 77] (by decide +kernel) (by decide +kernel)
set_option maxRecDepth 20000 in
theorem gX3_exact_X3_pairOf : GoodIn wsX3_exact (wsV RX3 127 RX3 yX3_pairOf wsX3_pairOf) := goodIn_app (goodIn_of _ (by decide +kernel)) ggX3_exact_X3_pairOf
set_option maxRecDepth 20000 in
theorem ggX3_exact_X0_trueShare : GoodIn wsX3_exact wsX0_trueShare := goodIn_r _ [68, 59, 58, 69, 6, 70, 71, 72, 73, 74, 75, 76, 77] (by decide +kernel) (by decide +kernel)
set_option maxRecDepth 20000 in
theorem gX3_exact_X0_trueShare : GoodIn wsX3_exact (wsV RX3 152 RX0 yX0_trueShare wsX0_trueShare) := goodIn_app (goodIn_of _ (by decide +kernel)) ggX3_exact_X0_trueShare
theorem dX3_exact_0 : decode cX3_exact 0 = .ok (.aload_n 0, 1) := by decide +kernel
theorem dX3_exact_1 : decode cX3_exact 1 = .ok (.iload_n 1, 1) := by decide +kernel
theorem dX3_exact_2 : decode cX3_exact 2 = .ok (.invokevirtual 84, 3) := by decide +kernel
theorem dX3_exact_5 : decode cX3_exact 5 = .ok (.ifCond .ne 11, 3) := by decide +kernel
theorem dX3_exact_8 : decode cX3_exact 8 = .ok (.aload_n 0, 1) := by decide +kernel
theorem dX3_exact_9 : decode cX3_exact 9 = .ok (.iload_n 2, 1) := by decide +kernel
theorem dX3_exact_10 : decode cX3_exact 10 = .ok (.invokevirtual 84, 3) := by decide +kernel
theorem dX3_exact_13 : decode cX3_exact 13 = .ok (.ifCond .eq 5, 3) := by decide +kernel
theorem dX3_exact_16 : decode cX3_exact 16 = .ok (.iconst (-1), 1) := by decide +kernel
theorem dX3_exact_17 : decode cX3_exact 17 = .ok (.ireturn, 1) := by decide +kernel
theorem dX3_exact_18 : decode cX3_exact 18 = .ok (.aload_n 0, 1) := by decide +kernel
theorem dX3_exact_19 : decode cX3_exact 19 = .ok (.iload_n 1, 1) := by decide +kernel
theorem dX3_exact_20 : decode cX3_exact 20 = .ok (.iload_n 2, 1) := by decide +kernel
theorem dX3_exact_21 : decode cX3_exact 21 = .ok (.invokevirtual 127, 3) := by decide +kernel
theorem dX3_exact_24 : decode cX3_exact 24 = .ok (.astore 4, 2) := by decide +kernel
theorem dX3_exact_26 : decode cX3_exact 26 = .ok (.iload_n 3, 1) := by decide +kernel
theorem dX3_exact_27 : decode cX3_exact 27 = .ok (.tableswitch 43 0 2 #[25, 31, 37], 25) := by decide +kernel
theorem dX3_exact_52 : decode cX3_exact 52 = .ok (.aload 4, 2) := by decide +kernel
theorem dX3_exact_54 : decode cX3_exact 54 = .ok (.getfield 146, 3) := by decide +kernel
theorem dX3_exact_57 : decode cX3_exact 57 = .ok (.ireturn, 1) := by decide +kernel
theorem dX3_exact_58 : decode cX3_exact 58 = .ok (.aload 4, 2) := by decide +kernel
theorem dX3_exact_60 : decode cX3_exact 60 = .ok (.getfield 149, 3) := by decide +kernel
theorem dX3_exact_63 : decode cX3_exact 63 = .ok (.ireturn, 1) := by decide +kernel
theorem dX3_exact_64 : decode cX3_exact 64 = .ok (.aload 4, 2) := by decide +kernel
theorem dX3_exact_66 : decode cX3_exact 66 = .ok (.invokevirtual 152, 3) := by decide +kernel
theorem dX3_exact_69 : decode cX3_exact 69 = .ok (.ireturn, 1) := by decide +kernel
theorem dX3_exact_70 : decode cX3_exact 70 = .ok (.bipush (-2), 2) := by decide +kernel
theorem dX3_exact_72 : decode cX3_exact 72 = .ok (.ireturn, 1) := by decide +kernel
set_option maxRecDepth 20000 in
theorem ggX3_inside_X3_noRow : GoodIn wsX3_inside wsX3_noRow := goodIn_r _ [9, 1, 10, 91, 92, 93, 94, 95, 96, 97, 98, 99, 100, 101, 102, 103, 104, 105] (by decide +kernel) (by decide +kernel)
set_option maxRecDepth 20000 in
theorem gX3_inside_X3_noRow : GoodIn wsX3_inside (wsV RX3 84 RX3 yX3_noRow wsX3_noRow) := goodIn_app (goodIn_of _ (by decide +kernel)) ggX3_inside_X3_noRow
set_option maxRecDepth 20000 in
theorem ggX3_inside_X3_pairOf : GoodIn wsX3_inside wsX3_pairOf := goodIn_r _ [14, 15, 16, 17, 18, 8, 19, 20, 21, 1, 22, 23, 24, 25, 26, 27, 28, 29, 30, 31, 32, 33, 34, 35, 36, 37, 38, 39, 40, 41, 42, 43, 44, 45, 46, 47, 48, 49, 50, 51, 52, 53, 54, 55, 56, 57, 58, 59, 60, 61, 62, 63, 64, 65, 91, 92, 93, 94, 95, 96, 97, 98, 99, 100, 101, 113, 114, 115, 116, 102, 103, 104, 105, 106, 107, 108, 109, 110, 111, 112] (by decide +kernel) (by decide +kernel)
set_option maxRecDepth 20000 in
theorem gX3_inside_X3_pairOf : GoodIn wsX3_inside (wsV RX3 127 RX3 yX3_pairOf wsX3_pairOf) := goodIn_app (goodIn_of _ (by decide +kernel)) ggX3_inside_X3_pairOf
set_option maxRecDepth 20000 in
theorem ggX3_inside_X3_shareDown : GoodIn wsX3_inside wsX3_shareDown := goodIn_r _ [68] (by decide +kernel) (by decide +kernel)
set_option maxRecDepth 20000 in
theorem gX3_inside_X3_shareDown : GoodIn wsX3_inside (va_wsS RX3 158 yX3_shareDown wsX3_shareDown) := goodIn_app (goodIn_of _ (by decide +kernel)) ggX3_inside_X3_shareDown
set_option maxRecDepth 20000 in
theorem ggX3_inside_X0_leastCommon : GoodIn wsX3_inside wsX0_leastCommon := goodIn_r _ [72, 64, 73, 74, 75, 54, 76, 59, 77, 78, 79, 80, 81, 82, 83, 106, 107, 108, 109, 110, 111, 112] (by decide +kernel) (by decide +kernel)
set_option maxRecDepth 20000 in
theorem gX3_inside_X0_leastCommon : GoodIn wsX3_inside (wsV RX3 134 RX0 yX0_leastCommon wsX0_leastCommon) := goodIn_app (goodIn_of _ (by decide +kernel)) ggX3_inside_X0_leastCommon
set_option maxRecDepth 20000 in
theorem ggX3_inside_X0_mostCommon : GoodIn wsX3_inside wsX0_mostCommon := goodIn_r _ [87, 57, 62, 58, 63, 64, 77, 78, 79, 80, 73, 74, 75, 54, 76, 59, 81, 82, 83, 106, 107, 108, 109, 110, 111, 112] (by decide +kernel) (by decide +kernel)
set_option maxRecDepth 20000 in
theorem gX3_inside_X0_mostCommon : GoodIn wsX3_inside (wsV RX3 162 RX0 yX0_mostCommon wsX0_mostCommon) := goodIn_app (goodIn_of _ (by decide +kernel)) ggX3_inside_X0_mostCommon
set_option maxRecDepth 20000 in
theorem ggX3_inside_X3_shareUp : GoodIn wsX3_inside wsX3_shareUp := goodIn_r _ [90] (by decide +kernel) (by decide +kernel)
set_option maxRecDepth 20000 in
theorem gX3_inside_X3_shareUp : GoodIn wsX3_inside (va_wsS RX3 165 yX3_shareUp wsX3_shareUp) := goodIn_app (goodIn_of _ (by decide +kernel)) ggX3_inside_X3_shareUp
theorem dX3_inside_0 : decode cX3_inside 0 = .ok (.aload_n 0, 1) := by decide +kernel
theorem dX3_inside_1 : decode cX3_inside 1 = .ok (.iload_n 1, 1) := by decide +kernel
theorem dX3_inside_2 : decode cX3_inside 2 = .ok (.invokevirtual 84, 3) := by decide +kernel
theorem dX3_inside_5 : decode cX3_inside 5 = .ok (.ifCond .ne 11, 3) := by decide +kernel
theorem dX3_inside_8 : decode cX3_inside 8 = .ok (.aload_n 0, 1) := by decide +kernel
theorem dX3_inside_9 : decode cX3_inside 9 = .ok (.iload_n 2, 1) := by decide +kernel
theorem dX3_inside_10 : decode cX3_inside 10 = .ok (.invokevirtual 84, 3) := by decide +kernel
theorem dX3_inside_13 : decode cX3_inside 13 = .ok (.ifCond .eq 5, 3) := by decide +kernel
theorem dX3_inside_16 : decode cX3_inside 16 = .ok (.iconst (-1), 1) := by decide +kernel
theorem dX3_inside_17 : decode cX3_inside 17 = .ok (.ireturn, 1) := by decide +kernel
theorem dX3_inside_18 : decode cX3_inside 18 = .ok (.aload_n 0, 1) := by decide +kernel
theorem dX3_inside_19 : decode cX3_inside 19 = .ok (.iload_n 1, 1) := by decide +kernel
theorem dX3_inside_20 : decode cX3_inside 20 = .ok (.iload_n 2, 1) := by decide +kernel
theorem dX3_inside_21 : decode cX3_inside 21 = .ok (.invokevirtual 127, 3) := by decide +kernel
theorem dX3_inside_24 : decode cX3_inside 24 = .ok (.astore 4, 2) := by decide +kernel
theorem dX3_inside_26 : decode cX3_inside 26 = .ok (.aload_n 0, 1) := by decide +kernel
theorem dX3_inside_27 : decode cX3_inside 27 = .ok (.getfield 10, 3) := by decide +kernel
theorem dX3_inside_30 : decode cX3_inside 30 = .ok (.getfield 67, 3) := by decide +kernel
theorem dX3_inside_33 : decode cX3_inside 33 = .ok (.iconst 1, 1) := by decide +kernel
theorem dX3_inside_34 : decode cX3_inside 34 = .ok (.iaload, 1) := by decide +kernel
theorem dX3_inside_35 : decode cX3_inside 35 = .ok (.istore 5, 2) := by decide +kernel
theorem dX3_inside_37 : decode cX3_inside 37 = .ok (.iload_n 3, 1) := by decide +kernel
theorem dX3_inside_38 : decode cX3_inside 38 = .ok (.tableswitch 72 0 2 #[26, 40, 56], 26) := by decide +kernel
theorem dX3_inside_64 : decode cX3_inside 64 = .ok (.aload 4, 2) := by decide +kernel
theorem dX3_inside_66 : decode cX3_inside 66 = .ok (.getfield 149, 3) := by decide +kernel
theorem dX3_inside_69 : decode cX3_inside 69 = .ok (.aload 4, 2) := by decide +kernel
theorem dX3_inside_71 : decode cX3_inside 71 = .ok (.getfield 155, 3) := by decide +kernel
theorem dX3_inside_74 : decode cX3_inside 74 = .ok (.invokestatic 158, 3) := by decide +kernel
theorem dX3_inside_77 : decode cX3_inside 77 = .ok (.ireturn, 1) := by decide +kernel
theorem dX3_inside_78 : decode cX3_inside 78 = .ok (.aload 4, 2) := by decide +kernel
theorem dX3_inside_80 : decode cX3_inside 80 = .ok (.iload 5, 2) := by decide +kernel
theorem dX3_inside_82 : decode cX3_inside 82 = .ok (.invokevirtual 134, 3) := by decide +kernel
theorem dX3_inside_85 : decode cX3_inside 85 = .ok (.aload 4, 2) := by decide +kernel
theorem dX3_inside_87 : decode cX3_inside 87 = .ok (.getfield 155, 3) := by decide +kernel
theorem dX3_inside_90 : decode cX3_inside 90 = .ok (.invokestatic 158, 3) := by decide +kernel
theorem dX3_inside_93 : decode cX3_inside 93 = .ok (.ireturn, 1) := by decide +kernel
theorem dX3_inside_94 : decode cX3_inside 94 = .ok (.aload 4, 2) := by decide +kernel
theorem dX3_inside_96 : decode cX3_inside 96 = .ok (.iload 5, 2) := by decide +kernel
theorem dX3_inside_98 : decode cX3_inside 98 = .ok (.invokevirtual 162, 3) := by decide +kernel
theorem dX3_inside_101 : decode cX3_inside 101 = .ok (.aload 4, 2) := by decide +kernel
theorem dX3_inside_103 : decode cX3_inside 103 = .ok (.getfield 155, 3) := by decide +kernel
theorem dX3_inside_106 : decode cX3_inside 106 = .ok (.invokestatic 165, 3) := by decide +kernel
theorem dX3_inside_109 : decode cX3_inside 109 = .ok (.ireturn, 1) := by decide +kernel
theorem dX3_inside_110 : decode cX3_inside 110 = .ok (.bipush (-2), 2) := by decide +kernel
theorem dX3_inside_112 : decode cX3_inside 112 = .ok (.ireturn, 1) := by decide +kernel
set_option maxRecDepth 20000 in
theorem ggX3_nearest_X3_noRow : GoodIn wsX3_nearest wsX3_noRow := goodIn_r _ [8, 1, 2, 89, 90, 91, 92, 93, 94, 95, 96, 97, 98, 99, 100, 101, 102, 103] (by decide +kernel) (by decide +kernel)
set_option maxRecDepth 20000 in
theorem gX3_nearest_X3_noRow : GoodIn wsX3_nearest (wsV RX3 84 RX3 yX3_noRow wsX3_noRow) := goodIn_app (goodIn_of _ (by decide +kernel)) ggX3_nearest_X3_noRow
set_option maxRecDepth 20000 in
theorem ggX3_nearest_X3_pairOf : GoodIn wsX3_nearest wsX3_pairOf := goodIn_r _ [12, 13, 14, 15, 16, 7, 17, 18, 19, 1, 20, 21, 22, 23, 24, 25, 26, 27, 28, 29, 30, 31, 32, 33, 34, 35, 36, 37, 38, 39, 40, 41, 42, 43, 44, 45, 46, 47, 48, 49, 50, 51, 52, 53, 54, 55, 56, 57, 58, 59, 60, 61, 62, 63, 89, 90, 91, 92, 93, 94, 95, 96, 97, 98, 99, 104, 105, 106, 107, 100, 101, 102, 103, 108, 109, 110, 111, 112, 113, 114] (by decide +kernel) (by decide +kernel)
set_option maxRecDepth 20000 in
theorem gX3_nearest_X3_pairOf : GoodIn wsX3_nearest (wsV RX3 127 RX3 yX3_pairOf wsX3_pairOf) := goodIn_app (goodIn_of _ (by decide +kernel)) ggX3_nearest_X3_pairOf
set_option maxRecDepth 20000 in
theorem ggX3_nearest_X0_toldShare : GoodIn wsX3_nearest wsX0_toldShare := goodIn_r _ [67, 68, 69, 70, 52, 71, 62, 72, 73, 74, 75, 57, 76, 77, 78, 79, 80, 81, 82, 83, 7, 84, 108, 109, 110, 111, 112, 113, 114] (by decide +kernel) (by decide +kernel)
set_option maxRecDepth 20000 in
theorem gX3_nearest_X0_toldShare : GoodIn wsX3_nearest (wsV RX3 137 RX0 yX0_toldShare wsX0_toldShare) := goodIn_app (goodIn_of _ (by decide +kernel)) ggX3_nearest_X0_toldShare
set_option maxRecDepth 20000 in
theorem ggX3_nearest_X0_trueShare : GoodIn wsX3_nearest wsX0_trueShare := goodIn_r _ [88, 58, 57, 83, 7, 84, 108, 109, 110, 111, 112, 113, 114] (by decide +kernel) (by decide +kernel)
set_option maxRecDepth 20000 in
theorem gX3_nearest_X0_trueShare : GoodIn wsX3_nearest (wsV RX3 152 RX0 yX0_trueShare wsX0_trueShare) := goodIn_app (goodIn_of _ (by decide +kernel)) ggX3_nearest_X0_trueShare
theorem dX3_nearest_0 : decode cX3_nearest 0 = .ok (.aload_n 0, 1) := by decide +kernel
theorem dX3_nearest_1 : decode cX3_nearest 1 = .ok (.iload_n 1, 1) := by decide +kernel
theorem dX3_nearest_2 : decode cX3_nearest 2 = .ok (.invokevirtual 84, 3) := by decide +kernel
theorem dX3_nearest_5 : decode cX3_nearest 5 = .ok (.ifCond .eq 5, 3) := by decide +kernel
theorem dX3_nearest_8 : decode cX3_nearest 8 = .ok (.iconst (-1), 1) := by decide +kernel
theorem dX3_nearest_9 : decode cX3_nearest 9 = .ok (.ireturn, 1) := by decide +kernel
theorem dX3_nearest_10 : decode cX3_nearest 10 = .ok (.iload_n 2, 1) := by decide +kernel
theorem dX3_nearest_11 : decode cX3_nearest 11 = .ok (.ifCond .eq 11, 3) := by decide +kernel
theorem dX3_nearest_14 : decode cX3_nearest 14 = .ok (.iload_n 2, 1) := by decide +kernel
theorem dX3_nearest_15 : decode cX3_nearest 15 = .ok (.iconst 1, 1) := by decide +kernel
theorem dX3_nearest_16 : decode cX3_nearest 16 = .ok (.if_icmp .eq 6, 3) := by decide +kernel
theorem dX3_nearest_19 : decode cX3_nearest 19 = .ok (.bipush (-2), 2) := by decide +kernel
theorem dX3_nearest_21 : decode cX3_nearest 21 = .ok (.ireturn, 1) := by decide +kernel
theorem dX3_nearest_22 : decode cX3_nearest 22 = .ok (.bipush (-6), 2) := by decide +kernel
theorem dX3_nearest_24 : decode cX3_nearest 24 = .ok (.istore_n 3, 1) := by decide +kernel
theorem dX3_nearest_25 : decode cX3_nearest 25 = .ok (.iconst (-1), 1) := by decide +kernel
theorem dX3_nearest_26 : decode cX3_nearest 26 = .ok (.istore 4, 2) := by decide +kernel
theorem dX3_nearest_28 : decode cX3_nearest 28 = .ok (.iconst 0, 1) := by decide +kernel
theorem dX3_nearest_29 : decode cX3_nearest 29 = .ok (.istore 5, 2) := by decide +kernel
theorem dX3_nearest_31 : decode cX3_nearest 31 = .ok (.iload 5, 2) := by decide +kernel
theorem dX3_nearest_33 : decode cX3_nearest 33 = .ok (.aload_n 0, 1) := by decide +kernel
theorem dX3_nearest_34 : decode cX3_nearest 34 = .ok (.getfield 10, 3) := by decide +kernel
theorem dX3_nearest_37 : decode cX3_nearest 37 = .ok (.getfield 74, 3) := by decide +kernel
theorem dX3_nearest_40 : decode cX3_nearest 40 = .ok (.if_icmp .ge 69, 3) := by decide +kernel
theorem dX3_nearest_43 : decode cX3_nearest 43 = .ok (.iload 5, 2) := by decide +kernel
theorem dX3_nearest_45 : decode cX3_nearest 45 = .ok (.iload_n 1, 1) := by decide +kernel
theorem dX3_nearest_46 : decode cX3_nearest 46 = .ok (.if_icmp .ne 6, 3) := by decide +kernel
theorem dX3_nearest_49 : decode cX3_nearest 49 = .ok (.goto 54, 3) := by decide +kernel
theorem dX3_nearest_52 : decode cX3_nearest 52 = .ok (.aload_n 0, 1) := by decide +kernel
theorem dX3_nearest_53 : decode cX3_nearest 53 = .ok (.iload_n 1, 1) := by decide +kernel
theorem dX3_nearest_54 : decode cX3_nearest 54 = .ok (.iload 5, 2) := by decide +kernel
theorem dX3_nearest_56 : decode cX3_nearest 56 = .ok (.invokevirtual 127, 3) := by decide +kernel
theorem dX3_nearest_59 : decode cX3_nearest 59 = .ok (.astore 6, 2) := by decide +kernel
theorem dX3_nearest_61 : decode cX3_nearest 61 = .ok (.iload_n 2, 1) := by decide +kernel
theorem dX3_nearest_62 : decode cX3_nearest 62 = .ok (.ifCond .ne 20, 3) := by decide +kernel
theorem dX3_nearest_65 : decode cX3_nearest 65 = .ok (.aload 6, 2) := by decide +kernel
theorem dX3_nearest_67 : decode cX3_nearest 67 = .ok (.aload_n 0, 1) := by decide +kernel
theorem dX3_nearest_68 : decode cX3_nearest 68 = .ok (.getfield 10, 3) := by decide +kernel
theorem dX3_nearest_71 : decode cX3_nearest 71 = .ok (.getfield 67, 3) := by decide +kernel
theorem dX3_nearest_74 : decode cX3_nearest 74 = .ok (.iconst 1, 1) := by decide +kernel
theorem dX3_nearest_75 : decode cX3_nearest 75 = .ok (.iaload, 1) := by decide +kernel
theorem dX3_nearest_76 : decode cX3_nearest 76 = .ok (.invokevirtual 137, 3) := by decide +kernel
theorem dX3_nearest_79 : decode cX3_nearest 79 = .ok (.goto 8, 3) := by decide +kernel
theorem dX3_nearest_82 : decode cX3_nearest 82 = .ok (.aload 6, 2) := by decide +kernel
theorem dX3_nearest_84 : decode cX3_nearest 84 = .ok (.invokevirtual 152, 3) := by decide +kernel
theorem dX3_nearest_87 : decode cX3_nearest 87 = .ok (.istore 7, 2) := by decide +kernel
theorem dX3_nearest_89 : decode cX3_nearest 89 = .ok (.iload 7, 2) := by decide +kernel
theorem dX3_nearest_91 : decode cX3_nearest 91 = .ok (.iload 4, 2) := by decide +kernel
theorem dX3_nearest_93 : decode cX3_nearest 93 = .ok (.if_icmp .le 10, 3) := by decide +kernel
theorem dX3_nearest_96 : decode cX3_nearest 96 = .ok (.iload 7, 2) := by decide +kernel
theorem dX3_nearest_98 : decode cX3_nearest 98 = .ok (.istore 4, 2) := by decide +kernel
theorem dX3_nearest_100 : decode cX3_nearest 100 = .ok (.iload 5, 2) := by decide +kernel
theorem dX3_nearest_102 : decode cX3_nearest 102 = .ok (.istore_n 3, 1) := by decide +kernel
theorem dX3_nearest_103 : decode cX3_nearest 103 = .ok (.iinc 5 1, 3) := by decide +kernel
theorem dX3_nearest_106 : decode cX3_nearest 106 = .ok (.goto (-75), 3) := by decide +kernel
theorem dX3_nearest_109 : decode cX3_nearest 109 = .ok (.iload_n 3, 1) := by decide +kernel
theorem dX3_nearest_110 : decode cX3_nearest 110 = .ok (.ireturn, 1) := by decide +kernel
set_option maxRecDepth 20000 in
theorem ggX3_candidates_X3_noRow : GoodIn wsX3_candidates wsX3_noRow := goodIn_r _ [12, 1, 3, 96, 97, 98, 99, 100, 101, 102, 103, 104, 105, 106, 107, 108, 109, 110] (by decide +kernel) (by decide +kernel)
set_option maxRecDepth 20000 in
theorem gX3_candidates_X3_noRow : GoodIn wsX3_candidates (wsV RX3 84 RX3 yX3_noRow wsX3_noRow) := goodIn_app (goodIn_of _ (by decide +kernel)) ggX3_candidates_X3_noRow
set_option maxRecDepth 20000 in
theorem ggX3_candidates_X3_pairOf : GoodIn wsX3_candidates wsX3_pairOf := goodIn_r _ [16, 17, 18, 19, 20, 11, 21, 22, 23, 1, 24, 25, 26, 27, 28, 29, 30, 31, 32, 33, 34, 35, 36, 37, 38, 39, 40, 41, 42, 43, 44, 45, 46, 47, 48, 49, 50, 51, 52, 53, 54, 55, 56, 57, 58, 59, 60, 61, 62, 63, 64, 65, 66, 67, 96, 97, 98, 99, 100, 101, 102, 103, 104, 105, 106, 111, 112, 113, 114, 107, 108, 109, 110, 115, 116, 117, 118, 119, 120, 121] (by decide +kernel) (by decide +kernel)
set_option maxRecDepth 20000 in
theorem gX3_candidates_X3_pairOf : GoodIn wsX3_candidates (wsV RX3 127 RX3 yX3_pairOf wsX3_pairOf) := goodIn_app (goodIn_of _ (by decide +kernel)) ggX3_candidates_X3_pairOf
set_option maxRecDepth 20000 in
theorem ggX3_candidates_X0_lowerBound : GoodIn wsX3_candidates wsX0_lowerBound := goodIn_r _ [71, 59, 60, 72, 73, 74, 56, 75, 66, 76, 77, 78, 79, 61, 80, 81, 6, 82, 83, 5, 7, 84, 11, 85, 115, 116, 117, 118, 119, 120, 121] (by decide +kernel) (by decide +kernel)
set_option maxRecDepth 20000 in
theorem gX3_candidates_X0_lowerBound : GoodIn wsX3_candidates (wsV RX3 140 RX0 yX0_lowerBound wsX0_lowerBound) := goodIn_app (goodIn_of _ (by decide +kernel)) ggX3_candidates_X0_lowerBound
set_option maxRecDepth 20000 in
theorem ggX3_candidates_X0_upperBound : GoodIn wsX3_candidates wsX0_upperBound := goodIn_r _ [89, 59, 60, 90, 91, 92, 56, 93, 64, 65, 66, 80, 81, 6, 82, 76, 77, 78, 79, 61, 83, 5, 7, 94, 11, 95, 115, 116, 117, 118, 119, 120, 121] (by decide +kernel) (by decide +kernel)
set_option maxRecDepth 20000 in
theorem gX3_candidates_X0_upperBound : GoodIn wsX3_candidates (wsV RX3 143 RX0 yX0_upperBound wsX0_upperBound) := goodIn_app (goodIn_of _ (by decide +kernel)) ggX3_candidates_X0_upperBound
theorem dX3_candidates_0 : decode cX3_candidates 0 = .ok (.aload_n 0, 1) := by decide +kernel
theorem dX3_candidates_1 : decode cX3_candidates 1 = .ok (.iload_n 1, 1) := by decide +kernel
theorem dX3_candidates_2 : decode cX3_candidates 2 = .ok (.invokevirtual 84, 3) := by decide +kernel
theorem dX3_candidates_5 : decode cX3_candidates 5 = .ok (.ifCond .eq 5, 3) := by decide +kernel
theorem dX3_candidates_8 : decode cX3_candidates 8 = .ok (.iconst (-1), 1) := by decide +kernel
theorem dX3_candidates_9 : decode cX3_candidates 9 = .ok (.ireturn, 1) := by decide +kernel
theorem dX3_candidates_10 : decode cX3_candidates 10 = .ok (.aload_n 0, 1) := by decide +kernel
theorem dX3_candidates_11 : decode cX3_candidates 11 = .ok (.getfield 10, 3) := by decide +kernel
theorem dX3_candidates_14 : decode cX3_candidates 14 = .ok (.getfield 67, 3) := by decide +kernel
theorem dX3_candidates_17 : decode cX3_candidates 17 = .ok (.iconst 1, 1) := by decide +kernel
theorem dX3_candidates_18 : decode cX3_candidates 18 = .ok (.iaload, 1) := by decide +kernel
theorem dX3_candidates_19 : decode cX3_candidates 19 = .ok (.istore_n 2, 1) := by decide +kernel
theorem dX3_candidates_20 : decode cX3_candidates 20 = .ok (.iconst 0, 1) := by decide +kernel
theorem dX3_candidates_21 : decode cX3_candidates 21 = .ok (.istore_n 3, 1) := by decide +kernel
theorem dX3_candidates_22 : decode cX3_candidates 22 = .ok (.iconst 0, 1) := by decide +kernel
theorem dX3_candidates_23 : decode cX3_candidates 23 = .ok (.istore 4, 2) := by decide +kernel
theorem dX3_candidates_25 : decode cX3_candidates 25 = .ok (.iload 4, 2) := by decide +kernel
theorem dX3_candidates_27 : decode cX3_candidates 27 = .ok (.aload_n 0, 1) := by decide +kernel
theorem dX3_candidates_28 : decode cX3_candidates 28 = .ok (.getfield 10, 3) := by decide +kernel
end
section
theorem dX3_candidates_31 : decode cX3_candidates 31 = .ok (.getfield 74, 3) := by decide +kernel
theorem dX3_candidates_34 : decode cX3_candidates 34 = .ok (.if_icmp .ge 31, 3) := by decide +kernel
theorem dX3_candidates_37 : decode cX3_candidates 37 = .ok (.iload 4, 2) := by decide +kernel
theorem dX3_candidates_39 : decode cX3_candidates 39 = .ok (.iload_n 1, 1) := by decide +kernel
theorem dX3_candidates_40 : decode cX3_candidates 40 = .ok (.if_icmp .eq 19, 3) := by decide +kernel
theorem dX3_candidates_43 : decode cX3_candidates 43 = .ok (.iload_n 3, 1) := by decide +kernel
theorem dX3_candidates_44 : decode cX3_candidates 44 = .ok (.aload_n 0, 1) := by decide +kernel
theorem dX3_candidates_45 : decode cX3_candidates 45 = .ok (.iload_n 1, 1) := by decide +kernel
theorem dX3_candidates_46 : decode cX3_candidates 46 = .ok (.iload 4, 2) := by decide +kernel
theorem dX3_candidates_48 : decode cX3_candidates 48 = .ok (.invokevirtual 127, 3) := by decide +kernel
theorem dX3_candidates_51 : decode cX3_candidates 51 = .ok (.iload_n 2, 1) := by decide +kernel
theorem dX3_candidates_52 : decode cX3_candidates 52 = .ok (.invokevirtual 140, 3) := by decide +kernel
theorem dX3_candidates_55 : decode cX3_candidates 55 = .ok (.invokestatic 168, 3) := by decide +kernel
theorem dX3_candidates_58 : decode cX3_candidates 58 = .ok (.istore_n 3, 1) := by decide +kernel
theorem dX3_candidates_59 : decode cX3_candidates 59 = .ok (.iinc 4 1, 3) := by decide +kernel
theorem dX3_candidates_62 : decode cX3_candidates 62 = .ok (.goto (-37), 3) := by decide +kernel
theorem dX3_candidates_65 : decode cX3_candidates 65 = .ok (.iconst 0, 1) := by decide +kernel
theorem dX3_candidates_66 : decode cX3_candidates 66 = .ok (.istore 4, 2) := by decide +kernel
theorem dX3_candidates_68 : decode cX3_candidates 68 = .ok (.iconst 0, 1) := by decide +kernel
theorem dX3_candidates_69 : decode cX3_candidates 69 = .ok (.istore 5, 2) := by decide +kernel
theorem dX3_candidates_71 : decode cX3_candidates 71 = .ok (.iload 5, 2) := by decide +kernel
theorem dX3_candidates_73 : decode cX3_candidates 73 = .ok (.aload_n 0, 1) := by decide +kernel
theorem dX3_candidates_74 : decode cX3_candidates 74 = .ok (.getfield 10, 3) := by decide +kernel
theorem dX3_candidates_77 : decode cX3_candidates 77 = .ok (.getfield 74, 3) := by decide +kernel
theorem dX3_candidates_80 : decode cX3_candidates 80 = .ok (.if_icmp .ge 39, 3) := by decide +kernel
theorem dX3_candidates_83 : decode cX3_candidates 83 = .ok (.iload 5, 2) := by decide +kernel
theorem dX3_candidates_85 : decode cX3_candidates 85 = .ok (.iload_n 1, 1) := by decide +kernel
theorem dX3_candidates_86 : decode cX3_candidates 86 = .ok (.if_icmp .eq 27, 3) := by decide +kernel
theorem dX3_candidates_89 : decode cX3_candidates 89 = .ok (.aload_n 0, 1) := by decide +kernel
theorem dX3_candidates_90 : decode cX3_candidates 90 = .ok (.iload_n 1, 1) := by decide +kernel
theorem dX3_candidates_91 : decode cX3_candidates 91 = .ok (.iload 5, 2) := by decide +kernel
theorem dX3_candidates_93 : decode cX3_candidates 93 = .ok (.invokevirtual 127, 3) := by decide +kernel
theorem dX3_candidates_96 : decode cX3_candidates 96 = .ok (.iload_n 2, 1) := by decide +kernel
theorem dX3_candidates_97 : decode cX3_candidates 97 = .ok (.invokevirtual 143, 3) := by decide +kernel
theorem dX3_candidates_100 : decode cX3_candidates 100 = .ok (.iload_n 3, 1) := by decide +kernel
theorem dX3_candidates_101 : decode cX3_candidates 101 = .ok (.if_icmp .lt 12, 3) := by decide +kernel
theorem dX3_candidates_104 : decode cX3_candidates 104 = .ok (.iload 4, 2) := by decide +kernel
theorem dX3_candidates_106 : decode cX3_candidates 106 = .ok (.iconst 1, 1) := by decide +kernel
theorem dX3_candidates_107 : decode cX3_candidates 107 = .ok (.iload 5, 2) := by decide +kernel
theorem dX3_candidates_109 : decode cX3_candidates 109 = .ok (.ishl, 1) := by decide +kernel
theorem dX3_candidates_110 : decode cX3_candidates 110 = .ok (.ior, 1) := by decide +kernel
theorem dX3_candidates_111 : decode cX3_candidates 111 = .ok (.istore 4, 2) := by decide +kernel
theorem dX3_candidates_113 : decode cX3_candidates 113 = .ok (.iinc 5 1, 3) := by decide +kernel
theorem dX3_candidates_116 : decode cX3_candidates 116 = .ok (.goto (-45), 3) := by decide +kernel
theorem dX3_candidates_119 : decode cX3_candidates 119 = .ok (.iload 4, 2) := by decide +kernel
theorem dX3_candidates_121 : decode cX3_candidates 121 = .ok (.ireturn, 1) := by decide +kernel
set_option maxRecDepth 20000 in
theorem ggX3_worst_X3_pairOf : GoodIn wsX3_worst wsX3_pairOf := goodIn_r _ [8, 9, 10, 11, 12, 7, 13, 14, 15, 1, 16, 17, 18, 19, 20, 21, 22, 23, 24, 25, 26, 27, 28, 29, 30, 31, 32, 33, 34, 35, 36, 37, 38, 39, 40, 41, 42, 43, 44, 45, 46, 47, 48, 49, 50, 51, 52, 53, 54, 55, 56, 57, 58, 59, 92, 93, 94, 95, 96, 97, 98, 99, 100, 101, 102, 107, 108, 109, 110, 103, 104, 105, 106, 111, 112, 113, 114, 115, 116, 117] (by decide +kernel) (by decide +kernel)
set_option maxRecDepth 20000 in
theorem gX3_worst_X3_pairOf : GoodIn wsX3_worst (wsV RX3 127 RX3 yX3_pairOf wsX3_pairOf) := goodIn_app (goodIn_of _ (by decide +kernel)) ggX3_worst_X3_pairOf
set_option maxRecDepth 20000 in
theorem ggX3_worst_X0_errorOfTold : GoodIn wsX3_worst wsX0_errorOfTold := goodIn_r _ [63, 64, 65, 66, 67, 68, 69, 70, 48, 71, 72, 73, 74, 75, 58, 76, 77, 78, 79, 53, 80, 81, 82, 83, 84, 85, 86, 7, 87, 88, 89, 90, 91, 54, 111, 112, 113, 114, 115, 116, 117] (by decide +kernel) (by decide +kernel)
set_option maxRecDepth 20000 in
theorem gX3_worst_X0_errorOfTold : GoodIn wsX3_worst (wsV RX3 173 RX0 yX0_errorOfTold wsX0_errorOfTold) := goodIn_app (goodIn_of _ (by decide +kernel)) ggX3_worst_X0_errorOfTold
theorem dX3_worst_0 : decode cX3_worst 0 = .ok (.iload_n 1, 1) := by decide +kernel
theorem dX3_worst_1 : decode cX3_worst 1 = .ok (.ifCond .lt 8, 3) := by decide +kernel
theorem dX3_worst_4 : decode cX3_worst 4 = .ok (.iload_n 1, 1) := by decide +kernel
theorem dX3_worst_5 : decode cX3_worst 5 = .ok (.iconst 2, 1) := by decide +kernel
theorem dX3_worst_6 : decode cX3_worst 6 = .ok (.if_icmp .le 6, 3) := by decide +kernel
theorem dX3_worst_9 : decode cX3_worst 9 = .ok (.bipush (-2), 2) := by decide +kernel
theorem dX3_worst_11 : decode cX3_worst 11 = .ok (.ireturn, 1) := by decide +kernel
theorem dX3_worst_12 : decode cX3_worst 12 = .ok (.bipush (-6), 2) := by decide +kernel
theorem dX3_worst_14 : decode cX3_worst 14 = .ok (.istore_n 2, 1) := by decide +kernel
theorem dX3_worst_15 : decode cX3_worst 15 = .ok (.bipush (-6), 2) := by decide +kernel
theorem dX3_worst_17 : decode cX3_worst 17 = .ok (.istore_n 3, 1) := by decide +kernel
theorem dX3_worst_18 : decode cX3_worst 18 = .ok (.bipush (-6), 2) := by decide +kernel
theorem dX3_worst_20 : decode cX3_worst 20 = .ok (.istore 4, 2) := by decide +kernel
theorem dX3_worst_22 : decode cX3_worst 22 = .ok (.iconst 0, 1) := by decide +kernel
theorem dX3_worst_23 : decode cX3_worst 23 = .ok (.istore 5, 2) := by decide +kernel
theorem dX3_worst_25 : decode cX3_worst 25 = .ok (.iload 5, 2) := by decide +kernel
theorem dX3_worst_27 : decode cX3_worst 27 = .ok (.aload_n 0, 1) := by decide +kernel
theorem dX3_worst_28 : decode cX3_worst 28 = .ok (.getfield 10, 3) := by decide +kernel
theorem dX3_worst_31 : decode cX3_worst 31 = .ok (.getfield 74, 3) := by decide +kernel
theorem dX3_worst_34 : decode cX3_worst 34 = .ok (.if_icmp .ge 72, 3) := by decide +kernel
theorem dX3_worst_37 : decode cX3_worst 37 = .ok (.iload 5, 2) := by decide +kernel
theorem dX3_worst_39 : decode cX3_worst 39 = .ok (.iconst 1, 1) := by decide +kernel
theorem dX3_worst_40 : decode cX3_worst 40 = .ok (.iadd, 1) := by decide +kernel
theorem dX3_worst_41 : decode cX3_worst 41 = .ok (.istore 6, 2) := by decide +kernel
theorem dX3_worst_43 : decode cX3_worst 43 = .ok (.iload 6, 2) := by decide +kernel
theorem dX3_worst_45 : decode cX3_worst 45 = .ok (.aload_n 0, 1) := by decide +kernel
theorem dX3_worst_46 : decode cX3_worst 46 = .ok (.getfield 10, 3) := by decide +kernel
theorem dX3_worst_49 : decode cX3_worst 49 = .ok (.getfield 74, 3) := by decide +kernel
theorem dX3_worst_52 : decode cX3_worst 52 = .ok (.if_icmp .ge 48, 3) := by decide +kernel
theorem dX3_worst_55 : decode cX3_worst 55 = .ok (.aload_n 0, 1) := by decide +kernel
theorem dX3_worst_56 : decode cX3_worst 56 = .ok (.iload 5, 2) := by decide +kernel
theorem dX3_worst_58 : decode cX3_worst 58 = .ok (.iload 6, 2) := by decide +kernel
theorem dX3_worst_60 : decode cX3_worst 60 = .ok (.invokevirtual 127, 3) := by decide +kernel
theorem dX3_worst_63 : decode cX3_worst 63 = .ok (.aload_n 0, 1) := by decide +kernel
theorem dX3_worst_64 : decode cX3_worst 64 = .ok (.getfield 10, 3) := by decide +kernel
theorem dX3_worst_67 : decode cX3_worst 67 = .ok (.getfield 67, 3) := by decide +kernel
theorem dX3_worst_70 : decode cX3_worst 70 = .ok (.iconst 1, 1) := by decide +kernel
theorem dX3_worst_71 : decode cX3_worst 71 = .ok (.iaload, 1) := by decide +kernel
theorem dX3_worst_72 : decode cX3_worst 72 = .ok (.invokevirtual 173, 3) := by decide +kernel
theorem dX3_worst_75 : decode cX3_worst 75 = .ok (.istore 7, 2) := by decide +kernel
theorem dX3_worst_77 : decode cX3_worst 77 = .ok (.iload 7, 2) := by decide +kernel
theorem dX3_worst_79 : decode cX3_worst 79 = .ok (.iload 4, 2) := by decide +kernel
theorem dX3_worst_81 : decode cX3_worst 81 = .ok (.if_icmp .le 13, 3) := by decide +kernel
theorem dX3_worst_84 : decode cX3_worst 84 = .ok (.iload 5, 2) := by decide +kernel
theorem dX3_worst_86 : decode cX3_worst 86 = .ok (.istore_n 2, 1) := by decide +kernel
theorem dX3_worst_87 : decode cX3_worst 87 = .ok (.iload 6, 2) := by decide +kernel
theorem dX3_worst_89 : decode cX3_worst 89 = .ok (.istore_n 3, 1) := by decide +kernel
theorem dX3_worst_90 : decode cX3_worst 90 = .ok (.iload 7, 2) := by decide +kernel
theorem dX3_worst_92 : decode cX3_worst 92 = .ok (.istore 4, 2) := by decide +kernel
theorem dX3_worst_94 : decode cX3_worst 94 = .ok (.iinc 6 1, 3) := by decide +kernel
theorem dX3_worst_97 : decode cX3_worst 97 = .ok (.goto (-54), 3) := by decide +kernel
theorem dX3_worst_100 : decode cX3_worst 100 = .ok (.iinc 5 1, 3) := by decide +kernel
theorem dX3_worst_103 : decode cX3_worst 103 = .ok (.goto (-78), 3) := by decide +kernel
theorem dX3_worst_106 : decode cX3_worst 106 = .ok (.iload_n 1, 1) := by decide +kernel
theorem dX3_worst_107 : decode cX3_worst 107 = .ok (.ifCond .ne 7, 3) := by decide +kernel
theorem dX3_worst_110 : decode cX3_worst 110 = .ok (.iload_n 2, 1) := by decide +kernel
theorem dX3_worst_111 : decode cX3_worst 111 = .ok (.goto 14, 3) := by decide +kernel
theorem dX3_worst_114 : decode cX3_worst 114 = .ok (.iload_n 1, 1) := by decide +kernel
theorem dX3_worst_115 : decode cX3_worst 115 = .ok (.iconst 1, 1) := by decide +kernel
theorem dX3_worst_116 : decode cX3_worst 116 = .ok (.if_icmp .ne 7, 3) := by decide +kernel
theorem dX3_worst_119 : decode cX3_worst 119 = .ok (.iload_n 3, 1) := by decide +kernel
theorem dX3_worst_120 : decode cX3_worst 120 = .ok (.goto 5, 3) := by decide +kernel
theorem dX3_worst_123 : decode cX3_worst 123 = .ok (.iload 4, 2) := by decide +kernel
theorem dX3_worst_125 : decode cX3_worst 125 = .ok (.ireturn, 1) := by decide +kernel
set_option maxRecDepth 20000 in
theorem ggX3_bestKept_X3_pairOf : GoodIn wsX3_bestKept wsX3_pairOf := goodIn_r _ [7, 8, 9, 10, 11, 6, 12, 13, 14, 1, 15, 16, 17, 18, 19, 20, 21, 22, 23, 24, 25, 26, 27, 28, 29, 30, 31, 32, 33, 34, 35, 36, 37, 38, 39, 40, 41, 42, 43, 44, 45, 46, 47, 48, 49, 50, 51, 52, 53, 54, 55, 56, 57, 58, 94, 95, 96, 97, 98, 99, 100, 101, 102, 103, 104, 109, 110, 111, 112, 105, 106, 107, 108, 113, 114, 115, 116, 117, 118, 119] (by decide +kernel) (by decide +kernel)
set_option maxRecDepth 20000 in
theorem gX3_bestKept_X3_pairOf : GoodIn wsX3_bestKept (wsV RX3 127 RX3 yX3_pairOf wsX3_pairOf) := goodIn_app (goodIn_of _ (by decide +kernel)) ggX3_bestKept_X3_pairOf
set_option maxRecDepth 20000 in
theorem ggX3_bestKept_X3_keptBeyond : GoodIn wsX3_bestKept wsX3_keptBeyond := goodIn_r _ [61, 62, 63, 64, 47, 65, 66, 67, 68, 69, 70, 71, 72, 73, 74, 75, 76, 77, 57, 78, 79, 80, 81, 52, 82, 83, 84, 85, 86, 87, 88, 6, 89, 90, 91, 92, 93, 53, 113, 114, 115, 116, 117, 118, 119] (by decide +kernel) (by decide +kernel)
set_option maxRecDepth 20000 in
theorem gX3_bestKept_X3_keptBeyond : GoodIn wsX3_bestKept (va_wsS RX3 176 yX3_keptBeyond wsX3_keptBeyond) := goodIn_app (goodIn_of _ (by decide +kernel)) ggX3_bestKept_X3_keptBeyond
theorem dX3_bestKept_0 : decode cX3_bestKept 0 = .ok (.iload_n 1, 1) := by decide +kernel
theorem dX3_bestKept_1 : decode cX3_bestKept 1 = .ok (.ifCond .lt 10, 3) := by decide +kernel
theorem dX3_bestKept_4 : decode cX3_bestKept 4 = .ok (.iload_n 1, 1) := by decide +kernel
theorem dX3_bestKept_5 : decode cX3_bestKept 5 = .ok (.sipush 10000, 3) := by decide +kernel
theorem dX3_bestKept_8 : decode cX3_bestKept 8 = .ok (.if_icmp .le 6, 3) := by decide +kernel
theorem dX3_bestKept_11 : decode cX3_bestKept 11 = .ok (.bipush (-2), 2) := by decide +kernel
theorem dX3_bestKept_13 : decode cX3_bestKept 13 = .ok (.ireturn, 1) := by decide +kernel
theorem dX3_bestKept_14 : decode cX3_bestKept 14 = .ok (.lconst 0, 1) := by decide +kernel
theorem dX3_bestKept_15 : decode cX3_bestKept 15 = .ok (.lstore_n 2, 1) := by decide +kernel
theorem dX3_bestKept_16 : decode cX3_bestKept 16 = .ok (.iconst 0, 1) := by decide +kernel
theorem dX3_bestKept_17 : decode cX3_bestKept 17 = .ok (.istore 4, 2) := by decide +kernel
theorem dX3_bestKept_19 : decode cX3_bestKept 19 = .ok (.iload 4, 2) := by decide +kernel
theorem dX3_bestKept_21 : decode cX3_bestKept 21 = .ok (.aload_n 0, 1) := by decide +kernel
theorem dX3_bestKept_22 : decode cX3_bestKept 22 = .ok (.getfield 10, 3) := by decide +kernel
theorem dX3_bestKept_25 : decode cX3_bestKept 25 = .ok (.getfield 74, 3) := by decide +kernel
theorem dX3_bestKept_28 : decode cX3_bestKept 28 = .ok (.if_icmp .ge 48, 3) := by decide +kernel
theorem dX3_bestKept_31 : decode cX3_bestKept 31 = .ok (.iload 4, 2) := by decide +kernel
theorem dX3_bestKept_33 : decode cX3_bestKept 33 = .ok (.iconst 1, 1) := by decide +kernel
theorem dX3_bestKept_34 : decode cX3_bestKept 34 = .ok (.iadd, 1) := by decide +kernel
theorem dX3_bestKept_35 : decode cX3_bestKept 35 = .ok (.istore 5, 2) := by decide +kernel
theorem dX3_bestKept_37 : decode cX3_bestKept 37 = .ok (.iload 5, 2) := by decide +kernel
theorem dX3_bestKept_39 : decode cX3_bestKept 39 = .ok (.aload_n 0, 1) := by decide +kernel
theorem dX3_bestKept_40 : decode cX3_bestKept 40 = .ok (.getfield 10, 3) := by decide +kernel
theorem dX3_bestKept_43 : decode cX3_bestKept 43 = .ok (.getfield 74, 3) := by decide +kernel
theorem dX3_bestKept_46 : decode cX3_bestKept 46 = .ok (.if_icmp .ge 24, 3) := by decide +kernel
theorem dX3_bestKept_49 : decode cX3_bestKept 49 = .ok (.lload_n 2, 1) := by decide +kernel
theorem dX3_bestKept_50 : decode cX3_bestKept 50 = .ok (.aload_n 0, 1) := by decide +kernel
theorem dX3_bestKept_51 : decode cX3_bestKept 51 = .ok (.iload 4, 2) := by decide +kernel
theorem dX3_bestKept_53 : decode cX3_bestKept 53 = .ok (.iload 5, 2) := by decide +kernel
theorem dX3_bestKept_55 : decode cX3_bestKept 55 = .ok (.invokevirtual 127, 3) := by decide +kernel
theorem dX3_bestKept_58 : decode cX3_bestKept 58 = .ok (.iload_n 1, 1) := by decide +kernel
theorem dX3_bestKept_59 : decode cX3_bestKept 59 = .ok (.invokestatic 176, 3) := by decide +kernel
theorem dX3_bestKept_62 : decode cX3_bestKept 62 = .ok (.lor, 1) := by decide +kernel
theorem dX3_bestKept_63 : decode cX3_bestKept 63 = .ok (.lstore_n 2, 1) := by decide +kernel
theorem dX3_bestKept_64 : decode cX3_bestKept 64 = .ok (.iinc 5 1, 3) := by decide +kernel
theorem dX3_bestKept_67 : decode cX3_bestKept 67 = .ok (.goto (-30), 3) := by decide +kernel
theorem dX3_bestKept_70 : decode cX3_bestKept 70 = .ok (.iinc 4 1, 3) := by decide +kernel
theorem dX3_bestKept_73 : decode cX3_bestKept 73 = .ok (.goto (-54), 3) := by decide +kernel
theorem dX3_bestKept_76 : decode cX3_bestKept 76 = .ok (.iconst 1, 1) := by decide +kernel
theorem dX3_bestKept_77 : decode cX3_bestKept 77 = .ok (.istore 4, 2) := by decide +kernel
theorem dX3_bestKept_79 : decode cX3_bestKept 79 = .ok (.iload 4, 2) := by decide +kernel
theorem dX3_bestKept_81 : decode cX3_bestKept 81 = .ok (.bipush 32, 2) := by decide +kernel
theorem dX3_bestKept_83 : decode cX3_bestKept 83 = .ok (.if_icmp .gt 23, 3) := by decide +kernel
theorem dX3_bestKept_86 : decode cX3_bestKept 86 = .ok (.lload_n 2, 1) := by decide +kernel
theorem dX3_bestKept_87 : decode cX3_bestKept 87 = .ok (.lconst 1, 1) := by decide +kernel
theorem dX3_bestKept_88 : decode cX3_bestKept 88 = .ok (.iload 4, 2) := by decide +kernel
theorem dX3_bestKept_90 : decode cX3_bestKept 90 = .ok (.lshl, 1) := by decide +kernel
theorem dX3_bestKept_91 : decode cX3_bestKept 91 = .ok (.land, 1) := by decide +kernel
theorem dX3_bestKept_92 : decode cX3_bestKept 92 = .ok (.lconst 0, 1) := by decide +kernel
theorem dX3_bestKept_93 : decode cX3_bestKept 93 = .ok (.lcmp, 1) := by decide +kernel
theorem dX3_bestKept_94 : decode cX3_bestKept 94 = .ok (.ifCond .ne 6, 3) := by decide +kernel
theorem dX3_bestKept_97 : decode cX3_bestKept 97 = .ok (.iload 4, 2) := by decide +kernel
theorem dX3_bestKept_99 : decode cX3_bestKept 99 = .ok (.ireturn, 1) := by decide +kernel
theorem dX3_bestKept_100 : decode cX3_bestKept 100 = .ok (.iinc 4 1, 3) := by decide +kernel
theorem dX3_bestKept_103 : decode cX3_bestKept 103 = .ok (.goto (-24), 3) := by decide +kernel
theorem dX3_bestKept_106 : decode cX3_bestKept 106 = .ok (.bipush (-6), 2) := by decide +kernel
theorem dX3_bestKept_108 : decode cX3_bestKept 108 = .ok (.ireturn, 1) := by decide +kernel
set_option maxRecDepth 20000 in
theorem ggX3_group_X3_noRow : GoodIn wsX3_group wsX3_noRow := goodIn_r _ [7, 1, 2, 92, 93, 94, 95, 96, 97, 98, 99, 100, 101, 102, 103, 104, 105, 106] (by decide +kernel) (by decide +kernel)
set_option maxRecDepth 20000 in
theorem gX3_group_X3_noRow : GoodIn wsX3_group (wsV RX3 84 RX3 yX3_noRow wsX3_noRow) := goodIn_app (goodIn_of _ (by decide +kernel)) ggX3_group_X3_noRow
set_option maxRecDepth 20000 in
theorem ggX3_group_X3_lowestIn : GoodIn wsX3_group wsX3_lowestIn := goodIn_r _ [10] (by decide +kernel) (by decide +kernel)
set_option maxRecDepth 20000 in
theorem gX3_group_X3_lowestIn : GoodIn wsX3_group (va_wsS RX3 180 yX3_lowestIn wsX3_lowestIn) := goodIn_app (goodIn_of _ (by decide +kernel)) ggX3_group_X3_lowestIn
set_option maxRecDepth 20000 in
theorem ggX3_group_X3_toldAtLeast : GoodIn wsX3_group wsX3_toldAtLeast := goodIn_r _ [14, 1, 2, 15, 16, 17, 18, 6, 19, 20, 21, 22, 23, 24, 25, 26, 27, 28, 29, 30, 31, 32, 33, 34, 35, 36, 37, 38, 39, 40, 41, 42, 43, 44, 45, 46, 47, 48, 49, 50, 51, 52, 53, 54, 55, 56, 57, 58, 59, 60, 61, 62, 63, 64, 65, 66, 67, 68, 69, 70, 71, 72, 73, 74, 75, 76, 77, 78, 79, 80, 81, 82, 83, 84, 85, 86, 87, 88, 89, 90, 91, 92, 93, 94, 95, 96, 97, 98, 99, 100, 101, 102, 103, 104, 105, 106, 107, 108, 109, 110, 111, 112, 113, 114, 115, 116, 117] (by decide +kernel) (by decide +kernel)
set_option maxRecDepth 20000 in
theorem gX3_group_X3_toldAtLeast : GoodIn wsX3_group (wsV RX3 183 RX3 yX3_toldAtLeast wsX3_toldAtLeast) := goodIn_app (goodIn_of _ (by decide +kernel)) ggX3_group_X3_toldAtLeast
theorem dX3_group_0 : decode cX3_group 0 = .ok (.aload_n 0, 1) := by decide +kernel
theorem dX3_group_1 : decode cX3_group 1 = .ok (.iload_n 1, 1) := by decide +kernel
theorem dX3_group_2 : decode cX3_group 2 = .ok (.invokevirtual 84, 3) := by decide +kernel
theorem dX3_group_5 : decode cX3_group 5 = .ok (.ifCond .eq 5, 3) := by decide +kernel
theorem dX3_group_8 : decode cX3_group 8 = .ok (.iconst (-1), 1) := by decide +kernel
theorem dX3_group_9 : decode cX3_group 9 = .ok (.ireturn, 1) := by decide +kernel
theorem dX3_group_10 : decode cX3_group 10 = .ok (.iload_n 2, 1) := by decide +kernel
theorem dX3_group_11 : decode cX3_group 11 = .ok (.ifCond .lt 10, 3) := by decide +kernel
theorem dX3_group_14 : decode cX3_group 14 = .ok (.iload_n 2, 1) := by decide +kernel
theorem dX3_group_15 : decode cX3_group 15 = .ok (.sipush 10000, 3) := by decide +kernel
theorem dX3_group_18 : decode cX3_group 18 = .ok (.if_icmp .le 6, 3) := by decide +kernel
theorem dX3_group_21 : decode cX3_group 21 = .ok (.bipush (-2), 2) := by decide +kernel
theorem dX3_group_23 : decode cX3_group 23 = .ok (.ireturn, 1) := by decide +kernel
theorem dX3_group_24 : decode cX3_group 24 = .ok (.iconst 1, 1) := by decide +kernel
theorem dX3_group_25 : decode cX3_group 25 = .ok (.iload_n 1, 1) := by decide +kernel
theorem dX3_group_26 : decode cX3_group 26 = .ok (.ishl, 1) := by decide +kernel
theorem dX3_group_27 : decode cX3_group 27 = .ok (.istore_n 3, 1) := by decide +kernel
theorem dX3_group_28 : decode cX3_group 28 = .ok (.iconst 0, 1) := by decide +kernel
theorem dX3_group_29 : decode cX3_group 29 = .ok (.istore 4, 2) := by decide +kernel
theorem dX3_group_31 : decode cX3_group 31 = .ok (.iconst 0, 1) := by decide +kernel
theorem dX3_group_32 : decode cX3_group 32 = .ok (.istore 5, 2) := by decide +kernel
theorem dX3_group_34 : decode cX3_group 34 = .ok (.iload 5, 2) := by decide +kernel
theorem dX3_group_36 : decode cX3_group 36 = .ok (.aload_n 0, 1) := by decide +kernel
theorem dX3_group_37 : decode cX3_group 37 = .ok (.getfield 10, 3) := by decide +kernel
theorem dX3_group_40 : decode cX3_group 40 = .ok (.getfield 74, 3) := by decide +kernel
theorem dX3_group_43 : decode cX3_group 43 = .ok (.if_icmp .ge 45, 3) := by decide +kernel
theorem dX3_group_46 : decode cX3_group 46 = .ok (.iload_n 3, 1) := by decide +kernel
theorem dX3_group_47 : decode cX3_group 47 = .ok (.iload 4, 2) := by decide +kernel
theorem dX3_group_49 : decode cX3_group 49 = .ok (.if_icmp .eq 39, 3) := by decide +kernel
theorem dX3_group_52 : decode cX3_group 52 = .ok (.iload_n 3, 1) := by decide +kernel
theorem dX3_group_53 : decode cX3_group 53 = .ok (.iload 4, 2) := by decide +kernel
theorem dX3_group_55 : decode cX3_group 55 = .ok (.iconst (-1), 1) := by decide +kernel
theorem dX3_group_56 : decode cX3_group 56 = .ok (.ixor, 1) := by decide +kernel
theorem dX3_group_57 : decode cX3_group 57 = .ok (.iand, 1) := by decide +kernel
theorem dX3_group_58 : decode cX3_group 58 = .ok (.invokestatic 180, 3) := by decide +kernel
theorem dX3_group_61 : decode cX3_group 61 = .ok (.istore 6, 2) := by decide +kernel
theorem dX3_group_63 : decode cX3_group 63 = .ok (.iload 4, 2) := by decide +kernel
theorem dX3_group_65 : decode cX3_group 65 = .ok (.iconst 1, 1) := by decide +kernel
theorem dX3_group_66 : decode cX3_group 66 = .ok (.iload 6, 2) := by decide +kernel
theorem dX3_group_68 : decode cX3_group 68 = .ok (.ishl, 1) := by decide +kernel
theorem dX3_group_69 : decode cX3_group 69 = .ok (.ior, 1) := by decide +kernel
theorem dX3_group_70 : decode cX3_group 70 = .ok (.istore 4, 2) := by decide +kernel
theorem dX3_group_72 : decode cX3_group 72 = .ok (.iload_n 3, 1) := by decide +kernel
theorem dX3_group_73 : decode cX3_group 73 = .ok (.aload_n 0, 1) := by decide +kernel
theorem dX3_group_74 : decode cX3_group 74 = .ok (.iload 6, 2) := by decide +kernel
theorem dX3_group_76 : decode cX3_group 76 = .ok (.iload_n 2, 1) := by decide +kernel
theorem dX3_group_77 : decode cX3_group 77 = .ok (.invokevirtual 183, 3) := by decide +kernel
theorem dX3_group_80 : decode cX3_group 80 = .ok (.ior, 1) := by decide +kernel
theorem dX3_group_81 : decode cX3_group 81 = .ok (.istore_n 3, 1) := by decide +kernel
theorem dX3_group_82 : decode cX3_group 82 = .ok (.iinc 5 1, 3) := by decide +kernel
theorem dX3_group_85 : decode cX3_group 85 = .ok (.goto (-51), 3) := by decide +kernel
theorem dX3_group_88 : decode cX3_group 88 = .ok (.iload_n 3, 1) := by decide +kernel
theorem dX3_group_89 : decode cX3_group 89 = .ok (.invokestatic 180, 3) := by decide +kernel
theorem dX3_group_92 : decode cX3_group 92 = .ok (.ireturn, 1) := by decide +kernel
set_option maxRecDepth 20000 in
theorem ggX3_put_X3_charactersIn : GoodIn wsX3_put wsX3_charactersIn := goodIn_r _ [6, 7, 8, 5, 9, 10] (by decide +kernel) (by decide +kernel)
set_option maxRecDepth 20000 in
theorem gX3_put_X3_charactersIn : GoodIn wsX3_put (va_wsS RX3 186 yX3_charactersIn wsX3_charactersIn) := goodIn_app (goodIn_of _ (by decide +kernel)) ggX3_put_X3_charactersIn
set_option maxRecDepth 20000 in
theorem ggX3_put_X3_codeIn : GoodIn wsX3_put wsX3_codeIn := goodIn_r _ [9, 10] (by decide +kernel) (by decide +kernel)
set_option maxRecDepth 20000 in
theorem gX3_put_X3_codeIn : GoodIn wsX3_put (va_wsS RX3 190 yX3_codeIn wsX3_codeIn) := goodIn_app (goodIn_of _ (by decide +kernel)) ggX3_put_X3_codeIn
theorem dX3_put_0 : decode cX3_put 0 = .ok (.lload_n 1, 1) := by decide +kernel
theorem dX3_put_1 : decode cX3_put 1 = .ok (.invokestatic 186, 3) := by decide +kernel
theorem dX3_put_4 : decode cX3_put 4 = .ok (.istore_n 3, 1) := by decide +kernel
theorem dX3_put_5 : decode cX3_put 5 = .ok (.iload_n 3, 1) := by decide +kernel
theorem dX3_put_6 : decode cX3_put 6 = .ok (.ifCond .ne 6, 3) := by decide +kernel
theorem dX3_put_9 : decode cX3_put 9 = .ok (.bipush (-2), 2) := by decide +kernel
theorem dX3_put_11 : decode cX3_put 11 = .ok (.ireturn, 1) := by decide +kernel
theorem dX3_put_12 : decode cX3_put 12 = .ok (.aload_n 0, 1) := by decide +kernel
theorem dX3_put_13 : decode cX3_put 13 = .ok (.getfield 35, 3) := by decide +kernel
theorem dX3_put_16 : decode cX3_put 16 = .ok (.iload_n 3, 1) := by decide +kernel
theorem dX3_put_17 : decode cX3_put 17 = .ok (.iadd, 1) := by decide +kernel
theorem dX3_put_18 : decode cX3_put 18 = .ok (.bipush 64, 2) := by decide +kernel
theorem dX3_put_20 : decode cX3_put 20 = .ok (.if_icmp .le 6, 3) := by decide +kernel
theorem dX3_put_23 : decode cX3_put 23 = .ok (.bipush (-4), 2) := by decide +kernel
theorem dX3_put_25 : decode cX3_put 25 = .ok (.ireturn, 1) := by decide +kernel
theorem dX3_put_26 : decode cX3_put 26 = .ok (.iconst 0, 1) := by decide +kernel
theorem dX3_put_27 : decode cX3_put 27 = .ok (.istore 4, 2) := by decide +kernel
theorem dX3_put_29 : decode cX3_put 29 = .ok (.iload 4, 2) := by decide +kernel
theorem dX3_put_31 : decode cX3_put 31 = .ok (.iload_n 3, 1) := by decide +kernel
theorem dX3_put_32 : decode cX3_put 32 = .ok (.if_icmp .ge 31, 3) := by decide +kernel
theorem dX3_put_35 : decode cX3_put 35 = .ok (.aload_n 0, 1) := by decide +kernel
theorem dX3_put_36 : decode cX3_put 36 = .ok (.getfield 31, 3) := by decide +kernel
theorem dX3_put_39 : decode cX3_put 39 = .ok (.aload_n 0, 1) := by decide +kernel
theorem dX3_put_40 : decode cX3_put 40 = .ok (.getfield 35, 3) := by decide +kernel
theorem dX3_put_43 : decode cX3_put 43 = .ok (.iload 4, 2) := by decide +kernel
theorem dX3_put_45 : decode cX3_put 45 = .ok (.iadd, 1) := by decide +kernel
theorem dX3_put_46 : decode cX3_put 46 = .ok (.lload_n 1, 1) := by decide +kernel
theorem dX3_put_47 : decode cX3_put 47 = .ok (.iload_n 3, 1) := by decide +kernel
theorem dX3_put_48 : decode cX3_put 48 = .ok (.iconst 1, 1) := by decide +kernel
theorem dX3_put_49 : decode cX3_put 49 = .ok (.isub, 1) := by decide +kernel
theorem dX3_put_50 : decode cX3_put 50 = .ok (.iload 4, 2) := by decide +kernel
theorem dX3_put_52 : decode cX3_put 52 = .ok (.isub, 1) := by decide +kernel
theorem dX3_put_53 : decode cX3_put 53 = .ok (.invokestatic 190, 3) := by decide +kernel
theorem dX3_put_56 : decode cX3_put 56 = .ok (.iastore, 1) := by decide +kernel
theorem dX3_put_57 : decode cX3_put 57 = .ok (.iinc 4 1, 3) := by decide +kernel
theorem dX3_put_60 : decode cX3_put 60 = .ok (.goto (-31), 3) := by decide +kernel
theorem dX3_put_63 : decode cX3_put 63 = .ok (.aload_n 0, 1) := by decide +kernel
theorem dX3_put_64 : decode cX3_put 64 = .ok (.dup, 1) := by decide +kernel
theorem dX3_put_65 : decode cX3_put 65 = .ok (.getfield 35, 3) := by decide +kernel
theorem dX3_put_68 : decode cX3_put 68 = .ok (.iload_n 3, 1) := by decide +kernel
theorem dX3_put_69 : decode cX3_put 69 = .ok (.iadd, 1) := by decide +kernel
theorem dX3_put_70 : decode cX3_put 70 = .ok (.putfield 35, 3) := by decide +kernel
theorem dX3_put_73 : decode cX3_put 73 = .ok (.aload_n 0, 1) := by decide +kernel
theorem dX3_put_74 : decode cX3_put 74 = .ok (.getfield 35, 3) := by decide +kernel
theorem dX3_put_77 : decode cX3_put 77 = .ok (.ireturn, 1) := by decide +kernel
theorem dX3_wipe_0 : decode cX3_wipe 0 = .ok (.aload_n 0, 1) := by decide +kernel
theorem dX3_wipe_1 : decode cX3_wipe 1 = .ok (.getfield 35, 3) := by decide +kernel
theorem dX3_wipe_4 : decode cX3_wipe 4 = .ok (.istore_n 1, 1) := by decide +kernel
theorem dX3_wipe_5 : decode cX3_wipe 5 = .ok (.aload_n 0, 1) := by decide +kernel
theorem dX3_wipe_6 : decode cX3_wipe 6 = .ok (.iconst 0, 1) := by decide +kernel
theorem dX3_wipe_7 : decode cX3_wipe 7 = .ok (.putfield 35, 3) := by decide +kernel
theorem dX3_wipe_10 : decode cX3_wipe 10 = .ok (.iload_n 1, 1) := by decide +kernel
theorem dX3_wipe_11 : decode cX3_wipe 11 = .ok (.ireturn, 1) := by decide +kernel
set_option maxRecDepth 20000 in
theorem ggX3_fault_X3_padFault : GoodIn wsX3_fault wsX3_padFault := goodIn_r _ [5, 6, 7, 8, 9, 4, 10, 11, 12, 13, 14, 15, 16, 17, 18, 19, 20, 21] (by decide +kernel) (by decide +kernel)
set_option maxRecDepth 20000 in
theorem gX3_fault_X3_padFault : GoodIn wsX3_fault (wsV RX3 70 RX3 yX3_padFault wsX3_padFault) := goodIn_app (goodIn_of _ (by decide +kernel)) ggX3_fault_X3_padFault
theorem dX3_fault_0 : decode cX3_fault 0 = .ok (.aload_n 0, 1) := by decide +kernel
theorem dX3_fault_1 : decode cX3_fault 1 = .ok (.invokevirtual 70, 3) := by decide +kernel
theorem dX3_fault_4 : decode cX3_fault 4 = .ok (.ireturn, 1) := by decide +kernel
set_option maxRecDepth 20000 in
theorem ggX3_undo_X1_copyFrom : GoodIn wsX3_undo wsX1_copyFrom := goodIn_r _ [8, 9, 10, 11, 12, 13, 14, 15, 16, 34, 35, 36, 37] (by decide +kernel) (by decide +kernel)
set_option maxRecDepth 20000 in
theorem gX3_undo_X1_copyFrom : GoodIn wsX3_undo (wsV RX3 194 RX1 yX1_copyFrom wsX1_copyFrom) := goodIn_app (goodIn_of _ (by decide +kernel)) ggX3_undo_X1_copyFrom
set_option maxRecDepth 20000 in
theorem ggX3_undo_X3_forgetWords : GoodIn wsX3_undo wsX3_forgetWords := goodIn_r _ [21, 22, 23, 24, 25, 26, 27, 28, 29, 30, 31, 32, 33] (by decide +kernel) (by decide +kernel)
set_option maxRecDepth 20000 in
theorem gX3_undo_X3_forgetWords : GoodIn wsX3_undo (wsV RX3 198 RX3 yX3_forgetWords wsX3_forgetWords) := goodIn_app (goodIn_of _ (by decide +kernel)) ggX3_undo_X3_forgetWords
theorem dX3_undo_0 : decode cX3_undo 0 = .ok (.aload_n 0, 1) := by decide +kernel
theorem dX3_undo_1 : decode cX3_undo 1 = .ok (.getfield 20, 3) := by decide +kernel
theorem dX3_undo_4 : decode cX3_undo 4 = .ok (.ifCond .gt 6, 3) := by decide +kernel
theorem dX3_undo_7 : decode cX3_undo 7 = .ok (.bipush (-5), 2) := by decide +kernel
theorem dX3_undo_9 : decode cX3_undo 9 = .ok (.ireturn, 1) := by decide +kernel
theorem dX3_undo_10 : decode cX3_undo 10 = .ok (.aload_n 0, 1) := by decide +kernel
theorem dX3_undo_11 : decode cX3_undo 11 = .ok (.dup, 1) := by decide +kernel
theorem dX3_undo_12 : decode cX3_undo 12 = .ok (.getfield 20, 3) := by decide +kernel
theorem dX3_undo_15 : decode cX3_undo 15 = .ok (.iconst 1, 1) := by decide +kernel
theorem dX3_undo_16 : decode cX3_undo 16 = .ok (.isub, 1) := by decide +kernel
theorem dX3_undo_17 : decode cX3_undo 17 = .ok (.putfield 20, 3) := by decide +kernel
theorem dX3_undo_20 : decode cX3_undo 20 = .ok (.aload_n 0, 1) := by decide +kernel
theorem dX3_undo_21 : decode cX3_undo 21 = .ok (.getfield 10, 3) := by decide +kernel
theorem dX3_undo_24 : decode cX3_undo 24 = .ok (.aload_n 0, 1) := by decide +kernel
theorem dX3_undo_25 : decode cX3_undo 25 = .ok (.getfield 16, 3) := by decide +kernel
theorem dX3_undo_28 : decode cX3_undo 28 = .ok (.aload_n 0, 1) := by decide +kernel
theorem dX3_undo_29 : decode cX3_undo 29 = .ok (.getfield 20, 3) := by decide +kernel
theorem dX3_undo_32 : decode cX3_undo 32 = .ok (.aaload, 1) := by decide +kernel
theorem dX3_undo_33 : decode cX3_undo 33 = .ok (.invokevirtual 194, 3) := by decide +kernel
theorem dX3_undo_36 : decode cX3_undo 36 = .ok (.aload_n 0, 1) := by decide +kernel
theorem dX3_undo_37 : decode cX3_undo 37 = .ok (.invokevirtual 198, 3) := by decide +kernel
theorem dX3_undo_40 : decode cX3_undo 40 = .ok (.aload_n 0, 1) := by decide +kernel
theorem dX3_undo_41 : decode cX3_undo 41 = .ok (.getfield 20, 3) := by decide +kernel
theorem dX3_undo_44 : decode cX3_undo 44 = .ok (.ireturn, 1) := by decide +kernel
set_option maxRecDepth 20000 in
theorem ggX3_save_X1_copyFrom : GoodIn wsX3_save wsX1_copyFrom := goodIn_r _ [9, 10, 11, 12, 13, 14, 15, 16, 17, 29, 30, 31, 32] (by decide +kernel) (by decide +kernel)
set_option maxRecDepth 20000 in
theorem gX3_save_X1_copyFrom : GoodIn wsX3_save (wsV RX3 194 RX1 yX1_copyFrom wsX1_copyFrom) := goodIn_app (goodIn_of _ (by decide +kernel)) ggX3_save_X1_copyFrom
theorem dX3_save_0 : decode cX3_save 0 = .ok (.iload_n 1, 1) := by decide +kernel
theorem dX3_save_1 : decode cX3_save 1 = .ok (.ifCond .lt 8, 3) := by decide +kernel
theorem dX3_save_4 : decode cX3_save 4 = .ok (.iload_n 1, 1) := by decide +kernel
theorem dX3_save_5 : decode cX3_save 5 = .ok (.iconst 2, 1) := by decide +kernel
theorem dX3_save_6 : decode cX3_save 6 = .ok (.if_icmp .lt 6, 3) := by decide +kernel
theorem dX3_save_9 : decode cX3_save 9 = .ok (.bipush (-2), 2) := by decide +kernel
theorem dX3_save_11 : decode cX3_save 11 = .ok (.ireturn, 1) := by decide +kernel
theorem dX3_save_12 : decode cX3_save 12 = .ok (.aload_n 0, 1) := by decide +kernel
theorem dX3_save_13 : decode cX3_save 13 = .ok (.getfield 24, 3) := by decide +kernel
theorem dX3_save_16 : decode cX3_save 16 = .ok (.iload_n 1, 1) := by decide +kernel
theorem dX3_save_17 : decode cX3_save 17 = .ok (.aaload, 1) := by decide +kernel
theorem dX3_save_18 : decode cX3_save 18 = .ok (.aload_n 0, 1) := by decide +kernel
theorem dX3_save_19 : decode cX3_save 19 = .ok (.getfield 10, 3) := by decide +kernel
theorem dX3_save_22 : decode cX3_save 22 = .ok (.invokevirtual 194, 3) := by decide +kernel
theorem dX3_save_25 : decode cX3_save 25 = .ok (.aload_n 0, 1) := by decide +kernel
theorem dX3_save_26 : decode cX3_save 26 = .ok (.getfield 27, 3) := by decide +kernel
theorem dX3_save_29 : decode cX3_save 29 = .ok (.iload_n 1, 1) := by decide +kernel
theorem dX3_save_30 : decode cX3_save 30 = .ok (.iconst 1, 1) := by decide +kernel
theorem dX3_save_31 : decode cX3_save 31 = .ok (.bastore, 1) := by decide +kernel
theorem dX3_save_32 : decode cX3_save 32 = .ok (.aload_n 0, 1) := by decide +kernel
theorem dX3_save_33 : decode cX3_save 33 = .ok (.getfield 10, 3) := by decide +kernel
theorem dX3_save_36 : decode cX3_save 36 = .ok (.getfield 74, 3) := by decide +kernel
theorem dX3_save_39 : decode cX3_save 39 = .ok (.ireturn, 1) := by decide +kernel
set_option maxRecDepth 20000 in
theorem ggX3_restore_X3_beginChange : GoodIn wsX3_restore wsX3_beginChange := goodIn_r _ [9, 10, 11, 2, 12, 13, 14, 8, 15, 16, 17, 18, 19, 20, 21, 22, 23, 24, 25, 26, 27, 28, 29, 30, 31, 32, 33, 34, 35, 36, 37, 38, 39, 40, 41, 42, 43, 44, 45, 46, 47, 48] (by decide +kernel) (by decide +kernel)
set_option maxRecDepth 20000 in
theorem gX3_restore_X3_beginChange : GoodIn wsX3_restore (wsV RX3 64 RX3 yX3_beginChange wsX3_beginChange) := goodIn_app (goodIn_of _ (by decide +kernel)) ggX3_restore_X3_beginChange
set_option maxRecDepth 20000 in
theorem ggX3_restore_X1_copyFrom : GoodIn wsX3_restore wsX1_copyFrom := goodIn_r _ [20, 21, 22, 23, 24, 25, 26, 27, 28, 45, 46, 47, 48] (by decide +kernel) (by decide +kernel)
set_option maxRecDepth 20000 in
theorem gX3_restore_X1_copyFrom : GoodIn wsX3_restore (wsV RX3 194 RX1 yX1_copyFrom wsX1_copyFrom) := goodIn_app (goodIn_of _ (by decide +kernel)) ggX3_restore_X1_copyFrom
theorem dX3_restore_0 : decode cX3_restore 0 = .ok (.iload_n 1, 1) := by decide +kernel
theorem dX3_restore_1 : decode cX3_restore 1 = .ok (.ifCond .lt 8, 3) := by decide +kernel
theorem dX3_restore_4 : decode cX3_restore 4 = .ok (.iload_n 1, 1) := by decide +kernel
theorem dX3_restore_5 : decode cX3_restore 5 = .ok (.iconst 2, 1) := by decide +kernel
theorem dX3_restore_6 : decode cX3_restore 6 = .ok (.if_icmp .lt 6, 3) := by decide +kernel
theorem dX3_restore_9 : decode cX3_restore 9 = .ok (.bipush (-2), 2) := by decide +kernel
theorem dX3_restore_11 : decode cX3_restore 11 = .ok (.ireturn, 1) := by decide +kernel
theorem dX3_restore_12 : decode cX3_restore 12 = .ok (.aload_n 0, 1) := by decide +kernel
theorem dX3_restore_13 : decode cX3_restore 13 = .ok (.getfield 27, 3) := by decide +kernel
theorem dX3_restore_16 : decode cX3_restore 16 = .ok (.iload_n 1, 1) := by decide +kernel
theorem dX3_restore_17 : decode cX3_restore 17 = .ok (.baload, 1) := by decide +kernel
theorem dX3_restore_18 : decode cX3_restore 18 = .ok (.ifCond .ne 6, 3) := by decide +kernel
theorem dX3_restore_21 : decode cX3_restore 21 = .ok (.bipush (-5), 2) := by decide +kernel
theorem dX3_restore_23 : decode cX3_restore 23 = .ok (.ireturn, 1) := by decide +kernel
theorem dX3_restore_24 : decode cX3_restore 24 = .ok (.aload_n 0, 1) := by decide +kernel
theorem dX3_restore_25 : decode cX3_restore 25 = .ok (.invokevirtual 64, 3) := by decide +kernel
theorem dX3_restore_28 : decode cX3_restore 28 = .ok (.aload_n 0, 1) := by decide +kernel
theorem dX3_restore_29 : decode cX3_restore 29 = .ok (.getfield 10, 3) := by decide +kernel
theorem dX3_restore_32 : decode cX3_restore 32 = .ok (.aload_n 0, 1) := by decide +kernel
theorem dX3_restore_33 : decode cX3_restore 33 = .ok (.getfield 24, 3) := by decide +kernel
theorem dX3_restore_36 : decode cX3_restore 36 = .ok (.iload_n 1, 1) := by decide +kernel
theorem dX3_restore_37 : decode cX3_restore 37 = .ok (.aaload, 1) := by decide +kernel
theorem dX3_restore_38 : decode cX3_restore 38 = .ok (.invokevirtual 194, 3) := by decide +kernel
theorem dX3_restore_41 : decode cX3_restore 41 = .ok (.aload_n 0, 1) := by decide +kernel
theorem dX3_restore_42 : decode cX3_restore 42 = .ok (.getfield 10, 3) := by decide +kernel
theorem dX3_restore_45 : decode cX3_restore 45 = .ok (.getfield 74, 3) := by decide +kernel
theorem dX3_restore_48 : decode cX3_restore 48 = .ok (.ireturn, 1) := by decide +kernel
theorem dX3_noRow_0 : decode cX3_noRow 0 = .ok (.iload_n 1, 1) := by decide +kernel
theorem dX3_noRow_1 : decode cX3_noRow 1 = .ok (.ifCond .lt 14, 3) := by decide +kernel
theorem dX3_noRow_4 : decode cX3_noRow 4 = .ok (.iload_n 1, 1) := by decide +kernel
theorem dX3_noRow_5 : decode cX3_noRow 5 = .ok (.aload_n 0, 1) := by decide +kernel
theorem dX3_noRow_6 : decode cX3_noRow 6 = .ok (.getfield 10, 3) := by decide +kernel
theorem dX3_noRow_9 : decode cX3_noRow 9 = .ok (.getfield 74, 3) := by decide +kernel
theorem dX3_noRow_12 : decode cX3_noRow 12 = .ok (.if_icmp .lt 7, 3) := by decide +kernel
theorem dX3_noRow_15 : decode cX3_noRow 15 = .ok (.iconst 1, 1) := by decide +kernel
theorem dX3_noRow_16 : decode cX3_noRow 16 = .ok (.goto 4, 3) := by decide +kernel
theorem dX3_noRow_19 : decode cX3_noRow 19 = .ok (.iconst 0, 1) := by decide +kernel
theorem dX3_noRow_20 : decode cX3_noRow 20 = .ok (.ireturn, 1) := by decide +kernel
set_option maxRecDepth 20000 in
theorem ggX3_noPlace_X3_noRow : GoodIn wsX3_noPlace wsX3_noRow := goodIn_r _ [7, 1, 8, 9, 10, 11, 12, 13, 14, 15, 16, 17, 18, 19, 20, 21, 22, 23] (by decide +kernel) (by decide +kernel)
set_option maxRecDepth 20000 in
theorem gX3_noPlace_X3_noRow : GoodIn wsX3_noPlace (wsV RX3 84 RX3 yX3_noRow wsX3_noRow) := goodIn_app (goodIn_of _ (by decide +kernel)) ggX3_noPlace_X3_noRow
theorem dX3_noPlace_0 : decode cX3_noPlace 0 = .ok (.aload_n 0, 1) := by decide +kernel
theorem dX3_noPlace_1 : decode cX3_noPlace 1 = .ok (.iload_n 1, 1) := by decide +kernel
theorem dX3_noPlace_2 : decode cX3_noPlace 2 = .ok (.invokevirtual 84, 3) := by decide +kernel
theorem dX3_noPlace_5 : decode cX3_noPlace 5 = .ok (.ifCond .ne 20, 3) := by decide +kernel
theorem dX3_noPlace_8 : decode cX3_noPlace 8 = .ok (.iload_n 2, 1) := by decide +kernel
theorem dX3_noPlace_9 : decode cX3_noPlace 9 = .ok (.ifCond .lt 16, 3) := by decide +kernel
theorem dX3_noPlace_12 : decode cX3_noPlace 12 = .ok (.iload_n 2, 1) := by decide +kernel
theorem dX3_noPlace_13 : decode cX3_noPlace 13 = .ok (.aload_n 0, 1) := by decide +kernel
theorem dX3_noPlace_14 : decode cX3_noPlace 14 = .ok (.getfield 10, 3) := by decide +kernel
theorem dX3_noPlace_17 : decode cX3_noPlace 17 = .ok (.getfield 77, 3) := by decide +kernel
theorem dX3_noPlace_20 : decode cX3_noPlace 20 = .ok (.iload_n 1, 1) := by decide +kernel
theorem dX3_noPlace_21 : decode cX3_noPlace 21 = .ok (.iaload, 1) := by decide +kernel
theorem dX3_noPlace_22 : decode cX3_noPlace 22 = .ok (.if_icmp .lt 7, 3) := by decide +kernel
theorem dX3_noPlace_25 : decode cX3_noPlace 25 = .ok (.iconst 1, 1) := by decide +kernel
theorem dX3_noPlace_26 : decode cX3_noPlace 26 = .ok (.goto 4, 3) := by decide +kernel
theorem dX3_noPlace_29 : decode cX3_noPlace 29 = .ok (.iconst 0, 1) := by decide +kernel
theorem dX3_noPlace_30 : decode cX3_noPlace 30 = .ok (.ireturn, 1) := by decide +kernel
set_option maxRecDepth 20000 in
theorem ggX3_beginChange_X3_dropOldestChange : GoodIn wsX3_beginChange wsX3_dropOldestChange := goodIn_r _ [8, 2, 1, 27, 28, 29, 30, 31, 32, 33, 34, 35, 36, 37] (by decide +kernel) (by decide +kernel)
set_option maxRecDepth 20000 in
theorem gX3_beginChange_X3_dropOldestChange : GoodIn wsX3_beginChange (wsV RX3 201 RX3 yX3_dropOldestChange wsX3_dropOldestChange) := goodIn_app (goodIn_of _ (by decide +kernel)) ggX3_beginChange_X3_dropOldestChange
set_option maxRecDepth 20000 in
theorem ggX3_beginChange_X1_copyFrom : GoodIn wsX3_beginChange wsX1_copyFrom := goodIn_r _ [13, 14, 15, 16, 17, 18, 19, 20, 21, 38, 39, 40, 41] (by decide +kernel) (by decide +kernel)
set_option maxRecDepth 20000 in
theorem gX3_beginChange_X1_copyFrom : GoodIn wsX3_beginChange (wsV RX3 194 RX1 yX1_copyFrom wsX1_copyFrom) := goodIn_app (goodIn_of _ (by decide +kernel)) ggX3_beginChange_X1_copyFrom
set_option maxRecDepth 20000 in
theorem ggX3_beginChange_X3_forgetWords : GoodIn wsX3_beginChange wsX3_forgetWords := goodIn_r _ [25, 26, 27, 28, 29, 30, 31, 32, 33, 34, 35, 36, 37] (by decide +kernel) (by decide +kernel)
set_option maxRecDepth 20000 in
theorem gX3_beginChange_X3_forgetWords : GoodIn wsX3_beginChange (wsV RX3 198 RX3 yX3_forgetWords wsX3_forgetWords) := goodIn_app (goodIn_of _ (by decide +kernel)) ggX3_beginChange_X3_forgetWords
theorem dX3_beginChange_0 : decode cX3_beginChange 0 = .ok (.aload_n 0, 1) := by decide +kernel
theorem dX3_beginChange_1 : decode cX3_beginChange 1 = .ok (.getfield 20, 3) := by decide +kernel
theorem dX3_beginChange_4 : decode cX3_beginChange 4 = .ok (.bipush 6, 2) := by decide +kernel
theorem dX3_beginChange_6 : decode cX3_beginChange 6 = .ok (.if_icmp .lt 7, 3) := by decide +kernel
theorem dX3_beginChange_9 : decode cX3_beginChange 9 = .ok (.aload_n 0, 1) := by decide +kernel
theorem dX3_beginChange_10 : decode cX3_beginChange 10 = .ok (.invokevirtual 201, 3) := by decide +kernel
theorem dX3_beginChange_13 : decode cX3_beginChange 13 = .ok (.aload_n 0, 1) := by decide +kernel
theorem dX3_beginChange_14 : decode cX3_beginChange 14 = .ok (.getfield 16, 3) := by decide +kernel
theorem dX3_beginChange_17 : decode cX3_beginChange 17 = .ok (.aload_n 0, 1) := by decide +kernel
theorem dX3_beginChange_18 : decode cX3_beginChange 18 = .ok (.getfield 20, 3) := by decide +kernel
theorem dX3_beginChange_21 : decode cX3_beginChange 21 = .ok (.aaload, 1) := by decide +kernel
theorem dX3_beginChange_22 : decode cX3_beginChange 22 = .ok (.aload_n 0, 1) := by decide +kernel
theorem dX3_beginChange_23 : decode cX3_beginChange 23 = .ok (.getfield 10, 3) := by decide +kernel
theorem dX3_beginChange_26 : decode cX3_beginChange 26 = .ok (.invokevirtual 194, 3) := by decide +kernel
theorem dX3_beginChange_29 : decode cX3_beginChange 29 = .ok (.aload_n 0, 1) := by decide +kernel
theorem dX3_beginChange_30 : decode cX3_beginChange 30 = .ok (.dup, 1) := by decide +kernel
theorem dX3_beginChange_31 : decode cX3_beginChange 31 = .ok (.getfield 20, 3) := by decide +kernel
theorem dX3_beginChange_34 : decode cX3_beginChange 34 = .ok (.iconst 1, 1) := by decide +kernel
theorem dX3_beginChange_35 : decode cX3_beginChange 35 = .ok (.iadd, 1) := by decide +kernel
theorem dX3_beginChange_36 : decode cX3_beginChange 36 = .ok (.putfield 20, 3) := by decide +kernel
theorem dX3_beginChange_39 : decode cX3_beginChange 39 = .ok (.aload_n 0, 1) := by decide +kernel
theorem dX3_beginChange_40 : decode cX3_beginChange 40 = .ok (.invokevirtual 198, 3) := by decide +kernel
theorem dX3_beginChange_43 : decode cX3_beginChange 43 = .ok (.return_, 1) := by decide +kernel
theorem dX3_dropOldestChange_0 : decode cX3_dropOldestChange 0 = .ok (.aload_n 0, 1) := by decide +kernel
theorem dX3_dropOldestChange_1 : decode cX3_dropOldestChange 1 = .ok (.getfield 16, 3) := by decide +kernel
theorem dX3_dropOldestChange_4 : decode cX3_dropOldestChange 4 = .ok (.iconst 0, 1) := by decide +kernel
theorem dX3_dropOldestChange_5 : decode cX3_dropOldestChange 5 = .ok (.aaload, 1) := by decide +kernel
theorem dX3_dropOldestChange_6 : decode cX3_dropOldestChange 6 = .ok (.astore_n 1, 1) := by decide +kernel
theorem dX3_dropOldestChange_7 : decode cX3_dropOldestChange 7 = .ok (.iconst 1, 1) := by decide +kernel
theorem dX3_dropOldestChange_8 : decode cX3_dropOldestChange 8 = .ok (.istore_n 2, 1) := by decide +kernel
theorem dX3_dropOldestChange_9 : decode cX3_dropOldestChange 9 = .ok (.iload_n 2, 1) := by decide +kernel
theorem dX3_dropOldestChange_10 : decode cX3_dropOldestChange 10 = .ok (.bipush 6, 2) := by decide +kernel
theorem dX3_dropOldestChange_12 : decode cX3_dropOldestChange 12 = .ok (.if_icmp .ge 23, 3) := by decide +kernel
theorem dX3_dropOldestChange_15 : decode cX3_dropOldestChange 15 = .ok (.aload_n 0, 1) := by decide +kernel
theorem dX3_dropOldestChange_16 : decode cX3_dropOldestChange 16 = .ok (.getfield 16, 3) := by decide +kernel
theorem dX3_dropOldestChange_19 : decode cX3_dropOldestChange 19 = .ok (.iload_n 2, 1) := by decide +kernel
theorem dX3_dropOldestChange_20 : decode cX3_dropOldestChange 20 = .ok (.iconst 1, 1) := by decide +kernel
theorem dX3_dropOldestChange_21 : decode cX3_dropOldestChange 21 = .ok (.isub, 1) := by decide +kernel
theorem dX3_dropOldestChange_22 : decode cX3_dropOldestChange 22 = .ok (.aload_n 0, 1) := by decide +kernel
theorem dX3_dropOldestChange_23 : decode cX3_dropOldestChange 23 = .ok (.getfield 16, 3) := by decide +kernel
theorem dX3_dropOldestChange_26 : decode cX3_dropOldestChange 26 = .ok (.iload_n 2, 1) := by decide +kernel
theorem dX3_dropOldestChange_27 : decode cX3_dropOldestChange 27 = .ok (.aaload, 1) := by decide +kernel
theorem dX3_dropOldestChange_28 : decode cX3_dropOldestChange 28 = .ok (.aastore, 1) := by decide +kernel
theorem dX3_dropOldestChange_29 : decode cX3_dropOldestChange 29 = .ok (.iinc 2 1, 3) := by decide +kernel
theorem dX3_dropOldestChange_32 : decode cX3_dropOldestChange 32 = .ok (.goto (-23), 3) := by decide +kernel
theorem dX3_dropOldestChange_35 : decode cX3_dropOldestChange 35 = .ok (.aload_n 0, 1) := by decide +kernel
theorem dX3_dropOldestChange_36 : decode cX3_dropOldestChange 36 = .ok (.getfield 16, 3) := by decide +kernel
theorem dX3_dropOldestChange_39 : decode cX3_dropOldestChange 39 = .ok (.iconst 5, 1) := by decide +kernel
theorem dX3_dropOldestChange_40 : decode cX3_dropOldestChange 40 = .ok (.aload_n 1, 1) := by decide +kernel
theorem dX3_dropOldestChange_41 : decode cX3_dropOldestChange 41 = .ok (.aastore, 1) := by decide +kernel
theorem dX3_dropOldestChange_42 : decode cX3_dropOldestChange 42 = .ok (.aload_n 0, 1) := by decide +kernel
theorem dX3_dropOldestChange_43 : decode cX3_dropOldestChange 43 = .ok (.iconst 5, 1) := by decide +kernel
theorem dX3_dropOldestChange_44 : decode cX3_dropOldestChange 44 = .ok (.putfield 20, 3) := by decide +kernel
theorem dX3_dropOldestChange_47 : decode cX3_dropOldestChange 47 = .ok (.return_, 1) := by decide +kernel
theorem dX3_forgetWords_0 : decode cX3_forgetWords 0 = .ok (.iconst 0, 1) := by decide +kernel
theorem dX3_forgetWords_1 : decode cX3_forgetWords 1 = .ok (.istore_n 1, 1) := by decide +kernel
theorem dX3_forgetWords_2 : decode cX3_forgetWords 2 = .ok (.iload_n 1, 1) := by decide +kernel
theorem dX3_forgetWords_3 : decode cX3_forgetWords 3 = .ok (.bipush 10, 2) := by decide +kernel
theorem dX3_forgetWords_5 : decode cX3_forgetWords 5 = .ok (.if_icmp .ge 16, 3) := by decide +kernel
theorem dX3_forgetWords_8 : decode cX3_forgetWords 8 = .ok (.aload_n 0, 1) := by decide +kernel
theorem dX3_forgetWords_9 : decode cX3_forgetWords 9 = .ok (.getfield 44, 3) := by decide +kernel
theorem dX3_forgetWords_12 : decode cX3_forgetWords 12 = .ok (.iload_n 1, 1) := by decide +kernel
theorem dX3_forgetWords_13 : decode cX3_forgetWords 13 = .ok (.iconst 0, 1) := by decide +kernel
theorem dX3_forgetWords_14 : decode cX3_forgetWords 14 = .ok (.bastore, 1) := by decide +kernel
theorem dX3_forgetWords_15 : decode cX3_forgetWords 15 = .ok (.iinc 1 1, 3) := by decide +kernel
theorem dX3_forgetWords_18 : decode cX3_forgetWords 18 = .ok (.goto (-16), 3) := by decide +kernel
theorem dX3_forgetWords_21 : decode cX3_forgetWords 21 = .ok (.return_, 1) := by decide +kernel
set_option maxRecDepth 20000 in
theorem ggX3_wordsOf_X2_gather : GoodIn wsX3_wordsOf wsX2_gather := goodIn_r _ [8, 9, 10, 11, 12, 13, 14, 15, 7, 16, 17, 18, 19, 20, 21, 22, 23, 24, 25, 26, 27, 28, 29, 30, 31, 32, 44, 45, 46, 47, 48, 49, 50, 51] (by decide +kernel) (by decide +kernel)
set_option maxRecDepth 20000 in
theorem gX3_wordsOf_X2_gather : GoodIn wsX3_wordsOf (wsV RX3 204 RX2 yX2_gather wsX2_gather) := goodIn_app (goodIn_of _ (by decide +kernel)) ggX3_wordsOf_X2_gather
theorem dX3_wordsOf_0 : decode cX3_wordsOf 0 = .ok (.aload_n 0, 1) := by decide +kernel
theorem dX3_wordsOf_1 : decode cX3_wordsOf 1 = .ok (.getfield 44, 3) := by decide +kernel
theorem dX3_wordsOf_4 : decode cX3_wordsOf 4 = .ok (.iload_n 1, 1) := by decide +kernel
theorem dX3_wordsOf_5 : decode cX3_wordsOf 5 = .ok (.baload, 1) := by decide +kernel
theorem dX3_wordsOf_6 : decode cX3_wordsOf 6 = .ok (.ifCond .ne 24, 3) := by decide +kernel
theorem dX3_wordsOf_9 : decode cX3_wordsOf 9 = .ok (.aload_n 0, 1) := by decide +kernel
theorem dX3_wordsOf_10 : decode cX3_wordsOf 10 = .ok (.getfield 40, 3) := by decide +kernel
theorem dX3_wordsOf_13 : decode cX3_wordsOf 13 = .ok (.iload_n 1, 1) := by decide +kernel
theorem dX3_wordsOf_14 : decode cX3_wordsOf 14 = .ok (.aaload, 1) := by decide +kernel
theorem dX3_wordsOf_15 : decode cX3_wordsOf 15 = .ok (.aload_n 0, 1) := by decide +kernel
theorem dX3_wordsOf_16 : decode cX3_wordsOf 16 = .ok (.getfield 10, 3) := by decide +kernel
theorem dX3_wordsOf_19 : decode cX3_wordsOf 19 = .ok (.iload_n 1, 1) := by decide +kernel
theorem dX3_wordsOf_20 : decode cX3_wordsOf 20 = .ok (.invokevirtual 204, 3) := by decide +kernel
theorem dX3_wordsOf_23 : decode cX3_wordsOf 23 = .ok (.aload_n 0, 1) := by decide +kernel
theorem dX3_wordsOf_24 : decode cX3_wordsOf 24 = .ok (.getfield 44, 3) := by decide +kernel
theorem dX3_wordsOf_27 : decode cX3_wordsOf 27 = .ok (.iload_n 1, 1) := by decide +kernel
theorem dX3_wordsOf_28 : decode cX3_wordsOf 28 = .ok (.iconst 1, 1) := by decide +kernel
theorem dX3_wordsOf_29 : decode cX3_wordsOf 29 = .ok (.bastore, 1) := by decide +kernel
theorem dX3_wordsOf_30 : decode cX3_wordsOf 30 = .ok (.aload_n 0, 1) := by decide +kernel
theorem dX3_wordsOf_31 : decode cX3_wordsOf 31 = .ok (.getfield 40, 3) := by decide +kernel
theorem dX3_wordsOf_34 : decode cX3_wordsOf 34 = .ok (.iload_n 1, 1) := by decide +kernel
theorem dX3_wordsOf_35 : decode cX3_wordsOf 35 = .ok (.aaload, 1) := by decide +kernel
theorem dX3_wordsOf_36 : decode cX3_wordsOf 36 = .ok (.areturn, 1) := by decide +kernel
set_option maxRecDepth 20000 in
theorem ggX3_sampleSize_X3_wordsOf : GoodIn wsX3_sampleSize wsX3_wordsOf := goodIn_r _ [12, 13, 14, 2, 15, 16, 17, 18, 19, 20, 21, 22, 23, 24, 25, 26, 27, 28, 29, 30, 31, 32, 33, 34, 35, 36, 37, 38, 39, 40, 41, 42, 43, 48, 49, 50, 51, 52, 53, 54, 55, 56, 57, 58, 44, 45, 46, 47, 59, 60, 61, 62] (by decide +kernel) (by decide +kernel)
set_option maxRecDepth 20000 in
theorem gX3_sampleSize_X3_wordsOf : GoodIn wsX3_sampleSize (wsV RX3 101 RX3 yX3_wordsOf wsX3_wordsOf) := goodIn_app (goodIn_of _ (by decide +kernel)) ggX3_sampleSize_X3_wordsOf
theorem dX3_sampleSize_0 : decode cX3_sampleSize 0 = .ok (.aload_n 0, 1) := by decide +kernel
theorem dX3_sampleSize_1 : decode cX3_sampleSize 1 = .ok (.iload_n 1, 1) := by decide +kernel
theorem dX3_sampleSize_2 : decode cX3_sampleSize 2 = .ok (.invokevirtual 101, 3) := by decide +kernel
theorem dX3_sampleSize_5 : decode cX3_sampleSize 5 = .ok (.getfield 105, 3) := by decide +kernel
theorem dX3_sampleSize_8 : decode cX3_sampleSize 8 = .ok (.aload_n 0, 1) := by decide +kernel
theorem dX3_sampleSize_9 : decode cX3_sampleSize 9 = .ok (.getfield 10, 3) := by decide +kernel
theorem dX3_sampleSize_12 : decode cX3_sampleSize 12 = .ok (.getfield 67, 3) := by decide +kernel
theorem dX3_sampleSize_15 : decode cX3_sampleSize 15 = .ok (.iconst 1, 1) := by decide +kernel
theorem dX3_sampleSize_16 : decode cX3_sampleSize 16 = .ok (.iaload, 1) := by decide +kernel
theorem dX3_sampleSize_17 : decode cX3_sampleSize 17 = .ok (.invokestatic 208, 3) := by decide +kernel
theorem dX3_sampleSize_20 : decode cX3_sampleSize 20 = .ok (.ireturn, 1) := by decide +kernel
set_option maxRecDepth 20000 in
theorem ggX3_greatestOfSample_X3_sampleSize : GoodIn wsX3_greatestOfSample wsX3_sampleSize := goodIn_r _ [5, 6, 7, 8, 9, 10, 11, 12, 13, 14, 15, 4, 16, 17, 18, 19, 20, 21, 22, 23, 24, 25, 26, 27, 28, 29, 30, 31, 32, 33, 34, 35, 36, 37, 38, 39, 40, 41, 42, 43, 44, 45, 46, 47, 49, 50, 51, 52, 53, 54, 55, 56, 57, 58, 59, 60, 61, 62, 63, 64, 65, 66, 67] (by decide +kernel) (by decide +kernel)
set_option maxRecDepth 20000 in
theorem gX3_greatestOfSample_X3_sampleSize : GoodIn wsX3_greatestOfSample (wsV RX3 108 RX3 yX3_sampleSize wsX3_sampleSize) := goodIn_app (goodIn_of _ (by decide +kernel)) ggX3_greatestOfSample_X3_sampleSize
set_option maxRecDepth 20000 in
theorem ggX3_greatestOfSample_X3_wordsOf : GoodIn wsX3_greatestOfSample wsX3_wordsOf := goodIn_r _ [16, 17, 18, 7, 19, 20, 21, 22, 23, 24, 25, 26, 27, 28, 29, 30, 31, 32, 33, 34, 35, 36, 37, 38, 39, 40, 41, 42, 43, 44, 45, 46, 47, 53, 54, 55, 56, 57, 58, 59, 60, 61, 62, 63, 49, 50, 51, 52, 64, 65, 66, 67] (by decide +kernel) (by decide +kernel)
set_option maxRecDepth 20000 in
theorem gX3_greatestOfSample_X3_wordsOf : GoodIn wsX3_greatestOfSample (wsV RX3 101 RX3 yX3_wordsOf wsX3_wordsOf) := goodIn_app (goodIn_of _ (by decide +kernel)) ggX3_greatestOfSample_X3_wordsOf
set_option maxRecDepth 20000 in
theorem ggX3_greatestOfSample_X2_valueAt : GoodIn wsX3_greatestOfSample wsX2_valueAt := goodIn_r _ [46, 24, 36, 47, 49, 50, 51, 52] (by decide +kernel) (by decide +kernel)
set_option maxRecDepth 20000 in
theorem gX3_greatestOfSample_X2_valueAt : GoodIn wsX3_greatestOfSample (wsV RX3 211 RX2 yX2_valueAt wsX2_valueAt) := goodIn_app (goodIn_of _ (by decide +kernel)) ggX3_greatestOfSample_X2_valueAt
theorem dX3_greatestOfSample_0 : decode cX3_greatestOfSample 0 = .ok (.aload_n 0, 1) := by decide +kernel
theorem dX3_greatestOfSample_1 : decode cX3_greatestOfSample 1 = .ok (.iload_n 1, 1) := by decide +kernel
theorem dX3_greatestOfSample_2 : decode cX3_greatestOfSample 2 = .ok (.invokevirtual 108, 3) := by decide +kernel
theorem dX3_greatestOfSample_5 : decode cX3_greatestOfSample 5 = .ok (.istore_n 2, 1) := by decide +kernel
theorem dX3_greatestOfSample_6 : decode cX3_greatestOfSample 6 = .ok (.iload_n 2, 1) := by decide +kernel
theorem dX3_greatestOfSample_7 : decode cX3_greatestOfSample 7 = .ok (.ifCond .ne 8, 3) := by decide +kernel
theorem dX3_greatestOfSample_10 : decode cX3_greatestOfSample 10 = .ok (.bipush (-6), 2) := by decide +kernel
theorem dX3_greatestOfSample_12 : decode cX3_greatestOfSample 12 = .ok (.goto 14, 3) := by decide +kernel
theorem dX3_greatestOfSample_15 : decode cX3_greatestOfSample 15 = .ok (.aload_n 0, 1) := by decide +kernel
theorem dX3_greatestOfSample_16 : decode cX3_greatestOfSample 16 = .ok (.iload_n 1, 1) := by decide +kernel
theorem dX3_greatestOfSample_17 : decode cX3_greatestOfSample 17 = .ok (.invokevirtual 101, 3) := by decide +kernel
theorem dX3_greatestOfSample_20 : decode cX3_greatestOfSample 20 = .ok (.iload_n 2, 1) := by decide +kernel
theorem dX3_greatestOfSample_21 : decode cX3_greatestOfSample 21 = .ok (.iconst 1, 1) := by decide +kernel
theorem dX3_greatestOfSample_22 : decode cX3_greatestOfSample 22 = .ok (.isub, 1) := by decide +kernel
theorem dX3_greatestOfSample_23 : decode cX3_greatestOfSample 23 = .ok (.invokevirtual 211, 3) := by decide +kernel
theorem dX3_greatestOfSample_26 : decode cX3_greatestOfSample 26 = .ok (.ireturn, 1) := by decide +kernel
set_option maxRecDepth 20000 in
theorem ggX3_pairOf_X3_wordsOf : GoodIn wsX3_pairOf wsX3_wordsOf := goodIn_r _ [6, 7, 8, 9, 10, 11, 12, 13, 14, 15, 16, 17, 18, 19, 20, 21, 22, 23, 24, 25, 26, 27, 28, 29, 30, 31, 32, 33, 34, 35, 36, 37, 38, 54, 55, 56, 57, 58, 59, 60, 61, 62, 63, 64, 65, 66, 67, 68, 69, 70, 71, 72] (by decide +kernel) (by decide +kernel)
set_option maxRecDepth 20000 in
theorem gX3_pairOf_X3_wordsOf : GoodIn wsX3_pairOf (wsV RX3 101 RX3 yX3_wordsOf wsX3_wordsOf) := goodIn_app (goodIn_of _ (by decide +kernel)) ggX3_pairOf_X3_wordsOf
set_option maxRecDepth 20000 in
theorem ggX3_pairOf_X0_measure : GoodIn wsX3_pairOf wsX0_measure := goodIn_r _ [43, 44, 45, 46, 47, 48, 49, 50, 51, 52, 53, 35, 36, 13, 37, 15, 27, 38, 65, 66, 67, 68, 73, 74, 75, 76, 77, 78, 79] (by decide +kernel) (by decide +kernel)
set_option maxRecDepth 20000 in
theorem gX3_pairOf_X0_measure : GoodIn wsX3_pairOf (wsV RX3 214 RX0 yX0_measure wsX0_measure) := goodIn_app (goodIn_of _ (by decide +kernel)) ggX3_pairOf_X0_measure
theorem dX3_pairOf_0 : decode cX3_pairOf 0 = .ok (.aload_n 0, 1) := by decide +kernel
theorem dX3_pairOf_1 : decode cX3_pairOf 1 = .ok (.getfield 50, 3) := by decide +kernel
theorem dX3_pairOf_4 : decode cX3_pairOf 4 = .ok (.aload_n 0, 1) := by decide +kernel
theorem dX3_pairOf_5 : decode cX3_pairOf 5 = .ok (.iload_n 1, 1) := by decide +kernel
theorem dX3_pairOf_6 : decode cX3_pairOf 6 = .ok (.invokevirtual 101, 3) := by decide +kernel
theorem dX3_pairOf_9 : decode cX3_pairOf 9 = .ok (.aload_n 0, 1) := by decide +kernel
theorem dX3_pairOf_10 : decode cX3_pairOf 10 = .ok (.iload_n 2, 1) := by decide +kernel
theorem dX3_pairOf_11 : decode cX3_pairOf 11 = .ok (.invokevirtual 101, 3) := by decide +kernel
theorem dX3_pairOf_14 : decode cX3_pairOf 14 = .ok (.invokevirtual 214, 3) := by decide +kernel
theorem dX3_pairOf_17 : decode cX3_pairOf 17 = .ok (.aload_n 0, 1) := by decide +kernel
theorem dX3_pairOf_18 : decode cX3_pairOf 18 = .ok (.getfield 50, 3) := by decide +kernel
theorem dX3_pairOf_21 : decode cX3_pairOf 21 = .ok (.areturn, 1) := by decide +kernel
set_option maxRecDepth 20000 in
theorem ggX3_wordsOfAll_X3_leastAtHeads : GoodIn wsX3_wordsOfAll wsX3_leastAtHeads := goodIn_r _ [9, 4, 1, 2, 3, 10, 11, 12, 13, 14, 15, 16, 8, 17, 18, 19, 20, 21, 22, 23, 24, 25, 26, 27, 28, 29, 30, 31, 32, 33, 34, 35, 36, 37, 38, 39, 40, 41, 42, 43, 44, 45, 46, 47, 48, 49, 54, 55, 56, 57, 58, 59, 60, 61, 62, 63, 64, 65, 66, 67, 68, 69, 70, 71, 72] (by decide +kernel) (by decide +kernel)
set_option maxRecDepth 20000 in
theorem gX3_wordsOfAll_X3_leastAtHeads : GoodIn wsX3_wordsOfAll (wsV RX3 218 RX3 yX3_leastAtHeads wsX3_leastAtHeads) := goodIn_app (goodIn_of _ (by decide +kernel)) ggX3_wordsOfAll_X3_leastAtHeads
set_option maxRecDepth 20000 in
theorem ggX3_wordsOfAll_X3_passAtHeads : GoodIn wsX3_wordsOfAll wsX3_passAtHeads := goodIn_r _ [53, 1, 2, 3, 14, 15, 16, 8, 17, 18, 19, 20, 21, 22, 23, 24, 25, 26, 27, 28, 29, 30, 31, 32, 33, 34, 35, 36, 37, 38, 39, 40, 41, 42, 43, 44, 45, 46, 47, 48, 49, 54, 55, 56, 57, 58, 59, 60, 61, 62, 63, 64, 65, 66, 67, 68, 69, 70, 71, 72] (by decide +kernel) (by decide +kernel)
set_option maxRecDepth 20000 in
theorem gX3_wordsOfAll_X3_passAtHeads : GoodIn wsX3_wordsOfAll (wsV RX3 222 RX3 yX3_passAtHeads wsX3_passAtHeads) := goodIn_app (goodIn_of _ (by decide +kernel)) ggX3_wordsOfAll_X3_passAtHeads
theorem dX3_wordsOfAll_0 : decode cX3_wordsOfAll 0 = .ok (.iconst 0, 1) := by decide +kernel
theorem dX3_wordsOfAll_1 : decode cX3_wordsOfAll 1 = .ok (.istore_n 1, 1) := by decide +kernel
theorem dX3_wordsOfAll_2 : decode cX3_wordsOfAll 2 = .ok (.iload_n 1, 1) := by decide +kernel
theorem dX3_wordsOfAll_3 : decode cX3_wordsOfAll 3 = .ok (.aload_n 0, 1) := by decide +kernel
theorem dX3_wordsOfAll_4 : decode cX3_wordsOfAll 4 = .ok (.getfield 10, 3) := by decide +kernel
theorem dX3_wordsOfAll_7 : decode cX3_wordsOfAll 7 = .ok (.getfield 74, 3) := by decide +kernel
theorem dX3_wordsOfAll_10 : decode cX3_wordsOfAll 10 = .ok (.if_icmp .ge 16, 3) := by decide +kernel
theorem dX3_wordsOfAll_13 : decode cX3_wordsOfAll 13 = .ok (.aload_n 0, 1) := by decide +kernel
theorem dX3_wordsOfAll_14 : decode cX3_wordsOfAll 14 = .ok (.getfield 54, 3) := by decide +kernel
theorem dX3_wordsOfAll_17 : decode cX3_wordsOfAll 17 = .ok (.iload_n 1, 1) := by decide +kernel
theorem dX3_wordsOfAll_18 : decode cX3_wordsOfAll 18 = .ok (.iconst 0, 1) := by decide +kernel
theorem dX3_wordsOfAll_19 : decode cX3_wordsOfAll 19 = .ok (.iastore, 1) := by decide +kernel
theorem dX3_wordsOfAll_20 : decode cX3_wordsOfAll 20 = .ok (.iinc 1 1, 3) := by decide +kernel
theorem dX3_wordsOfAll_23 : decode cX3_wordsOfAll 23 = .ok (.goto (-21), 3) := by decide +kernel
theorem dX3_wordsOfAll_26 : decode cX3_wordsOfAll 26 = .ok (.iconst 0, 1) := by decide +kernel
theorem dX3_wordsOfAll_27 : decode cX3_wordsOfAll 27 = .ok (.istore_n 1, 1) := by decide +kernel
theorem dX3_wordsOfAll_28 : decode cX3_wordsOfAll 28 = .ok (.iconst 0, 1) := by decide +kernel
theorem dX3_wordsOfAll_29 : decode cX3_wordsOfAll 29 = .ok (.istore_n 2, 1) := by decide +kernel
theorem dX3_wordsOfAll_30 : decode cX3_wordsOfAll 30 = .ok (.iload_n 2, 1) := by decide +kernel
theorem dX3_wordsOfAll_31 : decode cX3_wordsOfAll 31 = .ok (.sipush 640, 3) := by decide +kernel
theorem dX3_wordsOfAll_34 : decode cX3_wordsOfAll 34 = .ok (.if_icmp .ge 31, 3) := by decide +kernel
theorem dX3_wordsOfAll_37 : decode cX3_wordsOfAll 37 = .ok (.aload_n 0, 1) := by decide +kernel
theorem dX3_wordsOfAll_38 : decode cX3_wordsOfAll 38 = .ok (.invokevirtual 218, 3) := by decide +kernel
theorem dX3_wordsOfAll_41 : decode cX3_wordsOfAll 41 = .ok (.istore_n 3, 1) := by decide +kernel
theorem dX3_wordsOfAll_42 : decode cX3_wordsOfAll 42 = .ok (.iload_n 3, 1) := by decide +kernel
theorem dX3_wordsOfAll_43 : decode cX3_wordsOfAll 43 = .ok (.ldc 221, 2) := by decide +kernel
theorem dX3_wordsOfAll_45 : decode cX3_wordsOfAll 45 = .ok (.if_icmp .ne 6, 3) := by decide +kernel
theorem dX3_wordsOfAll_48 : decode cX3_wordsOfAll 48 = .ok (.goto 17, 3) := by decide +kernel
theorem dX3_wordsOfAll_51 : decode cX3_wordsOfAll 51 = .ok (.iinc 1 1, 3) := by decide +kernel
theorem dX3_wordsOfAll_54 : decode cX3_wordsOfAll 54 = .ok (.aload_n 0, 1) := by decide +kernel
theorem dX3_wordsOfAll_55 : decode cX3_wordsOfAll 55 = .ok (.iload_n 3, 1) := by decide +kernel
theorem dX3_wordsOfAll_56 : decode cX3_wordsOfAll 56 = .ok (.invokevirtual 222, 3) := by decide +kernel
theorem dX3_wordsOfAll_59 : decode cX3_wordsOfAll 59 = .ok (.iinc 2 1, 3) := by decide +kernel
theorem dX3_wordsOfAll_62 : decode cX3_wordsOfAll 62 = .ok (.goto (-32), 3) := by decide +kernel
theorem dX3_wordsOfAll_65 : decode cX3_wordsOfAll 65 = .ok (.iload_n 1, 1) := by decide +kernel
theorem dX3_wordsOfAll_66 : decode cX3_wordsOfAll 66 = .ok (.ireturn, 1) := by decide +kernel
set_option maxRecDepth 20000 in
theorem ggX3_leastAtHeads_X3_wordsOf : GoodIn wsX3_leastAtHeads wsX3_wordsOf := goodIn_r _ [13, 14, 15, 2, 16, 17, 18, 19, 20, 21, 22, 23, 24, 25, 26, 27, 28, 29, 30, 31, 32, 33, 34, 35, 36, 37, 38, 39, 40, 41, 42, 43, 44, 46, 47, 48, 49, 50, 51, 52, 53, 54, 55, 56, 61, 62, 63, 64, 57, 58, 59, 60] (by decide +kernel) (by decide +kernel)
set_option maxRecDepth 20000 in
theorem gX3_leastAtHeads_X3_wordsOf : GoodIn wsX3_leastAtHeads (wsV RX3 101 RX3 yX3_wordsOf wsX3_wordsOf) := goodIn_app (goodIn_of _ (by decide +kernel)) ggX3_leastAtHeads_X3_wordsOf
set_option maxRecDepth 20000 in
theorem ggX3_leastAtHeads_X2_valueAt : GoodIn wsX3_leastAtHeads wsX2_valueAt := goodIn_r _ [43, 21, 33, 44, 61, 62, 63, 64] (by decide +kernel) (by decide +kernel)
set_option maxRecDepth 20000 in
theorem gX3_leastAtHeads_X2_valueAt : GoodIn wsX3_leastAtHeads (wsV RX3 211 RX2 yX2_valueAt wsX2_valueAt) := goodIn_app (goodIn_of _ (by decide +kernel)) ggX3_leastAtHeads_X2_valueAt
theorem dX3_leastAtHeads_0 : decode cX3_leastAtHeads 0 = .ok (.ldc 221, 2) := by decide +kernel
theorem dX3_leastAtHeads_2 : decode cX3_leastAtHeads 2 = .ok (.istore_n 1, 1) := by decide +kernel
theorem dX3_leastAtHeads_3 : decode cX3_leastAtHeads 3 = .ok (.iconst 0, 1) := by decide +kernel
theorem dX3_leastAtHeads_4 : decode cX3_leastAtHeads 4 = .ok (.istore_n 2, 1) := by decide +kernel
theorem dX3_leastAtHeads_5 : decode cX3_leastAtHeads 5 = .ok (.iload_n 2, 1) := by decide +kernel
theorem dX3_leastAtHeads_6 : decode cX3_leastAtHeads 6 = .ok (.aload_n 0, 1) := by decide +kernel
theorem dX3_leastAtHeads_7 : decode cX3_leastAtHeads 7 = .ok (.getfield 10, 3) := by decide +kernel
theorem dX3_leastAtHeads_10 : decode cX3_leastAtHeads 10 = .ok (.getfield 74, 3) := by decide +kernel
theorem dX3_leastAtHeads_13 : decode cX3_leastAtHeads 13 = .ok (.if_icmp .ge 28, 3) := by decide +kernel
theorem dX3_leastAtHeads_16 : decode cX3_leastAtHeads 16 = .ok (.iload_n 1, 1) := by decide +kernel
theorem dX3_leastAtHeads_17 : decode cX3_leastAtHeads 17 = .ok (.aload_n 0, 1) := by decide +kernel
theorem dX3_leastAtHeads_18 : decode cX3_leastAtHeads 18 = .ok (.iload_n 2, 1) := by decide +kernel
theorem dX3_leastAtHeads_19 : decode cX3_leastAtHeads 19 = .ok (.invokevirtual 101, 3) := by decide +kernel
theorem dX3_leastAtHeads_22 : decode cX3_leastAtHeads 22 = .ok (.aload_n 0, 1) := by decide +kernel
theorem dX3_leastAtHeads_23 : decode cX3_leastAtHeads 23 = .ok (.getfield 54, 3) := by decide +kernel
theorem dX3_leastAtHeads_26 : decode cX3_leastAtHeads 26 = .ok (.iload_n 2, 1) := by decide +kernel
theorem dX3_leastAtHeads_27 : decode cX3_leastAtHeads 27 = .ok (.iaload, 1) := by decide +kernel
theorem dX3_leastAtHeads_28 : decode cX3_leastAtHeads 28 = .ok (.invokevirtual 211, 3) := by decide +kernel
theorem dX3_leastAtHeads_31 : decode cX3_leastAtHeads 31 = .ok (.invokestatic 208, 3) := by decide +kernel
theorem dX3_leastAtHeads_34 : decode cX3_leastAtHeads 34 = .ok (.istore_n 1, 1) := by decide +kernel
theorem dX3_leastAtHeads_35 : decode cX3_leastAtHeads 35 = .ok (.iinc 2 1, 3) := by decide +kernel
theorem dX3_leastAtHeads_38 : decode cX3_leastAtHeads 38 = .ok (.goto (-33), 3) := by decide +kernel
theorem dX3_leastAtHeads_41 : decode cX3_leastAtHeads 41 = .ok (.iload_n 1, 1) := by decide +kernel
theorem dX3_leastAtHeads_42 : decode cX3_leastAtHeads 42 = .ok (.ireturn, 1) := by decide +kernel
set_option maxRecDepth 20000 in
theorem ggX3_passAtHeads_X3_wordsOf : GoodIn wsX3_passAtHeads wsX3_wordsOf := goodIn_r _ [8, 9, 10, 1, 11, 12, 13, 14, 15, 16, 17, 18, 19, 20, 21, 22, 23, 24, 25, 26, 27, 28, 29, 30, 31, 32, 33, 34, 35, 36, 37, 38, 39, 41, 42, 43, 44, 45, 46, 47, 48, 49, 50, 51, 56, 57, 58, 59, 52, 53, 54, 55] (by decide +kernel) (by decide +kernel)
set_option maxRecDepth 20000 in
theorem gX3_passAtHeads_X3_wordsOf : GoodIn wsX3_passAtHeads (wsV RX3 101 RX3 yX3_wordsOf wsX3_wordsOf) := goodIn_app (goodIn_of _ (by decide +kernel)) ggX3_passAtHeads_X3_wordsOf
set_option maxRecDepth 20000 in
theorem ggX3_passAtHeads_X2_valueAt : GoodIn wsX3_passAtHeads wsX2_valueAt := goodIn_r _ [38, 16, 28, 39, 56, 57, 58, 59] (by decide +kernel) (by decide +kernel)
set_option maxRecDepth 20000 in
theorem gX3_passAtHeads_X2_valueAt : GoodIn wsX3_passAtHeads (wsV RX3 211 RX2 yX2_valueAt wsX2_valueAt) := goodIn_app (goodIn_of _ (by decide +kernel)) ggX3_passAtHeads_X2_valueAt
theorem dX3_passAtHeads_0 : decode cX3_passAtHeads 0 = .ok (.iconst 0, 1) := by decide +kernel
theorem dX3_passAtHeads_1 : decode cX3_passAtHeads 1 = .ok (.istore_n 2, 1) := by decide +kernel
theorem dX3_passAtHeads_2 : decode cX3_passAtHeads 2 = .ok (.iload_n 2, 1) := by decide +kernel
theorem dX3_passAtHeads_3 : decode cX3_passAtHeads 3 = .ok (.aload_n 0, 1) := by decide +kernel
theorem dX3_passAtHeads_4 : decode cX3_passAtHeads 4 = .ok (.getfield 10, 3) := by decide +kernel
theorem dX3_passAtHeads_7 : decode cX3_passAtHeads 7 = .ok (.getfield 74, 3) := by decide +kernel
theorem dX3_passAtHeads_10 : decode cX3_passAtHeads 10 = .ok (.if_icmp .ge 37, 3) := by decide +kernel
theorem dX3_passAtHeads_13 : decode cX3_passAtHeads 13 = .ok (.aload_n 0, 1) := by decide +kernel
theorem dX3_passAtHeads_14 : decode cX3_passAtHeads 14 = .ok (.iload_n 2, 1) := by decide +kernel
theorem dX3_passAtHeads_15 : decode cX3_passAtHeads 15 = .ok (.invokevirtual 101, 3) := by decide +kernel
theorem dX3_passAtHeads_18 : decode cX3_passAtHeads 18 = .ok (.aload_n 0, 1) := by decide +kernel
theorem dX3_passAtHeads_19 : decode cX3_passAtHeads 19 = .ok (.getfield 54, 3) := by decide +kernel
theorem dX3_passAtHeads_22 : decode cX3_passAtHeads 22 = .ok (.iload_n 2, 1) := by decide +kernel
theorem dX3_passAtHeads_23 : decode cX3_passAtHeads 23 = .ok (.iaload, 1) := by decide +kernel
theorem dX3_passAtHeads_24 : decode cX3_passAtHeads 24 = .ok (.invokevirtual 211, 3) := by decide +kernel
theorem dX3_passAtHeads_27 : decode cX3_passAtHeads 27 = .ok (.iload_n 1, 1) := by decide +kernel
theorem dX3_passAtHeads_28 : decode cX3_passAtHeads 28 = .ok (.if_icmp .ne 13, 3) := by decide +kernel
theorem dX3_passAtHeads_31 : decode cX3_passAtHeads 31 = .ok (.aload_n 0, 1) := by decide +kernel
theorem dX3_passAtHeads_32 : decode cX3_passAtHeads 32 = .ok (.getfield 54, 3) := by decide +kernel
theorem dX3_passAtHeads_35 : decode cX3_passAtHeads 35 = .ok (.iload_n 2, 1) := by decide +kernel
theorem dX3_passAtHeads_36 : decode cX3_passAtHeads 36 = .ok (.dup2, 1) := by decide +kernel
theorem dX3_passAtHeads_37 : decode cX3_passAtHeads 37 = .ok (.iaload, 1) := by decide +kernel
theorem dX3_passAtHeads_38 : decode cX3_passAtHeads 38 = .ok (.iconst 1, 1) := by decide +kernel
theorem dX3_passAtHeads_39 : decode cX3_passAtHeads 39 = .ok (.iadd, 1) := by decide +kernel
theorem dX3_passAtHeads_40 : decode cX3_passAtHeads 40 = .ok (.iastore, 1) := by decide +kernel
theorem dX3_passAtHeads_41 : decode cX3_passAtHeads 41 = .ok (.iinc 2 1, 3) := by decide +kernel
theorem dX3_passAtHeads_44 : decode cX3_passAtHeads 44 = .ok (.goto (-42), 3) := by decide +kernel
theorem dX3_passAtHeads_47 : decode cX3_passAtHeads 47 = .ok (.return_, 1) := by decide +kernel
set_option maxRecDepth 20000 in
theorem ggX3_keptBeyond_X0_errorOfTold : GoodIn wsX3_keptBeyond wsX0_errorOfTold := goodIn_r _ [5, 6, 7, 8, 9, 10, 11, 12, 4, 13, 14, 15, 16, 17, 18, 19, 20, 21, 22, 23, 24, 25, 26, 27, 28, 29, 30, 31, 32, 33, 34, 35, 36, 37, 38, 39, 40, 41, 42, 43, 44] (by decide +kernel) (by decide +kernel)
set_option maxRecDepth 20000 in
theorem gX3_keptBeyond_X0_errorOfTold : GoodIn wsX3_keptBeyond (wsV RX3 173 RX0 yX0_errorOfTold wsX0_errorOfTold) := goodIn_app (goodIn_of _ (by decide +kernel)) ggX3_keptBeyond_X0_errorOfTold
theorem dX3_keptBeyond_0 : decode cX3_keptBeyond 0 = .ok (.lconst 0, 1) := by decide +kernel
theorem dX3_keptBeyond_1 : decode cX3_keptBeyond 1 = .ok (.lstore_n 2, 1) := by decide +kernel
theorem dX3_keptBeyond_2 : decode cX3_keptBeyond 2 = .ok (.iconst 1, 1) := by decide +kernel
theorem dX3_keptBeyond_3 : decode cX3_keptBeyond 3 = .ok (.istore 4, 2) := by decide +kernel
theorem dX3_keptBeyond_5 : decode cX3_keptBeyond 5 = .ok (.iload 4, 2) := by decide +kernel
theorem dX3_keptBeyond_7 : decode cX3_keptBeyond 7 = .ok (.bipush 32, 2) := by decide +kernel
theorem dX3_keptBeyond_9 : decode cX3_keptBeyond 9 = .ok (.if_icmp .gt 26, 3) := by decide +kernel
theorem dX3_keptBeyond_12 : decode cX3_keptBeyond 12 = .ok (.aload_n 0, 1) := by decide +kernel
theorem dX3_keptBeyond_13 : decode cX3_keptBeyond 13 = .ok (.iload 4, 2) := by decide +kernel
theorem dX3_keptBeyond_15 : decode cX3_keptBeyond 15 = .ok (.invokevirtual 173, 3) := by decide +kernel
theorem dX3_keptBeyond_18 : decode cX3_keptBeyond 18 = .ok (.iload_n 1, 1) := by decide +kernel
theorem dX3_keptBeyond_19 : decode cX3_keptBeyond 19 = .ok (.if_icmp .le 10, 3) := by decide +kernel
theorem dX3_keptBeyond_22 : decode cX3_keptBeyond 22 = .ok (.lload_n 2, 1) := by decide +kernel
theorem dX3_keptBeyond_23 : decode cX3_keptBeyond 23 = .ok (.lconst 1, 1) := by decide +kernel
theorem dX3_keptBeyond_24 : decode cX3_keptBeyond 24 = .ok (.iload 4, 2) := by decide +kernel
theorem dX3_keptBeyond_26 : decode cX3_keptBeyond 26 = .ok (.lshl, 1) := by decide +kernel
theorem dX3_keptBeyond_27 : decode cX3_keptBeyond 27 = .ok (.lor, 1) := by decide +kernel
theorem dX3_keptBeyond_28 : decode cX3_keptBeyond 28 = .ok (.lstore_n 2, 1) := by decide +kernel
theorem dX3_keptBeyond_29 : decode cX3_keptBeyond 29 = .ok (.iinc 4 1, 3) := by decide +kernel
theorem dX3_keptBeyond_32 : decode cX3_keptBeyond 32 = .ok (.goto (-27), 3) := by decide +kernel
theorem dX3_keptBeyond_35 : decode cX3_keptBeyond 35 = .ok (.lload_n 2, 1) := by decide +kernel
theorem dX3_keptBeyond_36 : decode cX3_keptBeyond 36 = .ok (.lreturn, 1) := by decide +kernel
set_option maxRecDepth 20000 in
theorem ggX3_toldAtLeast_X3_pairOf : GoodIn wsX3_toldAtLeast wsX3_pairOf := goodIn_r _ [8, 9, 10, 11, 12, 7, 13, 14, 15, 1, 16, 17, 18, 19, 20, 21, 22, 23, 24, 25, 26, 27, 28, 29, 30, 31, 32, 33, 34, 35, 36, 37, 38, 39, 40, 41, 42, 43, 44, 45, 46, 47, 48, 49, 50, 51, 52, 53, 54, 55, 56, 57, 58, 59, 81, 82, 83, 84, 85, 86, 87, 88, 89, 90, 91, 96, 97, 98, 99, 92, 93, 94, 95, 100, 101, 102, 103, 104, 105, 106] (by decide +kernel) (by decide +kernel)
set_option maxRecDepth 20000 in
theorem gX3_toldAtLeast_X3_pairOf : GoodIn wsX3_toldAtLeast (wsV RX3 127 RX3 yX3_pairOf wsX3_pairOf) := goodIn_app (goodIn_of _ (by decide +kernel)) ggX3_toldAtLeast_X3_pairOf
set_option maxRecDepth 20000 in
theorem ggX3_toldAtLeast_X0_toldShare : GoodIn wsX3_toldAtLeast wsX0_toldShare := goodIn_r _ [63, 64, 65, 66, 48, 67, 58, 68, 69, 70, 71, 53, 72, 73, 74, 75, 76, 77, 78, 79, 7, 80, 100, 101, 102, 103, 104, 105, 106] (by decide +kernel) (by decide +kernel)
set_option maxRecDepth 20000 in
theorem gX3_toldAtLeast_X0_toldShare : GoodIn wsX3_toldAtLeast (wsV RX3 137 RX0 yX0_toldShare wsX0_toldShare) := goodIn_app (goodIn_of _ (by decide +kernel)) ggX3_toldAtLeast_X0_toldShare
theorem dX3_toldAtLeast_0 : decode cX3_toldAtLeast 0 = .ok (.iconst 0, 1) := by decide +kernel
theorem dX3_toldAtLeast_1 : decode cX3_toldAtLeast 1 = .ok (.istore_n 3, 1) := by decide +kernel
theorem dX3_toldAtLeast_2 : decode cX3_toldAtLeast 2 = .ok (.iconst 0, 1) := by decide +kernel
theorem dX3_toldAtLeast_3 : decode cX3_toldAtLeast 3 = .ok (.istore 4, 2) := by decide +kernel
theorem dX3_toldAtLeast_5 : decode cX3_toldAtLeast 5 = .ok (.iload 4, 2) := by decide +kernel
theorem dX3_toldAtLeast_7 : decode cX3_toldAtLeast 7 = .ok (.aload_n 0, 1) := by decide +kernel
theorem dX3_toldAtLeast_8 : decode cX3_toldAtLeast 8 = .ok (.getfield 10, 3) := by decide +kernel
theorem dX3_toldAtLeast_11 : decode cX3_toldAtLeast 11 = .ok (.getfield 74, 3) := by decide +kernel
theorem dX3_toldAtLeast_14 : decode cX3_toldAtLeast 14 = .ok (.if_icmp .ge 39, 3) := by decide +kernel
theorem dX3_toldAtLeast_17 : decode cX3_toldAtLeast 17 = .ok (.aload_n 0, 1) := by decide +kernel
theorem dX3_toldAtLeast_18 : decode cX3_toldAtLeast 18 = .ok (.iload_n 1, 1) := by decide +kernel
theorem dX3_toldAtLeast_19 : decode cX3_toldAtLeast 19 = .ok (.iload 4, 2) := by decide +kernel
theorem dX3_toldAtLeast_21 : decode cX3_toldAtLeast 21 = .ok (.invokevirtual 127, 3) := by decide +kernel
theorem dX3_toldAtLeast_24 : decode cX3_toldAtLeast 24 = .ok (.aload_n 0, 1) := by decide +kernel
theorem dX3_toldAtLeast_25 : decode cX3_toldAtLeast 25 = .ok (.getfield 10, 3) := by decide +kernel
theorem dX3_toldAtLeast_28 : decode cX3_toldAtLeast 28 = .ok (.getfield 67, 3) := by decide +kernel
theorem dX3_toldAtLeast_31 : decode cX3_toldAtLeast 31 = .ok (.iconst 1, 1) := by decide +kernel
theorem dX3_toldAtLeast_32 : decode cX3_toldAtLeast 32 = .ok (.iaload, 1) := by decide +kernel
theorem dX3_toldAtLeast_33 : decode cX3_toldAtLeast 33 = .ok (.invokevirtual 137, 3) := by decide +kernel
theorem dX3_toldAtLeast_36 : decode cX3_toldAtLeast 36 = .ok (.iload_n 2, 1) := by decide +kernel
theorem dX3_toldAtLeast_37 : decode cX3_toldAtLeast 37 = .ok (.if_icmp .lt 10, 3) := by decide +kernel
theorem dX3_toldAtLeast_40 : decode cX3_toldAtLeast 40 = .ok (.iload_n 3, 1) := by decide +kernel
theorem dX3_toldAtLeast_41 : decode cX3_toldAtLeast 41 = .ok (.iconst 1, 1) := by decide +kernel
theorem dX3_toldAtLeast_42 : decode cX3_toldAtLeast 42 = .ok (.iload 4, 2) := by decide +kernel
theorem dX3_toldAtLeast_44 : decode cX3_toldAtLeast 44 = .ok (.ishl, 1) := by decide +kernel
theorem dX3_toldAtLeast_45 : decode cX3_toldAtLeast 45 = .ok (.ior, 1) := by decide +kernel
theorem dX3_toldAtLeast_46 : decode cX3_toldAtLeast 46 = .ok (.istore_n 3, 1) := by decide +kernel
theorem dX3_toldAtLeast_47 : decode cX3_toldAtLeast 47 = .ok (.iinc 4 1, 3) := by decide +kernel
theorem dX3_toldAtLeast_50 : decode cX3_toldAtLeast 50 = .ok (.goto (-45), 3) := by decide +kernel
theorem dX3_toldAtLeast_53 : decode cX3_toldAtLeast 53 = .ok (.iload_n 3, 1) := by decide +kernel
theorem dX3_toldAtLeast_54 : decode cX3_toldAtLeast 54 = .ok (.ireturn, 1) := by decide +kernel
theorem dX3_lowestIn_0 : decode cX3_lowestIn 0 = .ok (.iconst 0, 1) := by decide +kernel
theorem dX3_lowestIn_1 : decode cX3_lowestIn 1 = .ok (.istore_n 1, 1) := by decide +kernel
theorem dX3_lowestIn_2 : decode cX3_lowestIn 2 = .ok (.iload_n 1, 1) := by decide +kernel
theorem dX3_lowestIn_3 : decode cX3_lowestIn 3 = .ok (.bipush 10, 2) := by decide +kernel
theorem dX3_lowestIn_5 : decode cX3_lowestIn 5 = .ok (.if_icmp .ge 19, 3) := by decide +kernel
theorem dX3_lowestIn_8 : decode cX3_lowestIn 8 = .ok (.iload_n 0, 1) := by decide +kernel
theorem dX3_lowestIn_9 : decode cX3_lowestIn 9 = .ok (.iconst 1, 1) := by decide +kernel
theorem dX3_lowestIn_10 : decode cX3_lowestIn 10 = .ok (.iload_n 1, 1) := by decide +kernel
theorem dX3_lowestIn_11 : decode cX3_lowestIn 11 = .ok (.ishl, 1) := by decide +kernel
theorem dX3_lowestIn_12 : decode cX3_lowestIn 12 = .ok (.iand, 1) := by decide +kernel
theorem dX3_lowestIn_13 : decode cX3_lowestIn 13 = .ok (.ifCond .eq 5, 3) := by decide +kernel
theorem dX3_lowestIn_16 : decode cX3_lowestIn 16 = .ok (.iload_n 1, 1) := by decide +kernel
theorem dX3_lowestIn_17 : decode cX3_lowestIn 17 = .ok (.ireturn, 1) := by decide +kernel
theorem dX3_lowestIn_18 : decode cX3_lowestIn 18 = .ok (.iinc 1 1, 3) := by decide +kernel
theorem dX3_lowestIn_21 : decode cX3_lowestIn 21 = .ok (.goto (-19), 3) := by decide +kernel
theorem dX3_lowestIn_24 : decode cX3_lowestIn 24 = .ok (.iconst 0, 1) := by decide +kernel
theorem dX3_lowestIn_25 : decode cX3_lowestIn 25 = .ok (.ireturn, 1) := by decide +kernel
theorem dX3_shareDown_0 : decode cX3_shareDown 0 = .ok (.iload_n 1, 1) := by decide +kernel
theorem dX3_shareDown_1 : decode cX3_shareDown 1 = .ok (.ifCond .gt 7, 3) := by decide +kernel
theorem dX3_shareDown_4 : decode cX3_shareDown 4 = .ok (.iconst 0, 1) := by decide +kernel
theorem dX3_shareDown_5 : decode cX3_shareDown 5 = .ok (.goto 10, 3) := by decide +kernel
theorem dX3_shareDown_8 : decode cX3_shareDown 8 = .ok (.iload_n 0, 1) := by decide +kernel
theorem dX3_shareDown_9 : decode cX3_shareDown 9 = .ok (.sipush 10000, 3) := by decide +kernel
theorem dX3_shareDown_12 : decode cX3_shareDown 12 = .ok (.imul, 1) := by decide +kernel
theorem dX3_shareDown_13 : decode cX3_shareDown 13 = .ok (.iload_n 1, 1) := by decide +kernel
theorem dX3_shareDown_14 : decode cX3_shareDown 14 = .ok (.idiv, 1) := by decide +kernel
theorem dX3_shareDown_15 : decode cX3_shareDown 15 = .ok (.ireturn, 1) := by decide +kernel
theorem dX3_shareUp_0 : decode cX3_shareUp 0 = .ok (.iload_n 1, 1) := by decide +kernel
theorem dX3_shareUp_1 : decode cX3_shareUp 1 = .ok (.ifCond .gt 7, 3) := by decide +kernel
theorem dX3_shareUp_4 : decode cX3_shareUp 4 = .ok (.iconst 0, 1) := by decide +kernel
theorem dX3_shareUp_5 : decode cX3_shareUp 5 = .ok (.goto 14, 3) := by decide +kernel
theorem dX3_shareUp_8 : decode cX3_shareUp 8 = .ok (.iload_n 0, 1) := by decide +kernel
theorem dX3_shareUp_9 : decode cX3_shareUp 9 = .ok (.sipush 10000, 3) := by decide +kernel
theorem dX3_shareUp_12 : decode cX3_shareUp 12 = .ok (.imul, 1) := by decide +kernel
theorem dX3_shareUp_13 : decode cX3_shareUp 13 = .ok (.iload_n 1, 1) := by decide +kernel
theorem dX3_shareUp_14 : decode cX3_shareUp 14 = .ok (.iadd, 1) := by decide +kernel
theorem dX3_shareUp_15 : decode cX3_shareUp 15 = .ok (.iconst 1, 1) := by decide +kernel
theorem dX3_shareUp_16 : decode cX3_shareUp 16 = .ok (.isub, 1) := by decide +kernel
theorem dX3_shareUp_17 : decode cX3_shareUp 17 = .ok (.iload_n 1, 1) := by decide +kernel
theorem dX3_shareUp_18 : decode cX3_shareUp 18 = .ok (.idiv, 1) := by decide +kernel
theorem dX3_shareUp_19 : decode cX3_shareUp 19 = .ok (.ireturn, 1) := by decide +kernel
theorem dX3_codeIn_0 : decode cX3_codeIn 0 = .ok (.lload_n 0, 1) := by decide +kernel
theorem dX3_codeIn_1 : decode cX3_codeIn 1 = .ok (.bipush 8, 2) := by decide +kernel
theorem dX3_codeIn_3 : decode cX3_codeIn 3 = .ok (.iload_n 2, 1) := by decide +kernel
theorem dX3_codeIn_4 : decode cX3_codeIn 4 = .ok (.imul, 1) := by decide +kernel
theorem dX3_codeIn_5 : decode cX3_codeIn 5 = .ok (.lushr, 1) := by decide +kernel
theorem dX3_codeIn_6 : decode cX3_codeIn 6 = .ok (.ldc2_w 225, 3) := by decide +kernel
theorem dX3_codeIn_9 : decode cX3_codeIn 9 = .ok (.land, 1) := by decide +kernel
theorem dX3_codeIn_10 : decode cX3_codeIn 10 = .ok (.l2i, 1) := by decide +kernel
theorem dX3_codeIn_11 : decode cX3_codeIn 11 = .ok (.ireturn, 1) := by decide +kernel
set_option maxRecDepth 20000 in
theorem ggX3_charactersIn_X3_codeIn : GoodIn wsX3_charactersIn wsX3_codeIn := goodIn_r _ [4, 5] (by decide +kernel) (by decide +kernel)
set_option maxRecDepth 20000 in
theorem gX3_charactersIn_X3_codeIn : GoodIn wsX3_charactersIn (va_wsS RX3 190 yX3_codeIn wsX3_codeIn) := goodIn_app (goodIn_of _ (by decide +kernel)) ggX3_charactersIn_X3_codeIn
theorem dX3_charactersIn_0 : decode cX3_charactersIn 0 = .ok (.iconst 0, 1) := by decide +kernel
theorem dX3_charactersIn_1 : decode cX3_charactersIn 1 = .ok (.istore_n 2, 1) := by decide +kernel
theorem dX3_charactersIn_2 : decode cX3_charactersIn 2 = .ok (.iconst 0, 1) := by decide +kernel
theorem dX3_charactersIn_3 : decode cX3_charactersIn 3 = .ok (.istore_n 3, 1) := by decide +kernel
theorem dX3_charactersIn_4 : decode cX3_charactersIn 4 = .ok (.iload_n 3, 1) := by decide +kernel
theorem dX3_charactersIn_5 : decode cX3_charactersIn 5 = .ok (.bipush 8, 2) := by decide +kernel
theorem dX3_charactersIn_7 : decode cX3_charactersIn 7 = .ok (.if_icmp .ge 48, 3) := by decide +kernel
theorem dX3_charactersIn_10 : decode cX3_charactersIn 10 = .ok (.lload_n 0, 1) := by decide +kernel
theorem dX3_charactersIn_11 : decode cX3_charactersIn 11 = .ok (.iload_n 3, 1) := by decide +kernel
theorem dX3_charactersIn_12 : decode cX3_charactersIn 12 = .ok (.invokestatic 190, 3) := by decide +kernel
theorem dX3_charactersIn_15 : decode cX3_charactersIn 15 = .ok (.istore 4, 2) := by decide +kernel
theorem dX3_charactersIn_17 : decode cX3_charactersIn 17 = .ok (.iload 4, 2) := by decide +kernel
theorem dX3_charactersIn_19 : decode cX3_charactersIn 19 = .ok (.ifCond .ne 6, 3) := by decide +kernel
theorem dX3_charactersIn_22 : decode cX3_charactersIn 22 = .ok (.goto 27, 3) := by decide +kernel
theorem dX3_charactersIn_25 : decode cX3_charactersIn 25 = .ok (.iload_n 2, 1) := by decide +kernel
theorem dX3_charactersIn_26 : decode cX3_charactersIn 26 = .ok (.iload_n 3, 1) := by decide +kernel
theorem dX3_charactersIn_27 : decode cX3_charactersIn 27 = .ok (.if_icmp .lt 17, 3) := by decide +kernel
theorem dX3_charactersIn_30 : decode cX3_charactersIn 30 = .ok (.iload 4, 2) := by decide +kernel
theorem dX3_charactersIn_32 : decode cX3_charactersIn 32 = .ok (.bipush 33, 2) := by decide +kernel
theorem dX3_charactersIn_34 : decode cX3_charactersIn 34 = .ok (.if_icmp .lt 10, 3) := by decide +kernel
theorem dX3_charactersIn_37 : decode cX3_charactersIn 37 = .ok (.iload 4, 2) := by decide +kernel
theorem dX3_charactersIn_39 : decode cX3_charactersIn 39 = .ok (.bipush 126, 2) := by decide +kernel
theorem dX3_charactersIn_41 : decode cX3_charactersIn 41 = .ok (.if_icmp .le 5, 3) := by decide +kernel
theorem dX3_charactersIn_44 : decode cX3_charactersIn 44 = .ok (.iconst 0, 1) := by decide +kernel
theorem dX3_charactersIn_45 : decode cX3_charactersIn 45 = .ok (.ireturn, 1) := by decide +kernel
theorem dX3_charactersIn_46 : decode cX3_charactersIn 46 = .ok (.iinc 2 1, 3) := by decide +kernel
theorem dX3_charactersIn_49 : decode cX3_charactersIn 49 = .ok (.iinc 3 1, 3) := by decide +kernel
theorem dX3_charactersIn_52 : decode cX3_charactersIn 52 = .ok (.goto (-48), 3) := by decide +kernel
theorem dX3_charactersIn_55 : decode cX3_charactersIn 55 = .ok (.iload_n 2, 1) := by decide +kernel
theorem dX3_charactersIn_56 : decode cX3_charactersIn 56 = .ok (.ireturn, 1) := by decide +kernel
theorem dX3_signOf_0 : decode cX3_signOf 0 = .ok (.iload_n 0, 1) := by decide +kernel
theorem dX3_signOf_1 : decode cX3_signOf 1 = .ok (.bipush 46, 2) := by decide +kernel
theorem dX3_signOf_3 : decode cX3_signOf 3 = .ok (.if_icmp .ne 6, 3) := by decide +kernel
theorem dX3_signOf_6 : decode cX3_signOf 6 = .ok (.bipush 26, 2) := by decide +kernel
theorem dX3_signOf_8 : decode cX3_signOf 8 = .ok (.ireturn, 1) := by decide +kernel
theorem dX3_signOf_9 : decode cX3_signOf 9 = .ok (.iload_n 0, 1) := by decide +kernel
theorem dX3_signOf_10 : decode cX3_signOf 10 = .ok (.bipush 97, 2) := by decide +kernel
theorem dX3_signOf_12 : decode cX3_signOf 12 = .ok (.if_icmp .lt 16, 3) := by decide +kernel
theorem dX3_signOf_15 : decode cX3_signOf 15 = .ok (.iload_n 0, 1) := by decide +kernel
theorem dX3_signOf_16 : decode cX3_signOf 16 = .ok (.bipush 122, 2) := by decide +kernel
theorem dX3_signOf_18 : decode cX3_signOf 18 = .ok (.if_icmp .gt 10, 3) := by decide +kernel
theorem dX3_signOf_21 : decode cX3_signOf 21 = .ok (.iload_n 0, 1) := by decide +kernel
theorem dX3_signOf_22 : decode cX3_signOf 22 = .ok (.bipush 97, 2) := by decide +kernel
theorem dX3_signOf_24 : decode cX3_signOf 24 = .ok (.isub, 1) := by decide +kernel
theorem dX3_signOf_25 : decode cX3_signOf 25 = .ok (.goto 5, 3) := by decide +kernel
theorem dX3_signOf_28 : decode cX3_signOf 28 = .ok (.bipush (-6), 2) := by decide +kernel
theorem dX3_signOf_30 : decode cX3_signOf 30 = .ok (.ireturn, 1) := by decide +kernel
set_option maxRecDepth 20000 in
theorem ggX3_padFault_X3_signOf : GoodIn wsX3_padFault wsX3_signOf := goodIn_r _ [6] (by decide +kernel) (by decide +kernel)
set_option maxRecDepth 20000 in
theorem gX3_padFault_X3_signOf : GoodIn wsX3_padFault (va_wsS RX3 227 yX3_signOf wsX3_signOf) := goodIn_app (goodIn_of _ (by decide +kernel)) ggX3_padFault_X3_signOf
theorem dX3_padFault_0 : decode cX3_padFault 0 = .ok (.aload_n 0, 1) := by decide +kernel
theorem dX3_padFault_1 : decode cX3_padFault 1 = .ok (.getfield 35, 3) := by decide +kernel
theorem dX3_padFault_4 : decode cX3_padFault 4 = .ok (.ifCond .ne 5, 3) := by decide +kernel
theorem dX3_padFault_7 : decode cX3_padFault 7 = .ok (.iconst 0, 1) := by decide +kernel
theorem dX3_padFault_8 : decode cX3_padFault 8 = .ok (.ireturn, 1) := by decide +kernel
theorem dX3_padFault_9 : decode cX3_padFault 9 = .ok (.iconst 0, 1) := by decide +kernel
theorem dX3_padFault_10 : decode cX3_padFault 10 = .ok (.istore_n 1, 1) := by decide +kernel
theorem dX3_padFault_11 : decode cX3_padFault 11 = .ok (.iload_n 1, 1) := by decide +kernel
theorem dX3_padFault_12 : decode cX3_padFault 12 = .ok (.aload_n 0, 1) := by decide +kernel
theorem dX3_padFault_13 : decode cX3_padFault 13 = .ok (.getfield 35, 3) := by decide +kernel
theorem dX3_padFault_16 : decode cX3_padFault 16 = .ok (.if_icmp .ge 25, 3) := by decide +kernel
theorem dX3_padFault_19 : decode cX3_padFault 19 = .ok (.aload_n 0, 1) := by decide +kernel
theorem dX3_padFault_20 : decode cX3_padFault 20 = .ok (.getfield 31, 3) := by decide +kernel
theorem dX3_padFault_23 : decode cX3_padFault 23 = .ok (.iload_n 1, 1) := by decide +kernel
theorem dX3_padFault_24 : decode cX3_padFault 24 = .ok (.iaload, 1) := by decide +kernel
theorem dX3_padFault_25 : decode cX3_padFault 25 = .ok (.invokestatic 227, 3) := by decide +kernel
theorem dX3_padFault_28 : decode cX3_padFault 28 = .ok (.bipush (-6), 2) := by decide +kernel
theorem dX3_padFault_30 : decode cX3_padFault 30 = .ok (.if_icmp .ne 5, 3) := by decide +kernel
theorem dX3_padFault_33 : decode cX3_padFault 33 = .ok (.iload_n 1, 1) := by decide +kernel
theorem dX3_padFault_34 : decode cX3_padFault 34 = .ok (.ireturn, 1) := by decide +kernel
theorem dX3_padFault_35 : decode cX3_padFault 35 = .ok (.iinc 1 1, 3) := by decide +kernel
theorem dX3_padFault_38 : decode cX3_padFault 38 = .ok (.goto (-27), 3) := by decide +kernel
theorem dX3_padFault_41 : decode cX3_padFault 41 = .ok (.bipush (-6), 2) := by decide +kernel
theorem dX3_padFault_43 : decode cX3_padFault 43 = .ok (.ireturn, 1) := by decide +kernel
set_option maxRecDepth 20000 in
theorem ggX3_movePadTo_X3_signOf : GoodIn wsX3_movePadTo wsX3_signOf := goodIn_r _ [9] (by decide +kernel) (by decide +kernel)
set_option maxRecDepth 20000 in
theorem gX3_movePadTo_X3_signOf : GoodIn wsX3_movePadTo (va_wsS RX3 227 yX3_signOf wsX3_signOf) := goodIn_app (goodIn_of _ (by decide +kernel)) ggX3_movePadTo_X3_signOf
theorem dX3_movePadTo_0 : decode cX3_movePadTo 0 = .ok (.iload_n 1, 1) := by decide +kernel
theorem dX3_movePadTo_1 : decode cX3_movePadTo 1 = .ok (.bipush 64, 2) := by decide +kernel
theorem dX3_movePadTo_3 : decode cX3_movePadTo 3 = .ok (.imul, 1) := by decide +kernel
theorem dX3_movePadTo_4 : decode cX3_movePadTo 4 = .ok (.aload_n 0, 1) := by decide +kernel
theorem dX3_movePadTo_5 : decode cX3_movePadTo 5 = .ok (.getfield 10, 3) := by decide +kernel
theorem dX3_movePadTo_8 : decode cX3_movePadTo 8 = .ok (.getfield 77, 3) := by decide +kernel
theorem dX3_movePadTo_11 : decode cX3_movePadTo 11 = .ok (.iload_n 1, 1) := by decide +kernel
theorem dX3_movePadTo_12 : decode cX3_movePadTo 12 = .ok (.iaload, 1) := by decide +kernel
theorem dX3_movePadTo_13 : decode cX3_movePadTo 13 = .ok (.iadd, 1) := by decide +kernel
theorem dX3_movePadTo_14 : decode cX3_movePadTo 14 = .ok (.istore_n 2, 1) := by decide +kernel
theorem dX3_movePadTo_15 : decode cX3_movePadTo 15 = .ok (.iconst 0, 1) := by decide +kernel
theorem dX3_movePadTo_16 : decode cX3_movePadTo 16 = .ok (.istore_n 3, 1) := by decide +kernel
theorem dX3_movePadTo_17 : decode cX3_movePadTo 17 = .ok (.iload_n 3, 1) := by decide +kernel
theorem dX3_movePadTo_18 : decode cX3_movePadTo 18 = .ok (.aload_n 0, 1) := by decide +kernel
theorem dX3_movePadTo_19 : decode cX3_movePadTo 19 = .ok (.getfield 35, 3) := by decide +kernel
theorem dX3_movePadTo_22 : decode cX3_movePadTo 22 = .ok (.if_icmp .ge 29, 3) := by decide +kernel
theorem dX3_movePadTo_25 : decode cX3_movePadTo 25 = .ok (.aload_n 0, 1) := by decide +kernel
theorem dX3_movePadTo_26 : decode cX3_movePadTo 26 = .ok (.getfield 10, 3) := by decide +kernel
theorem dX3_movePadTo_29 : decode cX3_movePadTo 29 = .ok (.getfield 92, 3) := by decide +kernel
theorem dX3_movePadTo_32 : decode cX3_movePadTo 32 = .ok (.iload_n 2, 1) := by decide +kernel
theorem dX3_movePadTo_33 : decode cX3_movePadTo 33 = .ok (.iload_n 3, 1) := by decide +kernel
theorem dX3_movePadTo_34 : decode cX3_movePadTo 34 = .ok (.iadd, 1) := by decide +kernel
theorem dX3_movePadTo_35 : decode cX3_movePadTo 35 = .ok (.aload_n 0, 1) := by decide +kernel
theorem dX3_movePadTo_36 : decode cX3_movePadTo 36 = .ok (.getfield 31, 3) := by decide +kernel
theorem dX3_movePadTo_39 : decode cX3_movePadTo 39 = .ok (.iload_n 3, 1) := by decide +kernel
theorem dX3_movePadTo_40 : decode cX3_movePadTo 40 = .ok (.iaload, 1) := by decide +kernel
theorem dX3_movePadTo_41 : decode cX3_movePadTo 41 = .ok (.invokestatic 227, 3) := by decide +kernel
theorem dX3_movePadTo_44 : decode cX3_movePadTo 44 = .ok (.iastore, 1) := by decide +kernel
theorem dX3_movePadTo_45 : decode cX3_movePadTo 45 = .ok (.iinc 3 1, 3) := by decide +kernel
theorem dX3_movePadTo_48 : decode cX3_movePadTo 48 = .ok (.goto (-31), 3) := by decide +kernel
theorem dX3_movePadTo_51 : decode cX3_movePadTo 51 = .ok (.aload_n 0, 1) := by decide +kernel
theorem dX3_movePadTo_52 : decode cX3_movePadTo 52 = .ok (.getfield 10, 3) := by decide +kernel
theorem dX3_movePadTo_55 : decode cX3_movePadTo 55 = .ok (.getfield 77, 3) := by decide +kernel
theorem dX3_movePadTo_58 : decode cX3_movePadTo 58 = .ok (.iload_n 1, 1) := by decide +kernel
theorem dX3_movePadTo_59 : decode cX3_movePadTo 59 = .ok (.dup2, 1) := by decide +kernel
theorem dX3_movePadTo_60 : decode cX3_movePadTo 60 = .ok (.iaload, 1) := by decide +kernel
theorem dX3_movePadTo_61 : decode cX3_movePadTo 61 = .ok (.aload_n 0, 1) := by decide +kernel
theorem dX3_movePadTo_62 : decode cX3_movePadTo 62 = .ok (.getfield 35, 3) := by decide +kernel
theorem dX3_movePadTo_65 : decode cX3_movePadTo 65 = .ok (.iadd, 1) := by decide +kernel
theorem dX3_movePadTo_66 : decode cX3_movePadTo 66 = .ok (.iastore, 1) := by decide +kernel
theorem dX3_movePadTo_67 : decode cX3_movePadTo 67 = .ok (.aload_n 0, 1) := by decide +kernel
theorem dX3_movePadTo_68 : decode cX3_movePadTo 68 = .ok (.iconst 0, 1) := by decide +kernel
theorem dX3_movePadTo_69 : decode cX3_movePadTo 69 = .ok (.putfield 35, 3) := by decide +kernel
theorem dX3_movePadTo_72 : decode cX3_movePadTo 72 = .ok (.return_, 1) := by decide +kernel
theorem dX4_init_0 : decode cX4_init 0 = .ok (.aload_n 0, 1) := by decide +kernel
theorem dX4_init_1 : decode cX4_init 1 = .ok (.invokespecial 1, 3) := by decide +kernel
theorem dX4_init_4 : decode cX4_init 4 = .ok (.aload_n 0, 1) := by decide +kernel
theorem dX4_init_5 : decode cX4_init 5 = .ok (.sipush 655, 3) := by decide +kernel
theorem dX4_init_8 : decode cX4_init 8 = .ok (.newarray .int, 2) := by decide +kernel
theorem dX4_init_10 : decode cX4_init 10 = .ok (.putfield 7, 3) := by decide +kernel
theorem dX4_init_13 : decode cX4_init 13 = .ok (.aload_n 0, 1) := by decide +kernel
theorem dX4_init_14 : decode cX4_init 14 = .ok (.sipush 3930, 3) := by decide +kernel
theorem dX4_init_17 : decode cX4_init 17 = .ok (.newarray .int, 2) := by decide +kernel
theorem dX4_init_19 : decode cX4_init 19 = .ok (.putfield 13, 3) := by decide +kernel
theorem dX4_init_22 : decode cX4_init 22 = .ok (.aload_n 0, 1) := by decide +kernel
theorem dX4_init_23 : decode cX4_init 23 = .ok (.sipush 1310, 3) := by decide +kernel
theorem dX4_init_26 : decode cX4_init 26 = .ok (.newarray .int, 2) := by decide +kernel
theorem dX4_init_28 : decode cX4_init 28 = .ok (.putfield 16, 3) := by decide +kernel
theorem dX4_init_31 : decode cX4_init 31 = .ok (.aload_n 0, 1) := by decide +kernel
theorem dX4_init_32 : decode cX4_init 32 = .ok (.iconst 2, 1) := by decide +kernel
theorem dX4_init_33 : decode cX4_init 33 = .ok (.newarray .boolean, 2) := by decide +kernel
theorem dX4_init_35 : decode cX4_init 35 = .ok (.putfield 19, 3) := by decide +kernel
theorem dX4_init_38 : decode cX4_init 38 = .ok (.aload_n 0, 1) := by decide +kernel
theorem dX4_init_39 : decode cX4_init 39 = .ok (.bipush 64, 2) := by decide +kernel
theorem dX4_init_41 : decode cX4_init 41 = .ok (.newarray .int, 2) := by decide +kernel
theorem dX4_init_43 : decode cX4_init 43 = .ok (.putfield 23, 3) := by decide +kernel
theorem dX4_init_46 : decode cX4_init 46 = .ok (.aload_n 0, 1) := by decide +kernel
theorem dX4_init_47 : decode cX4_init 47 = .ok (.sipush 128, 3) := by decide +kernel
theorem dX4_init_50 : decode cX4_init 50 = .ok (.newarray .int, 2) := by decide +kernel
theorem dX4_init_52 : decode cX4_init 52 = .ok (.putfield 26, 3) := by decide +kernel
theorem dX4_init_55 : decode cX4_init 55 = .ok (.aload_n 0, 1) := by decide +kernel
theorem dX4_init_56 : decode cX4_init 56 = .ok (.sipush 128, 3) := by decide +kernel
theorem dX4_init_59 : decode cX4_init 59 = .ok (.newarray .int, 2) := by decide +kernel
theorem dX4_init_61 : decode cX4_init 61 = .ok (.putfield 29, 3) := by decide +kernel
theorem dX4_init_64 : decode cX4_init 64 = .ok (.aload_n 0, 1) := by decide +kernel
theorem dX4_init_65 : decode cX4_init 65 = .ok (.sipush 128, 3) := by decide +kernel
theorem dX4_init_68 : decode cX4_init 68 = .ok (.newarray .int, 2) := by decide +kernel
theorem dX4_init_70 : decode cX4_init 70 = .ok (.putfield 32, 3) := by decide +kernel
theorem dX4_init_73 : decode cX4_init 73 = .ok (.aload_n 0, 1) := by decide +kernel
theorem dX4_init_74 : decode cX4_init 74 = .ok (.iconst 2, 1) := by decide +kernel
theorem dX4_init_75 : decode cX4_init 75 = .ok (.newarray .int, 2) := by decide +kernel
theorem dX4_init_77 : decode cX4_init 77 = .ok (.putfield 35, 3) := by decide +kernel
theorem dX4_init_80 : decode cX4_init 80 = .ok (.aload_n 0, 1) := by decide +kernel
theorem dX4_init_81 : decode cX4_init 81 = .ok (.getfield 7, 3) := by decide +kernel
theorem dX4_init_84 : decode cX4_init 84 = .ok (.iconst 0, 1) := by decide +kernel
theorem dX4_init_85 : decode cX4_init 85 = .ok (.iconst 3, 1) := by decide +kernel
theorem dX4_init_86 : decode cX4_init 86 = .ok (.iastore, 1) := by decide +kernel
theorem dX4_init_87 : decode cX4_init 87 = .ok (.aload_n 0, 1) := by decide +kernel
theorem dX4_init_88 : decode cX4_init 88 = .ok (.getfield 7, 3) := by decide +kernel
theorem dX4_init_91 : decode cX4_init 91 = .ok (.iconst 1, 1) := by decide +kernel
theorem dX4_init_92 : decode cX4_init 92 = .ok (.bipush 8, 2) := by decide +kernel
theorem dX4_init_94 : decode cX4_init 94 = .ok (.iastore, 1) := by decide +kernel
theorem dX4_init_95 : decode cX4_init 95 = .ok (.aload_n 0, 1) := by decide +kernel
theorem dX4_init_96 : decode cX4_init 96 = .ok (.getfield 7, 3) := by decide +kernel
theorem dX4_init_99 : decode cX4_init 99 = .ok (.iconst 2, 1) := by decide +kernel
theorem dX4_init_100 : decode cX4_init 100 = .ok (.sipush 7919, 3) := by decide +kernel
theorem dX4_init_103 : decode cX4_init 103 = .ok (.iastore, 1) := by decide +kernel
theorem dX4_init_104 : decode cX4_init 104 = .ok (.aload_n 0, 1) := by decide +kernel
theorem dX4_init_105 : decode cX4_init 105 = .ok (.getfield 7, 3) := by decide +kernel
theorem dX4_init_108 : decode cX4_init 108 = .ok (.iconst 3, 1) := by decide +kernel
theorem dX4_init_109 : decode cX4_init 109 = .ok (.ldc 38, 2) := by decide +kernel
theorem dX4_init_111 : decode cX4_init 111 = .ok (.iastore, 1) := by decide +kernel
theorem dX4_init_112 : decode cX4_init 112 = .ok (.return_, 1) := by decide +kernel
theorem dX4_in_0 : decode cX4_in 0 = .ok (.iload_n 0, 1) := by decide +kernel
theorem dX4_in_1 : decode cX4_in 1 = .ok (.iload_n 1, 1) := by decide +kernel
theorem dX4_in_2 : decode cX4_in 2 = .ok (.if_icmp .lt 12, 3) := by decide +kernel
theorem dX4_in_5 : decode cX4_in 5 = .ok (.iload_n 0, 1) := by decide +kernel
theorem dX4_in_6 : decode cX4_in 6 = .ok (.iload_n 2, 1) := by decide +kernel
theorem dX4_in_7 : decode cX4_in 7 = .ok (.if_icmp .gt 7, 3) := by decide +kernel
theorem dX4_in_10 : decode cX4_in 10 = .ok (.iconst 1, 1) := by decide +kernel
theorem dX4_in_11 : decode cX4_in 11 = .ok (.goto 4, 3) := by decide +kernel
theorem dX4_in_14 : decode cX4_in 14 = .ok (.iconst 0, 1) := by decide +kernel
theorem dX4_in_15 : decode cX4_in 15 = .ok (.ireturn, 1) := by decide +kernel
set_option maxRecDepth 20000 in
theorem ggX4_isRow_X4_in : GoodIn wsX4_isRow wsX4_in := goodIn_r _ [5] (by decide +kernel) (by decide +kernel)
set_option maxRecDepth 20000 in
theorem gX4_isRow_X4_in : GoodIn wsX4_isRow (va_wsS RX4 39 yX4_in wsX4_in) := goodIn_app (goodIn_of _ (by decide +kernel)) ggX4_isRow_X4_in
theorem dX4_isRow_0 : decode cX4_isRow 0 = .ok (.iload_n 1, 1) := by decide +kernel
theorem dX4_isRow_1 : decode cX4_isRow 1 = .ok (.iconst 0, 1) := by decide +kernel
theorem dX4_isRow_2 : decode cX4_isRow 2 = .ok (.aload_n 0, 1) := by decide +kernel
theorem dX4_isRow_3 : decode cX4_isRow 3 = .ok (.getfield 7, 3) := by decide +kernel
theorem dX4_isRow_6 : decode cX4_isRow 6 = .ok (.iconst 4, 1) := by decide +kernel
theorem dX4_isRow_7 : decode cX4_isRow 7 = .ok (.iaload, 1) := by decide +kernel
theorem dX4_isRow_8 : decode cX4_isRow 8 = .ok (.iconst 1, 1) := by decide +kernel
theorem dX4_isRow_9 : decode cX4_isRow 9 = .ok (.isub, 1) := by decide +kernel
theorem dX4_isRow_10 : decode cX4_isRow 10 = .ok (.invokestatic 39, 3) := by decide +kernel
theorem dX4_isRow_13 : decode cX4_isRow 13 = .ok (.ireturn, 1) := by decide +kernel
set_option maxRecDepth 20000 in
theorem ggX4_isPlace_X4_isRow : GoodIn wsX4_isPlace wsX4_isRow := goodIn_r _ [6, 1, 7, 8, 5, 9, 10, 11, 12, 13, 14, 15, 16, 17, 18, 19, 20, 21, 22, 23, 24] (by decide +kernel) (by decide +kernel)
set_option maxRecDepth 20000 in
theorem gX4_isPlace_X4_isRow : GoodIn wsX4_isPlace (wsV RX4 43 RX4 yX4_isRow wsX4_isRow) := goodIn_app (goodIn_of _ (by decide +kernel)) ggX4_isPlace_X4_isRow
set_option maxRecDepth 20000 in
theorem ggX4_isPlace_X4_in : GoodIn wsX4_isPlace wsX4_in := goodIn_r _ [9] (by decide +kernel) (by decide +kernel)
set_option maxRecDepth 20000 in
theorem gX4_isPlace_X4_in : GoodIn wsX4_isPlace (va_wsS RX4 39 yX4_in wsX4_in) := goodIn_app (goodIn_of _ (by decide +kernel)) ggX4_isPlace_X4_in
theorem dX4_isPlace_0 : decode cX4_isPlace 0 = .ok (.aload_n 0, 1) := by decide +kernel
theorem dX4_isPlace_1 : decode cX4_isPlace 1 = .ok (.iload_n 1, 1) := by decide +kernel
theorem dX4_isPlace_2 : decode cX4_isPlace 2 = .ok (.invokevirtual 43, 3) := by decide +kernel
theorem dX4_isPlace_5 : decode cX4_isPlace 5 = .ok (.ifCond .eq 25, 3) := by decide +kernel
theorem dX4_isPlace_8 : decode cX4_isPlace 8 = .ok (.iload_n 2, 1) := by decide +kernel
theorem dX4_isPlace_9 : decode cX4_isPlace 9 = .ok (.iconst 0, 1) := by decide +kernel
theorem dX4_isPlace_10 : decode cX4_isPlace 10 = .ok (.aload_n 0, 1) := by decide +kernel
theorem dX4_isPlace_11 : decode cX4_isPlace 11 = .ok (.getfield 7, 3) := by decide +kernel
theorem dX4_isPlace_14 : decode cX4_isPlace 14 = .ok (.iconst 5, 1) := by decide +kernel
theorem dX4_isPlace_15 : decode cX4_isPlace 15 = .ok (.iload_n 1, 1) := by decide +kernel
theorem dX4_isPlace_16 : decode cX4_isPlace 16 = .ok (.iadd, 1) := by decide +kernel
theorem dX4_isPlace_17 : decode cX4_isPlace 17 = .ok (.iaload, 1) := by decide +kernel
theorem dX4_isPlace_18 : decode cX4_isPlace 18 = .ok (.iconst 1, 1) := by decide +kernel
theorem dX4_isPlace_19 : decode cX4_isPlace 19 = .ok (.isub, 1) := by decide +kernel
theorem dX4_isPlace_20 : decode cX4_isPlace 20 = .ok (.invokestatic 39, 3) := by decide +kernel
theorem dX4_isPlace_23 : decode cX4_isPlace 23 = .ok (.ifCond .eq 7, 3) := by decide +kernel
theorem dX4_isPlace_26 : decode cX4_isPlace 26 = .ok (.iconst 1, 1) := by decide +kernel
theorem dX4_isPlace_27 : decode cX4_isPlace 27 = .ok (.goto 4, 3) := by decide +kernel
theorem dX4_isPlace_30 : decode cX4_isPlace 30 = .ok (.iconst 0, 1) := by decide +kernel
theorem dX4_isPlace_31 : decode cX4_isPlace 31 = .ok (.ireturn, 1) := by decide +kernel
theorem dX4_at_0 : decode cX4_at 0 = .ok (.aload_n 0, 1) := by decide +kernel
theorem dX4_at_1 : decode cX4_at 1 = .ok (.getfield 7, 3) := by decide +kernel
theorem dX4_at_4 : decode cX4_at 4 = .ok (.bipush 15, 2) := by decide +kernel
theorem dX4_at_6 : decode cX4_at 6 = .ok (.bipush 64, 2) := by decide +kernel
theorem dX4_at_8 : decode cX4_at 8 = .ok (.iload_n 1, 1) := by decide +kernel
theorem dX4_at_9 : decode cX4_at 9 = .ok (.imul, 1) := by decide +kernel
theorem dX4_at_10 : decode cX4_at 10 = .ok (.iadd, 1) := by decide +kernel
theorem dX4_at_11 : decode cX4_at 11 = .ok (.iload_n 2, 1) := by decide +kernel
theorem dX4_at_12 : decode cX4_at 12 = .ok (.iadd, 1) := by decide +kernel
theorem dX4_at_13 : decode cX4_at 13 = .ok (.iaload, 1) := by decide +kernel
theorem dX4_at_14 : decode cX4_at 14 = .ok (.ireturn, 1) := by decide +kernel
theorem dX4_know_0 : decode cX4_know 0 = .ok (.aload_n 0, 1) := by decide +kernel
theorem dX4_know_1 : decode cX4_know 1 = .ok (.getfield 47, 3) := by decide +kernel
theorem dX4_know_4 : decode cX4_know 4 = .ok (.bipush 6, 2) := by decide +kernel
theorem dX4_know_6 : decode cX4_know 6 = .ok (.if_icmp .ne 44, 3) := by decide +kernel
theorem dX4_know_9 : decode cX4_know 9 = .ok (.iconst 0, 1) := by decide +kernel
theorem dX4_know_10 : decode cX4_know 10 = .ok (.istore_n 1, 1) := by decide +kernel
theorem dX4_know_11 : decode cX4_know 11 = .ok (.iload_n 1, 1) := by decide +kernel
theorem dX4_know_12 : decode cX4_know 12 = .ok (.sipush 3275, 3) := by decide +kernel
theorem dX4_know_15 : decode cX4_know 15 = .ok (.if_icmp .ge 25, 3) := by decide +kernel
theorem dX4_know_18 : decode cX4_know 18 = .ok (.aload_n 0, 1) := by decide +kernel
theorem dX4_know_19 : decode cX4_know 19 = .ok (.getfield 13, 3) := by decide +kernel
theorem dX4_know_22 : decode cX4_know 22 = .ok (.iload_n 1, 1) := by decide +kernel
theorem dX4_know_23 : decode cX4_know 23 = .ok (.aload_n 0, 1) := by decide +kernel
theorem dX4_know_24 : decode cX4_know 24 = .ok (.getfield 13, 3) := by decide +kernel
theorem dX4_know_27 : decode cX4_know 27 = .ok (.sipush 655, 3) := by decide +kernel
theorem dX4_know_30 : decode cX4_know 30 = .ok (.iload_n 1, 1) := by decide +kernel
theorem dX4_know_31 : decode cX4_know 31 = .ok (.iadd, 1) := by decide +kernel
theorem dX4_know_32 : decode cX4_know 32 = .ok (.iaload, 1) := by decide +kernel
theorem dX4_know_33 : decode cX4_know 33 = .ok (.iastore, 1) := by decide +kernel
theorem dX4_know_34 : decode cX4_know 34 = .ok (.iinc 1 1, 3) := by decide +kernel
theorem dX4_know_37 : decode cX4_know 37 = .ok (.goto (-26), 3) := by decide +kernel
theorem dX4_know_40 : decode cX4_know 40 = .ok (.aload_n 0, 1) := by decide +kernel
theorem dX4_know_41 : decode cX4_know 41 = .ok (.dup, 1) := by decide +kernel
theorem dX4_know_42 : decode cX4_know 42 = .ok (.getfield 47, 3) := by decide +kernel
theorem dX4_know_45 : decode cX4_know 45 = .ok (.iconst 1, 1) := by decide +kernel
theorem dX4_know_46 : decode cX4_know 46 = .ok (.isub, 1) := by decide +kernel
theorem dX4_know_47 : decode cX4_know 47 = .ok (.putfield 47, 3) := by decide +kernel
theorem dX4_know_50 : decode cX4_know 50 = .ok (.iconst 0, 1) := by decide +kernel
theorem dX4_know_51 : decode cX4_know 51 = .ok (.istore_n 1, 1) := by decide +kernel
theorem dX4_know_52 : decode cX4_know 52 = .ok (.iload_n 1, 1) := by decide +kernel
theorem dX4_know_53 : decode cX4_know 53 = .ok (.sipush 655, 3) := by decide +kernel
theorem dX4_know_56 : decode cX4_know 56 = .ok (.if_icmp .ge 30, 3) := by decide +kernel
theorem dX4_know_59 : decode cX4_know 59 = .ok (.aload_n 0, 1) := by decide +kernel
theorem dX4_know_60 : decode cX4_know 60 = .ok (.getfield 13, 3) := by decide +kernel
theorem dX4_know_63 : decode cX4_know 63 = .ok (.sipush 655, 3) := by decide +kernel
theorem dX4_know_66 : decode cX4_know 66 = .ok (.aload_n 0, 1) := by decide +kernel
theorem dX4_know_67 : decode cX4_know 67 = .ok (.getfield 47, 3) := by decide +kernel
theorem dX4_know_70 : decode cX4_know 70 = .ok (.imul, 1) := by decide +kernel
theorem dX4_know_71 : decode cX4_know 71 = .ok (.iload_n 1, 1) := by decide +kernel
theorem dX4_know_72 : decode cX4_know 72 = .ok (.iadd, 1) := by decide +kernel
theorem dX4_know_73 : decode cX4_know 73 = .ok (.aload_n 0, 1) := by decide +kernel
theorem dX4_know_74 : decode cX4_know 74 = .ok (.getfield 7, 3) := by decide +kernel
theorem dX4_know_77 : decode cX4_know 77 = .ok (.iload_n 1, 1) := by decide +kernel
theorem dX4_know_78 : decode cX4_know 78 = .ok (.iaload, 1) := by decide +kernel
theorem dX4_know_79 : decode cX4_know 79 = .ok (.iastore, 1) := by decide +kernel
theorem dX4_know_80 : decode cX4_know 80 = .ok (.iinc 1 1, 3) := by decide +kernel
theorem dX4_know_83 : decode cX4_know 83 = .ok (.goto (-31), 3) := by decide +kernel
theorem dX4_know_86 : decode cX4_know 86 = .ok (.aload_n 0, 1) := by decide +kernel
theorem dX4_know_87 : decode cX4_know 87 = .ok (.dup, 1) := by decide +kernel
theorem dX4_know_88 : decode cX4_know 88 = .ok (.getfield 47, 3) := by decide +kernel
theorem dX4_know_91 : decode cX4_know 91 = .ok (.iconst 1, 1) := by decide +kernel
theorem dX4_know_92 : decode cX4_know 92 = .ok (.iadd, 1) := by decide +kernel
theorem dX4_know_93 : decode cX4_know 93 = .ok (.putfield 47, 3) := by decide +kernel
theorem dX4_know_96 : decode cX4_know 96 = .ok (.return_, 1) := by decide +kernel
theorem dX4_least_0 : decode cX4_least 0 = .ok (.iload_n 0, 1) := by decide +kernel
theorem dX4_least_1 : decode cX4_least 1 = .ok (.iconst 3, 1) := by decide +kernel
theorem dX4_least_2 : decode cX4_least 2 = .ok (.if_icmp .ne 7, 3) := by decide +kernel
theorem dX4_least_5 : decode cX4_least 5 = .ok (.iconst 0, 1) := by decide +kernel
theorem dX4_least_6 : decode cX4_least 6 = .ok (.goto 4, 3) := by decide +kernel
theorem dX4_least_9 : decode cX4_least 9 = .ok (.iconst 1, 1) := by decide +kernel
theorem dX4_least_10 : decode cX4_least 10 = .ok (.ireturn, 1) := by decide +kernel
theorem dX4_most_0 : decode cX4_most 0 = .ok (.iload_n 0, 1) := by decide +kernel
theorem dX4_most_1 : decode cX4_most 1 = .ok (.ifCond .ne 7, 3) := by decide +kernel
theorem dX4_most_4 : decode cX4_most 4 = .ok (.iconst 4, 1) := by decide +kernel
theorem dX4_most_5 : decode cX4_most 5 = .ok (.goto 15, 3) := by decide +kernel
theorem dX4_most_8 : decode cX4_most 8 = .ok (.iload_n 0, 1) := by decide +kernel
theorem dX4_most_9 : decode cX4_most 9 = .ok (.iconst 1, 1) := by decide +kernel
theorem dX4_most_10 : decode cX4_most 10 = .ok (.if_icmp .ne 8, 3) := by decide +kernel
theorem dX4_most_13 : decode cX4_most 13 = .ok (.bipush 32, 2) := by decide +kernel
theorem dX4_most_15 : decode cX4_most 15 = .ok (.goto 5, 3) := by decide +kernel
theorem dX4_most_18 : decode cX4_most 18 = .ok (.ldc 51, 2) := by decide +kernel
theorem dX4_most_20 : decode cX4_most 20 = .ok (.ireturn, 1) := by decide +kernel
set_option maxRecDepth 20000 in
theorem ggX4_set_X4_in : GoodIn wsX4_set wsX4_in := goodIn_r _ [5] (by decide +kernel) (by decide +kernel)
set_option maxRecDepth 20000 in
theorem gX4_set_X4_in : GoodIn wsX4_set (va_wsS RX4 39 yX4_in wsX4_in) := goodIn_app (goodIn_of _ (by decide +kernel)) ggX4_set_X4_in
set_option maxRecDepth 20000 in
theorem ggX4_set_X4_least : GoodIn wsX4_set wsX4_least := goodIn_r _ [8] (by decide +kernel) (by decide +kernel)
set_option maxRecDepth 20000 in
theorem gX4_set_X4_least : GoodIn wsX4_set (va_wsS RX4 52 yX4_least wsX4_least) := goodIn_app (goodIn_of _ (by decide +kernel)) ggX4_set_X4_least
set_option maxRecDepth 20000 in
theorem ggX4_set_X4_most : GoodIn wsX4_set wsX4_most := goodIn_r _ [11, 12] (by decide +kernel) (by decide +kernel)
set_option maxRecDepth 20000 in
theorem gX4_set_X4_most : GoodIn wsX4_set (va_wsS RX4 56 yX4_most wsX4_most) := goodIn_app (goodIn_of _ (by decide +kernel)) ggX4_set_X4_most
set_option maxRecDepth 20000 in
theorem ggX4_set_X4_know : GoodIn wsX4_set wsX4_know := goodIn_r _ [16, 17, 18, 1, 19, 20, 21, 22, 23, 24, 25, 26, 27, 28, 29, 30, 31, 32, 33] (by decide +kernel) (by decide +kernel)
set_option maxRecDepth 20000 in
theorem gX4_set_X4_know : GoodIn wsX4_set (wsV RX4 59 RX4 yX4_know wsX4_know) := goodIn_app (goodIn_of _ (by decide +kernel)) ggX4_set_X4_know
theorem dX4_set_0 : decode cX4_set 0 = .ok (.iload_n 1, 1) := by decide +kernel
theorem dX4_set_1 : decode cX4_set 1 = .ok (.iconst 0, 1) := by decide +kernel
theorem dX4_set_2 : decode cX4_set 2 = .ok (.iconst 3, 1) := by decide +kernel
theorem dX4_set_3 : decode cX4_set 3 = .ok (.invokestatic 39, 3) := by decide +kernel
theorem dX4_set_6 : decode cX4_set 6 = .ok (.ifCond .eq 18, 3) := by decide +kernel
theorem dX4_set_9 : decode cX4_set 9 = .ok (.iload_n 2, 1) := by decide +kernel
theorem dX4_set_10 : decode cX4_set 10 = .ok (.iload_n 1, 1) := by decide +kernel
theorem dX4_set_11 : decode cX4_set 11 = .ok (.invokestatic 52, 3) := by decide +kernel
theorem dX4_set_14 : decode cX4_set 14 = .ok (.iload_n 1, 1) := by decide +kernel
theorem dX4_set_15 : decode cX4_set 15 = .ok (.invokestatic 56, 3) := by decide +kernel
theorem dX4_set_18 : decode cX4_set 18 = .ok (.invokestatic 39, 3) := by decide +kernel
theorem dX4_set_21 : decode cX4_set 21 = .ok (.ifCond .ne 6, 3) := by decide +kernel
theorem dX4_set_24 : decode cX4_set 24 = .ok (.bipush (-2), 2) := by decide +kernel
theorem dX4_set_26 : decode cX4_set 26 = .ok (.ireturn, 1) := by decide +kernel
theorem dX4_set_27 : decode cX4_set 27 = .ok (.aload_n 0, 1) := by decide +kernel
theorem dX4_set_28 : decode cX4_set 28 = .ok (.invokevirtual 59, 3) := by decide +kernel
theorem dX4_set_31 : decode cX4_set 31 = .ok (.aload_n 0, 1) := by decide +kernel
theorem dX4_set_32 : decode cX4_set 32 = .ok (.getfield 7, 3) := by decide +kernel
theorem dX4_set_35 : decode cX4_set 35 = .ok (.iload_n 1, 1) := by decide +kernel
theorem dX4_set_36 : decode cX4_set 36 = .ok (.iaload, 1) := by decide +kernel
theorem dX4_set_37 : decode cX4_set 37 = .ok (.istore_n 3, 1) := by decide +kernel
theorem dX4_set_38 : decode cX4_set 38 = .ok (.aload_n 0, 1) := by decide +kernel
theorem dX4_set_39 : decode cX4_set 39 = .ok (.getfield 7, 3) := by decide +kernel
theorem dX4_set_42 : decode cX4_set 42 = .ok (.iload_n 1, 1) := by decide +kernel
theorem dX4_set_43 : decode cX4_set 43 = .ok (.iload_n 2, 1) := by decide +kernel
theorem dX4_set_44 : decode cX4_set 44 = .ok (.iastore, 1) := by decide +kernel
theorem dX4_set_45 : decode cX4_set 45 = .ok (.iload_n 3, 1) := by decide +kernel
theorem dX4_set_46 : decode cX4_set 46 = .ok (.ireturn, 1) := by decide +kernel
set_option maxRecDepth 20000 in
theorem ggX4_signOf_X4_in : GoodIn wsX4_signOf wsX4_in := goodIn_r _ [4] (by decide +kernel) (by decide +kernel)
set_option maxRecDepth 20000 in
theorem gX4_signOf_X4_in : GoodIn wsX4_signOf (va_wsS RX4 39 yX4_in wsX4_in) := goodIn_app (goodIn_of _ (by decide +kernel)) ggX4_signOf_X4_in
theorem dX4_signOf_0 : decode cX4_signOf 0 = .ok (.iload_n 0, 1) := by decide +kernel
theorem dX4_signOf_1 : decode cX4_signOf 1 = .ok (.bipush 46, 2) := by decide +kernel
theorem dX4_signOf_3 : decode cX4_signOf 3 = .ok (.if_icmp .ne 8, 3) := by decide +kernel
theorem dX4_signOf_6 : decode cX4_signOf 6 = .ok (.bipush 26, 2) := by decide +kernel
theorem dX4_signOf_8 : decode cX4_signOf 8 = .ok (.goto 23, 3) := by decide +kernel
theorem dX4_signOf_11 : decode cX4_signOf 11 = .ok (.iload_n 0, 1) := by decide +kernel
theorem dX4_signOf_12 : decode cX4_signOf 12 = .ok (.bipush 97, 2) := by decide +kernel
theorem dX4_signOf_14 : decode cX4_signOf 14 = .ok (.bipush 122, 2) := by decide +kernel
theorem dX4_signOf_16 : decode cX4_signOf 16 = .ok (.invokestatic 39, 3) := by decide +kernel
theorem dX4_signOf_19 : decode cX4_signOf 19 = .ok (.ifCond .eq 10, 3) := by decide +kernel
theorem dX4_signOf_22 : decode cX4_signOf 22 = .ok (.iload_n 0, 1) := by decide +kernel
theorem dX4_signOf_23 : decode cX4_signOf 23 = .ok (.bipush 97, 2) := by decide +kernel
theorem dX4_signOf_25 : decode cX4_signOf 25 = .ok (.isub, 1) := by decide +kernel
theorem dX4_signOf_26 : decode cX4_signOf 26 = .ok (.goto 5, 3) := by decide +kernel
theorem dX4_signOf_29 : decode cX4_signOf 29 = .ok (.bipush (-6), 2) := by decide +kernel
theorem dX4_signOf_31 : decode cX4_signOf 31 = .ok (.ireturn, 1) := by decide +kernel
set_option maxRecDepth 20000 in
theorem ggX4_fault_X4_signOf : GoodIn wsX4_fault wsX4_signOf := goodIn_r _ [6, 7, 8, 5, 9] (by decide +kernel) (by decide +kernel)
set_option maxRecDepth 20000 in
theorem gX4_fault_X4_signOf : GoodIn wsX4_fault (va_wsS RX4 65 yX4_signOf wsX4_signOf) := goodIn_app (goodIn_of _ (by decide +kernel)) ggX4_fault_X4_signOf
theorem dX4_fault_0 : decode cX4_fault 0 = .ok (.iconst 0, 1) := by decide +kernel
theorem dX4_fault_1 : decode cX4_fault 1 = .ok (.istore_n 1, 1) := by decide +kernel
theorem dX4_fault_2 : decode cX4_fault 2 = .ok (.iload_n 1, 1) := by decide +kernel
theorem dX4_fault_3 : decode cX4_fault 3 = .ok (.aload_n 0, 1) := by decide +kernel
theorem dX4_fault_4 : decode cX4_fault 4 = .ok (.getfield 62, 3) := by decide +kernel
theorem dX4_fault_7 : decode cX4_fault 7 = .ok (.if_icmp .ge 25, 3) := by decide +kernel
theorem dX4_fault_10 : decode cX4_fault 10 = .ok (.aload_n 0, 1) := by decide +kernel
theorem dX4_fault_11 : decode cX4_fault 11 = .ok (.getfield 23, 3) := by decide +kernel
theorem dX4_fault_14 : decode cX4_fault 14 = .ok (.iload_n 1, 1) := by decide +kernel
theorem dX4_fault_15 : decode cX4_fault 15 = .ok (.iaload, 1) := by decide +kernel
theorem dX4_fault_16 : decode cX4_fault 16 = .ok (.invokestatic 65, 3) := by decide +kernel
theorem dX4_fault_19 : decode cX4_fault 19 = .ok (.bipush (-6), 2) := by decide +kernel
theorem dX4_fault_21 : decode cX4_fault 21 = .ok (.if_icmp .ne 5, 3) := by decide +kernel
theorem dX4_fault_24 : decode cX4_fault 24 = .ok (.iload_n 1, 1) := by decide +kernel
theorem dX4_fault_25 : decode cX4_fault 25 = .ok (.ireturn, 1) := by decide +kernel
theorem dX4_fault_26 : decode cX4_fault 26 = .ok (.iinc 1 1, 3) := by decide +kernel
theorem dX4_fault_29 : decode cX4_fault 29 = .ok (.goto (-27), 3) := by decide +kernel
theorem dX4_fault_32 : decode cX4_fault 32 = .ok (.aload_n 0, 1) := by decide +kernel
theorem dX4_fault_33 : decode cX4_fault 33 = .ok (.getfield 62, 3) := by decide +kernel
theorem dX4_fault_36 : decode cX4_fault 36 = .ok (.ifCond .ne 7, 3) := by decide +kernel
theorem dX4_fault_39 : decode cX4_fault 39 = .ok (.iconst 0, 1) := by decide +kernel
theorem dX4_fault_40 : decode cX4_fault 40 = .ok (.goto 5, 3) := by decide +kernel
theorem dX4_fault_43 : decode cX4_fault 43 = .ok (.bipush (-6), 2) := by decide +kernel
theorem dX4_fault_45 : decode cX4_fault 45 = .ok (.ireturn, 1) := by decide +kernel
set_option maxRecDepth 20000 in
theorem ggX4_pour_X4_signOf : GoodIn wsX4_pour wsX4_signOf := goodIn_r _ [7, 8, 9, 6, 10] (by decide +kernel) (by decide +kernel)
set_option maxRecDepth 20000 in
theorem gX4_pour_X4_signOf : GoodIn wsX4_pour (va_wsS RX4 65 yX4_signOf wsX4_signOf) := goodIn_app (goodIn_of _ (by decide +kernel)) ggX4_pour_X4_signOf
theorem dX4_pour_0 : decode cX4_pour 0 = .ok (.iconst 0, 1) := by decide +kernel
theorem dX4_pour_1 : decode cX4_pour 1 = .ok (.istore_n 2, 1) := by decide +kernel
theorem dX4_pour_2 : decode cX4_pour 2 = .ok (.iload_n 2, 1) := by decide +kernel
theorem dX4_pour_3 : decode cX4_pour 3 = .ok (.aload_n 0, 1) := by decide +kernel
theorem dX4_pour_4 : decode cX4_pour 4 = .ok (.getfield 62, 3) := by decide +kernel
theorem dX4_pour_7 : decode cX4_pour 7 = .ok (.if_icmp .ge 41, 3) := by decide +kernel
theorem dX4_pour_10 : decode cX4_pour 10 = .ok (.aload_n 0, 1) := by decide +kernel
theorem dX4_pour_11 : decode cX4_pour 11 = .ok (.getfield 7, 3) := by decide +kernel
theorem dX4_pour_14 : decode cX4_pour 14 = .ok (.bipush 15, 2) := by decide +kernel
theorem dX4_pour_16 : decode cX4_pour 16 = .ok (.bipush 64, 2) := by decide +kernel
theorem dX4_pour_18 : decode cX4_pour 18 = .ok (.iload_n 1, 1) := by decide +kernel
theorem dX4_pour_19 : decode cX4_pour 19 = .ok (.imul, 1) := by decide +kernel
theorem dX4_pour_20 : decode cX4_pour 20 = .ok (.iadd, 1) := by decide +kernel
theorem dX4_pour_21 : decode cX4_pour 21 = .ok (.aload_n 0, 1) := by decide +kernel
theorem dX4_pour_22 : decode cX4_pour 22 = .ok (.getfield 7, 3) := by decide +kernel
theorem dX4_pour_25 : decode cX4_pour 25 = .ok (.iconst 5, 1) := by decide +kernel
theorem dX4_pour_26 : decode cX4_pour 26 = .ok (.iload_n 1, 1) := by decide +kernel
theorem dX4_pour_27 : decode cX4_pour 27 = .ok (.iadd, 1) := by decide +kernel
theorem dX4_pour_28 : decode cX4_pour 28 = .ok (.iaload, 1) := by decide +kernel
theorem dX4_pour_29 : decode cX4_pour 29 = .ok (.iadd, 1) := by decide +kernel
theorem dX4_pour_30 : decode cX4_pour 30 = .ok (.iload_n 2, 1) := by decide +kernel
theorem dX4_pour_31 : decode cX4_pour 31 = .ok (.iadd, 1) := by decide +kernel
theorem dX4_pour_32 : decode cX4_pour 32 = .ok (.aload_n 0, 1) := by decide +kernel
theorem dX4_pour_33 : decode cX4_pour 33 = .ok (.getfield 23, 3) := by decide +kernel
theorem dX4_pour_36 : decode cX4_pour 36 = .ok (.iload_n 2, 1) := by decide +kernel
theorem dX4_pour_37 : decode cX4_pour 37 = .ok (.iaload, 1) := by decide +kernel
theorem dX4_pour_38 : decode cX4_pour 38 = .ok (.invokestatic 65, 3) := by decide +kernel
theorem dX4_pour_41 : decode cX4_pour 41 = .ok (.iastore, 1) := by decide +kernel
theorem dX4_pour_42 : decode cX4_pour 42 = .ok (.iinc 2 1, 3) := by decide +kernel
theorem dX4_pour_45 : decode cX4_pour 45 = .ok (.goto (-43), 3) := by decide +kernel
theorem dX4_pour_48 : decode cX4_pour 48 = .ok (.aload_n 0, 1) := by decide +kernel
theorem dX4_pour_49 : decode cX4_pour 49 = .ok (.getfield 7, 3) := by decide +kernel
theorem dX4_pour_52 : decode cX4_pour 52 = .ok (.iconst 5, 1) := by decide +kernel
theorem dX4_pour_53 : decode cX4_pour 53 = .ok (.iload_n 1, 1) := by decide +kernel
theorem dX4_pour_54 : decode cX4_pour 54 = .ok (.iadd, 1) := by decide +kernel
theorem dX4_pour_55 : decode cX4_pour 55 = .ok (.dup2, 1) := by decide +kernel
theorem dX4_pour_56 : decode cX4_pour 56 = .ok (.iaload, 1) := by decide +kernel
theorem dX4_pour_57 : decode cX4_pour 57 = .ok (.aload_n 0, 1) := by decide +kernel
theorem dX4_pour_58 : decode cX4_pour 58 = .ok (.getfield 62, 3) := by decide +kernel
theorem dX4_pour_61 : decode cX4_pour 61 = .ok (.iadd, 1) := by decide +kernel
theorem dX4_pour_62 : decode cX4_pour 62 = .ok (.iastore, 1) := by decide +kernel
theorem dX4_pour_63 : decode cX4_pour 63 = .ok (.aload_n 0, 1) := by decide +kernel
theorem dX4_pour_64 : decode cX4_pour 64 = .ok (.iconst 0, 1) := by decide +kernel
theorem dX4_pour_65 : decode cX4_pour 65 = .ok (.putfield 62, 3) := by decide +kernel
theorem dX4_pour_68 : decode cX4_pour 68 = .ok (.return_, 1) := by decide +kernel
set_option maxRecDepth 20000 in
theorem ggX4_add_X4_fault : GoodIn wsX4_add wsX4_fault := goodIn_r _ [6, 7, 8, 9, 10, 5, 11, 12, 13, 14, 25, 26, 27, 28, 29, 30, 31, 32, 33, 34, 35, 36, 37, 38, 39] (by decide +kernel) (by decide +kernel)
set_option maxRecDepth 20000 in
theorem gX4_add_X4_fault : GoodIn wsX4_add (wsV RX4 68 RX4 yX4_fault wsX4_fault) := goodIn_app (goodIn_of _ (by decide +kernel)) ggX4_add_X4_fault
set_option maxRecDepth 20000 in
theorem ggX4_add_X4_know : GoodIn wsX4_add wsX4_know := goodIn_r _ [18, 19, 20, 1, 25, 26, 27, 28, 29, 30, 31, 32, 33, 34, 35, 36, 37, 38, 39] (by decide +kernel) (by decide +kernel)
set_option maxRecDepth 20000 in
theorem gX4_add_X4_know : GoodIn wsX4_add (wsV RX4 59 RX4 yX4_know wsX4_know) := goodIn_app (goodIn_of _ (by decide +kernel)) ggX4_add_X4_know
set_option maxRecDepth 20000 in
theorem ggX4_add_X4_pour : GoodIn wsX4_add wsX4_pour := goodIn_r _ [24, 7, 1, 8, 9, 10, 5, 11, 12, 13, 14, 25, 26, 27, 28, 29, 30, 31, 32, 33, 34, 35, 36, 37, 38, 39] (by decide +kernel) (by decide +kernel)
set_option maxRecDepth 20000 in
theorem gX4_add_X4_pour : GoodIn wsX4_add (wsV RX4 72 RX4 yX4_pour wsX4_pour) := goodIn_app (goodIn_of _ (by decide +kernel)) ggX4_add_X4_pour
theorem dX4_add_0 : decode cX4_add 0 = .ok (.aload_n 0, 1) := by decide +kernel
theorem dX4_add_1 : decode cX4_add 1 = .ok (.invokevirtual 68, 3) := by decide +kernel
theorem dX4_add_4 : decode cX4_add 4 = .ok (.bipush (-6), 2) := by decide +kernel
theorem dX4_add_6 : decode cX4_add 6 = .ok (.if_icmp .eq 6, 3) := by decide +kernel
theorem dX4_add_9 : decode cX4_add 9 = .ok (.bipush (-3), 2) := by decide +kernel
theorem dX4_add_11 : decode cX4_add 11 = .ok (.ireturn, 1) := by decide +kernel
theorem dX4_add_12 : decode cX4_add 12 = .ok (.aload_n 0, 1) := by decide +kernel
theorem dX4_add_13 : decode cX4_add 13 = .ok (.getfield 7, 3) := by decide +kernel
theorem dX4_add_16 : decode cX4_add 16 = .ok (.iconst 4, 1) := by decide +kernel
theorem dX4_add_17 : decode cX4_add 17 = .ok (.iaload, 1) := by decide +kernel
theorem dX4_add_18 : decode cX4_add 18 = .ok (.bipush 10, 2) := by decide +kernel
theorem dX4_add_20 : decode cX4_add 20 = .ok (.if_icmp .ne 6, 3) := by decide +kernel
theorem dX4_add_23 : decode cX4_add 23 = .ok (.bipush (-4), 2) := by decide +kernel
theorem dX4_add_25 : decode cX4_add 25 = .ok (.ireturn, 1) := by decide +kernel
theorem dX4_add_26 : decode cX4_add 26 = .ok (.aload_n 0, 1) := by decide +kernel
theorem dX4_add_27 : decode cX4_add 27 = .ok (.invokevirtual 59, 3) := by decide +kernel
theorem dX4_add_30 : decode cX4_add 30 = .ok (.aload_n 0, 1) := by decide +kernel
end
section
theorem dX4_add_31 : decode cX4_add 31 = .ok (.getfield 7, 3) := by decide +kernel
theorem dX4_add_34 : decode cX4_add 34 = .ok (.iconst 5, 1) := by decide +kernel
theorem dX4_add_35 : decode cX4_add 35 = .ok (.aload_n 0, 1) := by decide +kernel
theorem dX4_add_36 : decode cX4_add 36 = .ok (.getfield 7, 3) := by decide +kernel
theorem dX4_add_39 : decode cX4_add 39 = .ok (.iconst 4, 1) := by decide +kernel
theorem dX4_add_40 : decode cX4_add 40 = .ok (.iaload, 1) := by decide +kernel
theorem dX4_add_41 : decode cX4_add 41 = .ok (.iadd, 1) := by decide +kernel
theorem dX4_add_42 : decode cX4_add 42 = .ok (.iconst 0, 1) := by decide +kernel
theorem dX4_add_43 : decode cX4_add 43 = .ok (.iastore, 1) := by decide +kernel
theorem dX4_add_44 : decode cX4_add 44 = .ok (.aload_n 0, 1) := by decide +kernel
theorem dX4_add_45 : decode cX4_add 45 = .ok (.aload_n 0, 1) := by decide +kernel
theorem dX4_add_46 : decode cX4_add 46 = .ok (.getfield 7, 3) := by decide +kernel
theorem dX4_add_49 : decode cX4_add 49 = .ok (.iconst 4, 1) := by decide +kernel
theorem dX4_add_50 : decode cX4_add 50 = .ok (.iaload, 1) := by decide +kernel
theorem dX4_add_51 : decode cX4_add 51 = .ok (.invokevirtual 72, 3) := by decide +kernel
theorem dX4_add_54 : decode cX4_add 54 = .ok (.aload_n 0, 1) := by decide +kernel
theorem dX4_add_55 : decode cX4_add 55 = .ok (.getfield 7, 3) := by decide +kernel
theorem dX4_add_58 : decode cX4_add 58 = .ok (.iconst 4, 1) := by decide +kernel
theorem dX4_add_59 : decode cX4_add 59 = .ok (.dup2, 1) := by decide +kernel
theorem dX4_add_60 : decode cX4_add 60 = .ok (.iaload, 1) := by decide +kernel
theorem dX4_add_61 : decode cX4_add 61 = .ok (.iconst 1, 1) := by decide +kernel
theorem dX4_add_62 : decode cX4_add 62 = .ok (.iadd, 1) := by decide +kernel
theorem dX4_add_63 : decode cX4_add 63 = .ok (.iastore, 1) := by decide +kernel
theorem dX4_add_64 : decode cX4_add 64 = .ok (.aload_n 0, 1) := by decide +kernel
theorem dX4_add_65 : decode cX4_add 65 = .ok (.getfield 7, 3) := by decide +kernel
theorem dX4_add_68 : decode cX4_add 68 = .ok (.iconst 4, 1) := by decide +kernel
theorem dX4_add_69 : decode cX4_add 69 = .ok (.iaload, 1) := by decide +kernel
theorem dX4_add_70 : decode cX4_add 70 = .ok (.iconst 1, 1) := by decide +kernel
theorem dX4_add_71 : decode cX4_add 71 = .ok (.isub, 1) := by decide +kernel
theorem dX4_add_72 : decode cX4_add 72 = .ok (.ireturn, 1) := by decide +kernel
set_option maxRecDepth 20000 in
theorem ggX4_append_X4_isRow : GoodIn wsX4_append wsX4_isRow := goodIn_r _ [7, 1, 8, 9, 6, 10, 29, 30, 31, 32, 33, 34, 35, 36, 37, 38, 39, 40, 41, 42, 43] (by decide +kernel) (by decide +kernel)
set_option maxRecDepth 20000 in
theorem gX4_append_X4_isRow : GoodIn wsX4_append (wsV RX4 43 RX4 yX4_isRow wsX4_isRow) := goodIn_app (goodIn_of _ (by decide +kernel)) ggX4_append_X4_isRow
set_option maxRecDepth 20000 in
theorem ggX4_append_X4_fault : GoodIn wsX4_append wsX4_fault := goodIn_r _ [14, 2, 15, 16, 17, 6, 18, 8, 9, 10, 29, 30, 31, 32, 33, 34, 35, 36, 37, 38, 39, 40, 41, 42, 43] (by decide +kernel) (by decide +kernel)
set_option maxRecDepth 20000 in
theorem gX4_append_X4_fault : GoodIn wsX4_append (wsV RX4 68 RX4 yX4_fault wsX4_fault) := goodIn_app (goodIn_of _ (by decide +kernel)) ggX4_append_X4_fault
set_option maxRecDepth 20000 in
theorem ggX4_append_X4_know : GoodIn wsX4_append wsX4_know := goodIn_r _ [22, 23, 24, 1, 29, 30, 31, 32, 33, 34, 35, 36, 37, 38, 39, 40, 41, 42, 43] (by decide +kernel) (by decide +kernel)
set_option maxRecDepth 20000 in
theorem gX4_append_X4_know : GoodIn wsX4_append (wsV RX4 59 RX4 yX4_know wsX4_know) := goodIn_app (goodIn_of _ (by decide +kernel)) ggX4_append_X4_know
set_option maxRecDepth 20000 in
theorem ggX4_append_X4_pour : GoodIn wsX4_append wsX4_pour := goodIn_r _ [28, 2, 1, 15, 16, 17, 6, 18, 8, 9, 10, 29, 30, 31, 32, 33, 34, 35, 36, 37, 38, 39, 40, 41, 42, 43] (by decide +kernel) (by decide +kernel)
set_option maxRecDepth 20000 in
theorem gX4_append_X4_pour : GoodIn wsX4_append (wsV RX4 72 RX4 yX4_pour wsX4_pour) := goodIn_app (goodIn_of _ (by decide +kernel)) ggX4_append_X4_pour
theorem dX4_append_0 : decode cX4_append 0 = .ok (.aload_n 0, 1) := by decide +kernel
theorem dX4_append_1 : decode cX4_append 1 = .ok (.iload_n 1, 1) := by decide +kernel
theorem dX4_append_2 : decode cX4_append 2 = .ok (.invokevirtual 43, 3) := by decide +kernel
theorem dX4_append_5 : decode cX4_append 5 = .ok (.ifCond .ne 5, 3) := by decide +kernel
theorem dX4_append_8 : decode cX4_append 8 = .ok (.iconst (-1), 1) := by decide +kernel
theorem dX4_append_9 : decode cX4_append 9 = .ok (.ireturn, 1) := by decide +kernel
theorem dX4_append_10 : decode cX4_append 10 = .ok (.aload_n 0, 1) := by decide +kernel
theorem dX4_append_11 : decode cX4_append 11 = .ok (.invokevirtual 68, 3) := by decide +kernel
theorem dX4_append_14 : decode cX4_append 14 = .ok (.bipush (-6), 2) := by decide +kernel
theorem dX4_append_16 : decode cX4_append 16 = .ok (.if_icmp .eq 6, 3) := by decide +kernel
theorem dX4_append_19 : decode cX4_append 19 = .ok (.bipush (-3), 2) := by decide +kernel
theorem dX4_append_21 : decode cX4_append 21 = .ok (.ireturn, 1) := by decide +kernel
theorem dX4_append_22 : decode cX4_append 22 = .ok (.aload_n 0, 1) := by decide +kernel
theorem dX4_append_23 : decode cX4_append 23 = .ok (.getfield 7, 3) := by decide +kernel
theorem dX4_append_26 : decode cX4_append 26 = .ok (.iconst 5, 1) := by decide +kernel
theorem dX4_append_27 : decode cX4_append 27 = .ok (.iload_n 1, 1) := by decide +kernel
theorem dX4_append_28 : decode cX4_append 28 = .ok (.iadd, 1) := by decide +kernel
theorem dX4_append_29 : decode cX4_append 29 = .ok (.iaload, 1) := by decide +kernel
theorem dX4_append_30 : decode cX4_append 30 = .ok (.aload_n 0, 1) := by decide +kernel
theorem dX4_append_31 : decode cX4_append 31 = .ok (.getfield 62, 3) := by decide +kernel
theorem dX4_append_34 : decode cX4_append 34 = .ok (.iadd, 1) := by decide +kernel
theorem dX4_append_35 : decode cX4_append 35 = .ok (.bipush 64, 2) := by decide +kernel
theorem dX4_append_37 : decode cX4_append 37 = .ok (.if_icmp .le 6, 3) := by decide +kernel
theorem dX4_append_40 : decode cX4_append 40 = .ok (.bipush (-4), 2) := by decide +kernel
theorem dX4_append_42 : decode cX4_append 42 = .ok (.ireturn, 1) := by decide +kernel
theorem dX4_append_43 : decode cX4_append 43 = .ok (.aload_n 0, 1) := by decide +kernel
theorem dX4_append_44 : decode cX4_append 44 = .ok (.invokevirtual 59, 3) := by decide +kernel
theorem dX4_append_47 : decode cX4_append 47 = .ok (.aload_n 0, 1) := by decide +kernel
theorem dX4_append_48 : decode cX4_append 48 = .ok (.iload_n 1, 1) := by decide +kernel
theorem dX4_append_49 : decode cX4_append 49 = .ok (.invokevirtual 72, 3) := by decide +kernel
theorem dX4_append_52 : decode cX4_append 52 = .ok (.aload_n 0, 1) := by decide +kernel
theorem dX4_append_53 : decode cX4_append 53 = .ok (.getfield 7, 3) := by decide +kernel
theorem dX4_append_56 : decode cX4_append 56 = .ok (.iconst 5, 1) := by decide +kernel
theorem dX4_append_57 : decode cX4_append 57 = .ok (.iload_n 1, 1) := by decide +kernel
theorem dX4_append_58 : decode cX4_append 58 = .ok (.iadd, 1) := by decide +kernel
theorem dX4_append_59 : decode cX4_append 59 = .ok (.iaload, 1) := by decide +kernel
theorem dX4_append_60 : decode cX4_append 60 = .ok (.ireturn, 1) := by decide +kernel
set_option maxRecDepth 20000 in
theorem ggX4_change_X4_isPlace : GoodIn wsX4_change wsX4_isPlace := goodIn_r _ [6, 1, 7, 8, 9, 5, 10, 11, 12, 13, 24, 25, 26, 27, 28, 29, 30, 31, 32, 33, 34, 35, 36, 37, 38] (by decide +kernel) (by decide +kernel)
set_option maxRecDepth 20000 in
theorem gX4_change_X4_isPlace : GoodIn wsX4_change (wsV RX4 76 RX4 yX4_isPlace wsX4_isPlace) := goodIn_app (goodIn_of _ (by decide +kernel)) ggX4_change_X4_isPlace
set_option maxRecDepth 20000 in
theorem ggX4_change_X4_in : GoodIn wsX4_change wsX4_in := goodIn_r _ [13] (by decide +kernel) (by decide +kernel)
set_option maxRecDepth 20000 in
theorem gX4_change_X4_in : GoodIn wsX4_change (va_wsS RX4 39 yX4_in wsX4_in) := goodIn_app (goodIn_of _ (by decide +kernel)) ggX4_change_X4_in
set_option maxRecDepth 20000 in
theorem ggX4_change_X4_know : GoodIn wsX4_change wsX4_know := goodIn_r _ [17, 18, 19, 1, 24, 25, 26, 27, 28, 29, 30, 31, 32, 33, 34, 35, 36, 37, 38] (by decide +kernel) (by decide +kernel)
set_option maxRecDepth 20000 in
theorem gX4_change_X4_know : GoodIn wsX4_change (wsV RX4 59 RX4 yX4_know wsX4_know) := goodIn_app (goodIn_of _ (by decide +kernel)) ggX4_change_X4_know
set_option maxRecDepth 20000 in
theorem ggX4_change_X4_at : GoodIn wsX4_change wsX4_at := goodIn_r _ [23, 1, 24, 25, 26, 27, 28, 29, 30, 31, 32, 33, 34, 35, 36, 37, 38] (by decide +kernel) (by decide +kernel)
set_option maxRecDepth 20000 in
theorem gX4_change_X4_at : GoodIn wsX4_change (wsV RX4 80 RX4 yX4_at wsX4_at) := goodIn_app (goodIn_of _ (by decide +kernel)) ggX4_change_X4_at
theorem dX4_change_0 : decode cX4_change 0 = .ok (.aload_n 0, 1) := by decide +kernel
theorem dX4_change_1 : decode cX4_change 1 = .ok (.iload_n 1, 1) := by decide +kernel
theorem dX4_change_2 : decode cX4_change 2 = .ok (.iload_n 2, 1) := by decide +kernel
theorem dX4_change_3 : decode cX4_change 3 = .ok (.invokevirtual 76, 3) := by decide +kernel
theorem dX4_change_6 : decode cX4_change 6 = .ok (.ifCond .ne 5, 3) := by decide +kernel
theorem dX4_change_9 : decode cX4_change 9 = .ok (.iconst (-1), 1) := by decide +kernel
theorem dX4_change_10 : decode cX4_change 10 = .ok (.ireturn, 1) := by decide +kernel
theorem dX4_change_11 : decode cX4_change 11 = .ok (.iload_n 3, 1) := by decide +kernel
theorem dX4_change_12 : decode cX4_change 12 = .ok (.iconst 0, 1) := by decide +kernel
theorem dX4_change_13 : decode cX4_change 13 = .ok (.bipush 26, 2) := by decide +kernel
theorem dX4_change_15 : decode cX4_change 15 = .ok (.invokestatic 39, 3) := by decide +kernel
theorem dX4_change_18 : decode cX4_change 18 = .ok (.ifCond .ne 6, 3) := by decide +kernel
theorem dX4_change_21 : decode cX4_change 21 = .ok (.bipush (-2), 2) := by decide +kernel
theorem dX4_change_23 : decode cX4_change 23 = .ok (.ireturn, 1) := by decide +kernel
theorem dX4_change_24 : decode cX4_change 24 = .ok (.aload_n 0, 1) := by decide +kernel
theorem dX4_change_25 : decode cX4_change 25 = .ok (.invokevirtual 59, 3) := by decide +kernel
theorem dX4_change_28 : decode cX4_change 28 = .ok (.aload_n 0, 1) := by decide +kernel
theorem dX4_change_29 : decode cX4_change 29 = .ok (.iload_n 1, 1) := by decide +kernel
theorem dX4_change_30 : decode cX4_change 30 = .ok (.iload_n 2, 1) := by decide +kernel
theorem dX4_change_31 : decode cX4_change 31 = .ok (.invokevirtual 80, 3) := by decide +kernel
theorem dX4_change_34 : decode cX4_change 34 = .ok (.istore 4, 2) := by decide +kernel
theorem dX4_change_36 : decode cX4_change 36 = .ok (.aload_n 0, 1) := by decide +kernel
theorem dX4_change_37 : decode cX4_change 37 = .ok (.getfield 7, 3) := by decide +kernel
theorem dX4_change_40 : decode cX4_change 40 = .ok (.bipush 15, 2) := by decide +kernel
theorem dX4_change_42 : decode cX4_change 42 = .ok (.bipush 64, 2) := by decide +kernel
theorem dX4_change_44 : decode cX4_change 44 = .ok (.iload_n 1, 1) := by decide +kernel
theorem dX4_change_45 : decode cX4_change 45 = .ok (.imul, 1) := by decide +kernel
theorem dX4_change_46 : decode cX4_change 46 = .ok (.iadd, 1) := by decide +kernel
theorem dX4_change_47 : decode cX4_change 47 = .ok (.iload_n 2, 1) := by decide +kernel
theorem dX4_change_48 : decode cX4_change 48 = .ok (.iadd, 1) := by decide +kernel
theorem dX4_change_49 : decode cX4_change 49 = .ok (.iload_n 3, 1) := by decide +kernel
theorem dX4_change_50 : decode cX4_change 50 = .ok (.iastore, 1) := by decide +kernel
theorem dX4_change_51 : decode cX4_change 51 = .ok (.iload 4, 2) := by decide +kernel
theorem dX4_change_53 : decode cX4_change 53 = .ok (.ireturn, 1) := by decide +kernel
set_option maxRecDepth 20000 in
theorem ggX4_remove_X4_isRow : GoodIn wsX4_remove wsX4_isRow := goodIn_r _ [6, 1, 7, 8, 5, 9, 16, 17, 18, 19, 20, 21, 22, 23, 24, 25, 26, 27, 28, 29, 30] (by decide +kernel) (by decide +kernel)
set_option maxRecDepth 20000 in
theorem gX4_remove_X4_isRow : GoodIn wsX4_remove (wsV RX4 43 RX4 yX4_isRow wsX4_isRow) := goodIn_app (goodIn_of _ (by decide +kernel)) ggX4_remove_X4_isRow
set_option maxRecDepth 20000 in
theorem ggX4_remove_X4_know : GoodIn wsX4_remove wsX4_know := goodIn_r _ [13, 14, 15, 1, 16, 17, 18, 19, 20, 21, 22, 23, 24, 25, 26, 27, 28, 29, 30] (by decide +kernel) (by decide +kernel)
set_option maxRecDepth 20000 in
theorem gX4_remove_X4_know : GoodIn wsX4_remove (wsV RX4 59 RX4 yX4_know wsX4_know) := goodIn_app (goodIn_of _ (by decide +kernel)) ggX4_remove_X4_know
theorem dX4_remove_0 : decode cX4_remove 0 = .ok (.aload_n 0, 1) := by decide +kernel
theorem dX4_remove_1 : decode cX4_remove 1 = .ok (.iload_n 1, 1) := by decide +kernel
theorem dX4_remove_2 : decode cX4_remove 2 = .ok (.invokevirtual 43, 3) := by decide +kernel
theorem dX4_remove_5 : decode cX4_remove 5 = .ok (.ifCond .ne 5, 3) := by decide +kernel
theorem dX4_remove_8 : decode cX4_remove 8 = .ok (.iconst (-1), 1) := by decide +kernel
theorem dX4_remove_9 : decode cX4_remove 9 = .ok (.ireturn, 1) := by decide +kernel
theorem dX4_remove_10 : decode cX4_remove 10 = .ok (.aload_n 0, 1) := by decide +kernel
theorem dX4_remove_11 : decode cX4_remove 11 = .ok (.invokevirtual 59, 3) := by decide +kernel
theorem dX4_remove_14 : decode cX4_remove 14 = .ok (.iload_n 1, 1) := by decide +kernel
theorem dX4_remove_15 : decode cX4_remove 15 = .ok (.istore_n 2, 1) := by decide +kernel
theorem dX4_remove_16 : decode cX4_remove 16 = .ok (.iload_n 2, 1) := by decide +kernel
theorem dX4_remove_17 : decode cX4_remove 17 = .ok (.iconst 1, 1) := by decide +kernel
theorem dX4_remove_18 : decode cX4_remove 18 = .ok (.iadd, 1) := by decide +kernel
theorem dX4_remove_19 : decode cX4_remove 19 = .ok (.aload_n 0, 1) := by decide +kernel
theorem dX4_remove_20 : decode cX4_remove 20 = .ok (.getfield 7, 3) := by decide +kernel
theorem dX4_remove_23 : decode cX4_remove 23 = .ok (.iconst 4, 1) := by decide +kernel
theorem dX4_remove_24 : decode cX4_remove 24 = .ok (.iaload, 1) := by decide +kernel
theorem dX4_remove_25 : decode cX4_remove 25 = .ok (.if_icmp .ge 71, 3) := by decide +kernel
theorem dX4_remove_28 : decode cX4_remove 28 = .ok (.aload_n 0, 1) := by decide +kernel
theorem dX4_remove_29 : decode cX4_remove 29 = .ok (.getfield 7, 3) := by decide +kernel
theorem dX4_remove_32 : decode cX4_remove 32 = .ok (.iconst 5, 1) := by decide +kernel
theorem dX4_remove_33 : decode cX4_remove 33 = .ok (.iload_n 2, 1) := by decide +kernel
theorem dX4_remove_34 : decode cX4_remove 34 = .ok (.iadd, 1) := by decide +kernel
theorem dX4_remove_35 : decode cX4_remove 35 = .ok (.aload_n 0, 1) := by decide +kernel
theorem dX4_remove_36 : decode cX4_remove 36 = .ok (.getfield 7, 3) := by decide +kernel
theorem dX4_remove_39 : decode cX4_remove 39 = .ok (.iconst 5, 1) := by decide +kernel
theorem dX4_remove_40 : decode cX4_remove 40 = .ok (.iload_n 2, 1) := by decide +kernel
theorem dX4_remove_41 : decode cX4_remove 41 = .ok (.iadd, 1) := by decide +kernel
theorem dX4_remove_42 : decode cX4_remove 42 = .ok (.iconst 1, 1) := by decide +kernel
theorem dX4_remove_43 : decode cX4_remove 43 = .ok (.iadd, 1) := by decide +kernel
theorem dX4_remove_44 : decode cX4_remove 44 = .ok (.iaload, 1) := by decide +kernel
theorem dX4_remove_45 : decode cX4_remove 45 = .ok (.iastore, 1) := by decide +kernel
theorem dX4_remove_46 : decode cX4_remove 46 = .ok (.iconst 0, 1) := by decide +kernel
theorem dX4_remove_47 : decode cX4_remove 47 = .ok (.istore_n 3, 1) := by decide +kernel
theorem dX4_remove_48 : decode cX4_remove 48 = .ok (.iload_n 3, 1) := by decide +kernel
theorem dX4_remove_49 : decode cX4_remove 49 = .ok (.bipush 64, 2) := by decide +kernel
theorem dX4_remove_51 : decode cX4_remove 51 = .ok (.if_icmp .ge 39, 3) := by decide +kernel
theorem dX4_remove_54 : decode cX4_remove 54 = .ok (.aload_n 0, 1) := by decide +kernel
theorem dX4_remove_55 : decode cX4_remove 55 = .ok (.getfield 7, 3) := by decide +kernel
theorem dX4_remove_58 : decode cX4_remove 58 = .ok (.bipush 15, 2) := by decide +kernel
theorem dX4_remove_60 : decode cX4_remove 60 = .ok (.bipush 64, 2) := by decide +kernel
theorem dX4_remove_62 : decode cX4_remove 62 = .ok (.iload_n 2, 1) := by decide +kernel
theorem dX4_remove_63 : decode cX4_remove 63 = .ok (.imul, 1) := by decide +kernel
theorem dX4_remove_64 : decode cX4_remove 64 = .ok (.iadd, 1) := by decide +kernel
theorem dX4_remove_65 : decode cX4_remove 65 = .ok (.iload_n 3, 1) := by decide +kernel
theorem dX4_remove_66 : decode cX4_remove 66 = .ok (.iadd, 1) := by decide +kernel
theorem dX4_remove_67 : decode cX4_remove 67 = .ok (.aload_n 0, 1) := by decide +kernel
theorem dX4_remove_68 : decode cX4_remove 68 = .ok (.getfield 7, 3) := by decide +kernel
theorem dX4_remove_71 : decode cX4_remove 71 = .ok (.bipush 15, 2) := by decide +kernel
theorem dX4_remove_73 : decode cX4_remove 73 = .ok (.bipush 64, 2) := by decide +kernel
theorem dX4_remove_75 : decode cX4_remove 75 = .ok (.iload_n 2, 1) := by decide +kernel
theorem dX4_remove_76 : decode cX4_remove 76 = .ok (.iconst 1, 1) := by decide +kernel
theorem dX4_remove_77 : decode cX4_remove 77 = .ok (.iadd, 1) := by decide +kernel
theorem dX4_remove_78 : decode cX4_remove 78 = .ok (.imul, 1) := by decide +kernel
theorem dX4_remove_79 : decode cX4_remove 79 = .ok (.iadd, 1) := by decide +kernel
theorem dX4_remove_80 : decode cX4_remove 80 = .ok (.iload_n 3, 1) := by decide +kernel
theorem dX4_remove_81 : decode cX4_remove 81 = .ok (.iadd, 1) := by decide +kernel
theorem dX4_remove_82 : decode cX4_remove 82 = .ok (.iaload, 1) := by decide +kernel
theorem dX4_remove_83 : decode cX4_remove 83 = .ok (.iastore, 1) := by decide +kernel
theorem dX4_remove_84 : decode cX4_remove 84 = .ok (.iinc 3 1, 3) := by decide +kernel
theorem dX4_remove_87 : decode cX4_remove 87 = .ok (.goto (-39), 3) := by decide +kernel
theorem dX4_remove_90 : decode cX4_remove 90 = .ok (.iinc 2 1, 3) := by decide +kernel
theorem dX4_remove_93 : decode cX4_remove 93 = .ok (.goto (-77), 3) := by decide +kernel
theorem dX4_remove_96 : decode cX4_remove 96 = .ok (.aload_n 0, 1) := by decide +kernel
theorem dX4_remove_97 : decode cX4_remove 97 = .ok (.getfield 7, 3) := by decide +kernel
theorem dX4_remove_100 : decode cX4_remove 100 = .ok (.iconst 4, 1) := by decide +kernel
theorem dX4_remove_101 : decode cX4_remove 101 = .ok (.dup2, 1) := by decide +kernel
theorem dX4_remove_102 : decode cX4_remove 102 = .ok (.iaload, 1) := by decide +kernel
theorem dX4_remove_103 : decode cX4_remove 103 = .ok (.iconst 1, 1) := by decide +kernel
theorem dX4_remove_104 : decode cX4_remove 104 = .ok (.isub, 1) := by decide +kernel
theorem dX4_remove_105 : decode cX4_remove 105 = .ok (.iastore, 1) := by decide +kernel
theorem dX4_remove_106 : decode cX4_remove 106 = .ok (.aload_n 0, 1) := by decide +kernel
theorem dX4_remove_107 : decode cX4_remove 107 = .ok (.getfield 7, 3) := by decide +kernel
theorem dX4_remove_110 : decode cX4_remove 110 = .ok (.iconst 4, 1) := by decide +kernel
theorem dX4_remove_111 : decode cX4_remove 111 = .ok (.iaload, 1) := by decide +kernel
theorem dX4_remove_112 : decode cX4_remove 112 = .ok (.ireturn, 1) := by decide +kernel
set_option maxRecDepth 20000 in
theorem ggX4_codeAt_X4_at : GoodIn wsX4_codeAt wsX4_at := goodIn_r _ [6, 1, 7, 8, 9, 10, 11, 12, 13, 14, 15, 16, 17, 18, 19, 20, 21] (by decide +kernel) (by decide +kernel)
set_option maxRecDepth 20000 in
theorem gX4_codeAt_X4_at : GoodIn wsX4_codeAt (wsV RX4 80 RX4 yX4_at wsX4_at) := goodIn_app (goodIn_of _ (by decide +kernel)) ggX4_codeAt_X4_at
theorem dX4_codeAt_0 : decode cX4_codeAt 0 = .ok (.iconst 0, 1) := by decide +kernel
theorem dX4_codeAt_1 : decode cX4_codeAt 1 = .ok (.istore_n 3, 1) := by decide +kernel
theorem dX4_codeAt_2 : decode cX4_codeAt 2 = .ok (.iconst 0, 1) := by decide +kernel
theorem dX4_codeAt_3 : decode cX4_codeAt 3 = .ok (.istore 4, 2) := by decide +kernel
theorem dX4_codeAt_5 : decode cX4_codeAt 5 = .ok (.iload 4, 2) := by decide +kernel
theorem dX4_codeAt_7 : decode cX4_codeAt 7 = .ok (.aload_n 0, 1) := by decide +kernel
theorem dX4_codeAt_8 : decode cX4_codeAt 8 = .ok (.getfield 7, 3) := by decide +kernel
theorem dX4_codeAt_11 : decode cX4_codeAt 11 = .ok (.iconst 0, 1) := by decide +kernel
theorem dX4_codeAt_12 : decode cX4_codeAt 12 = .ok (.iaload, 1) := by decide +kernel
theorem dX4_codeAt_13 : decode cX4_codeAt 13 = .ok (.if_icmp .ge 24, 3) := by decide +kernel
theorem dX4_codeAt_16 : decode cX4_codeAt 16 = .ok (.bipush 27, 2) := by decide +kernel
theorem dX4_codeAt_18 : decode cX4_codeAt 18 = .ok (.iload_n 3, 1) := by decide +kernel
theorem dX4_codeAt_19 : decode cX4_codeAt 19 = .ok (.imul, 1) := by decide +kernel
theorem dX4_codeAt_20 : decode cX4_codeAt 20 = .ok (.aload_n 0, 1) := by decide +kernel
theorem dX4_codeAt_21 : decode cX4_codeAt 21 = .ok (.iload_n 1, 1) := by decide +kernel
theorem dX4_codeAt_22 : decode cX4_codeAt 22 = .ok (.iload_n 2, 1) := by decide +kernel
theorem dX4_codeAt_23 : decode cX4_codeAt 23 = .ok (.iload 4, 2) := by decide +kernel
theorem dX4_codeAt_25 : decode cX4_codeAt 25 = .ok (.iadd, 1) := by decide +kernel
theorem dX4_codeAt_26 : decode cX4_codeAt 26 = .ok (.invokevirtual 80, 3) := by decide +kernel
theorem dX4_codeAt_29 : decode cX4_codeAt 29 = .ok (.iadd, 1) := by decide +kernel
theorem dX4_codeAt_30 : decode cX4_codeAt 30 = .ok (.istore_n 3, 1) := by decide +kernel
theorem dX4_codeAt_31 : decode cX4_codeAt 31 = .ok (.iinc 4 1, 3) := by decide +kernel
theorem dX4_codeAt_34 : decode cX4_codeAt 34 = .ok (.goto (-29), 3) := by decide +kernel
theorem dX4_codeAt_37 : decode cX4_codeAt 37 = .ok (.iload_n 3, 1) := by decide +kernel
theorem dX4_codeAt_38 : decode cX4_codeAt 38 = .ok (.ireturn, 1) := by decide +kernel
theorem dX4_valueOf_0 : decode cX4_valueOf 0 = .ok (.iload_n 1, 1) := by decide +kernel
theorem dX4_valueOf_1 : decode cX4_valueOf 1 = .ok (.i2l, 1) := by decide +kernel
theorem dX4_valueOf_2 : decode cX4_valueOf 2 = .ok (.aload_n 0, 1) := by decide +kernel
theorem dX4_valueOf_3 : decode cX4_valueOf 3 = .ok (.getfield 7, 3) := by decide +kernel
theorem dX4_valueOf_6 : decode cX4_valueOf 6 = .ok (.iconst 2, 1) := by decide +kernel
theorem dX4_valueOf_7 : decode cX4_valueOf 7 = .ok (.iaload, 1) := by decide +kernel
theorem dX4_valueOf_8 : decode cX4_valueOf 8 = .ok (.i2l, 1) := by decide +kernel
theorem dX4_valueOf_9 : decode cX4_valueOf 9 = .ok (.lmul, 1) := by decide +kernel
theorem dX4_valueOf_10 : decode cX4_valueOf 10 = .ok (.aload_n 0, 1) := by decide +kernel
theorem dX4_valueOf_11 : decode cX4_valueOf 11 = .ok (.getfield 7, 3) := by decide +kernel
theorem dX4_valueOf_14 : decode cX4_valueOf 14 = .ok (.iconst 3, 1) := by decide +kernel
theorem dX4_valueOf_15 : decode cX4_valueOf 15 = .ok (.iaload, 1) := by decide +kernel
theorem dX4_valueOf_16 : decode cX4_valueOf 16 = .ok (.i2l, 1) := by decide +kernel
theorem dX4_valueOf_17 : decode cX4_valueOf 17 = .ok (.ladd, 1) := by decide +kernel
theorem dX4_valueOf_18 : decode cX4_valueOf 18 = .ok (.ldc2_w 84, 3) := by decide +kernel
theorem dX4_valueOf_21 : decode cX4_valueOf 21 = .ok (.lrem, 1) := by decide +kernel
theorem dX4_valueOf_22 : decode cX4_valueOf 22 = .ok (.l2i, 1) := by decide +kernel
theorem dX4_valueOf_23 : decode cX4_valueOf 23 = .ok (.ireturn, 1) := by decide +kernel
set_option maxRecDepth 20000 in
theorem ggX4_note_X4_valueOf : GoodIn wsX4_note wsX4_valueOf := goodIn_r _ [9, 10, 11, 12, 13, 14, 15, 16, 17, 18, 19, 20, 21, 22, 23, 24, 25, 26] (by decide +kernel) (by decide +kernel)
set_option maxRecDepth 20000 in
theorem gX4_note_X4_valueOf : GoodIn wsX4_note (wsV RX4 86 RX4 yX4_valueOf wsX4_valueOf) := goodIn_app (goodIn_of _ (by decide +kernel)) ggX4_note_X4_valueOf
theorem dX4_note_0 : decode cX4_note 0 = .ok (.aload_n 0, 1) := by decide +kernel
theorem dX4_note_1 : decode cX4_note 1 = .ok (.iload_n 2, 1) := by decide +kernel
theorem dX4_note_2 : decode cX4_note 2 = .ok (.invokevirtual 86, 3) := by decide +kernel
theorem dX4_note_5 : decode cX4_note 5 = .ok (.istore_n 3, 1) := by decide +kernel
theorem dX4_note_6 : decode cX4_note 6 = .ok (.bipush 64, 2) := by decide +kernel
theorem dX4_note_8 : decode cX4_note 8 = .ok (.iload_n 1, 1) := by decide +kernel
theorem dX4_note_9 : decode cX4_note 9 = .ok (.imul, 1) := by decide +kernel
theorem dX4_note_10 : decode cX4_note 10 = .ok (.istore 4, 2) := by decide +kernel
theorem dX4_note_12 : decode cX4_note 12 = .ok (.iload 4, 2) := by decide +kernel
theorem dX4_note_14 : decode cX4_note 14 = .ok (.istore 5, 2) := by decide +kernel
theorem dX4_note_16 : decode cX4_note 16 = .ok (.iload 5, 2) := by decide +kernel
theorem dX4_note_18 : decode cX4_note 18 = .ok (.iload 4, 2) := by decide +kernel
theorem dX4_note_20 : decode cX4_note 20 = .ok (.aload_n 0, 1) := by decide +kernel
theorem dX4_note_21 : decode cX4_note 21 = .ok (.getfield 35, 3) := by decide +kernel
theorem dX4_note_24 : decode cX4_note 24 = .ok (.iload_n 1, 1) := by decide +kernel
theorem dX4_note_25 : decode cX4_note 25 = .ok (.iaload, 1) := by decide +kernel
theorem dX4_note_26 : decode cX4_note 26 = .ok (.iadd, 1) := by decide +kernel
theorem dX4_note_27 : decode cX4_note 27 = .ok (.if_icmp .ge 20, 3) := by decide +kernel
theorem dX4_note_30 : decode cX4_note 30 = .ok (.aload_n 0, 1) := by decide +kernel
theorem dX4_note_31 : decode cX4_note 31 = .ok (.getfield 29, 3) := by decide +kernel
theorem dX4_note_34 : decode cX4_note 34 = .ok (.iload 5, 2) := by decide +kernel
theorem dX4_note_36 : decode cX4_note 36 = .ok (.iaload, 1) := by decide +kernel
theorem dX4_note_37 : decode cX4_note 37 = .ok (.iload_n 3, 1) := by decide +kernel
theorem dX4_note_38 : decode cX4_note 38 = .ok (.if_icmp .ge 9, 3) := by decide +kernel
theorem dX4_note_41 : decode cX4_note 41 = .ok (.iinc 5 1, 3) := by decide +kernel
theorem dX4_note_44 : decode cX4_note 44 = .ok (.goto (-28), 3) := by decide +kernel
theorem dX4_note_47 : decode cX4_note 47 = .ok (.iload 5, 2) := by decide +kernel
theorem dX4_note_49 : decode cX4_note 49 = .ok (.iload 4, 2) := by decide +kernel
theorem dX4_note_51 : decode cX4_note 51 = .ok (.aload_n 0, 1) := by decide +kernel
theorem dX4_note_52 : decode cX4_note 52 = .ok (.getfield 35, 3) := by decide +kernel
theorem dX4_note_55 : decode cX4_note 55 = .ok (.iload_n 1, 1) := by decide +kernel
theorem dX4_note_56 : decode cX4_note 56 = .ok (.iaload, 1) := by decide +kernel
theorem dX4_note_57 : decode cX4_note 57 = .ok (.iadd, 1) := by decide +kernel
theorem dX4_note_58 : decode cX4_note 58 = .ok (.if_icmp .ge 26, 3) := by decide +kernel
theorem dX4_note_61 : decode cX4_note 61 = .ok (.aload_n 0, 1) := by decide +kernel
theorem dX4_note_62 : decode cX4_note 62 = .ok (.getfield 29, 3) := by decide +kernel
theorem dX4_note_65 : decode cX4_note 65 = .ok (.iload 5, 2) := by decide +kernel
theorem dX4_note_67 : decode cX4_note 67 = .ok (.iaload, 1) := by decide +kernel
theorem dX4_note_68 : decode cX4_note 68 = .ok (.iload_n 3, 1) := by decide +kernel
theorem dX4_note_69 : decode cX4_note 69 = .ok (.if_icmp .ne 15, 3) := by decide +kernel
theorem dX4_note_72 : decode cX4_note 72 = .ok (.aload_n 0, 1) := by decide +kernel
theorem dX4_note_73 : decode cX4_note 73 = .ok (.getfield 32, 3) := by decide +kernel
theorem dX4_note_76 : decode cX4_note 76 = .ok (.iload 5, 2) := by decide +kernel
theorem dX4_note_78 : decode cX4_note 78 = .ok (.dup2, 1) := by decide +kernel
theorem dX4_note_79 : decode cX4_note 79 = .ok (.iaload, 1) := by decide +kernel
theorem dX4_note_80 : decode cX4_note 80 = .ok (.iconst 1, 1) := by decide +kernel
theorem dX4_note_81 : decode cX4_note 81 = .ok (.iadd, 1) := by decide +kernel
theorem dX4_note_82 : decode cX4_note 82 = .ok (.iastore, 1) := by decide +kernel
theorem dX4_note_83 : decode cX4_note 83 = .ok (.return_, 1) := by decide +kernel
theorem dX4_note_84 : decode cX4_note 84 = .ok (.iload 4, 2) := by decide +kernel
theorem dX4_note_86 : decode cX4_note 86 = .ok (.aload_n 0, 1) := by decide +kernel
theorem dX4_note_87 : decode cX4_note 87 = .ok (.getfield 35, 3) := by decide +kernel
theorem dX4_note_90 : decode cX4_note 90 = .ok (.iload_n 1, 1) := by decide +kernel
theorem dX4_note_91 : decode cX4_note 91 = .ok (.iaload, 1) := by decide +kernel
theorem dX4_note_92 : decode cX4_note 92 = .ok (.iadd, 1) := by decide +kernel
theorem dX4_note_93 : decode cX4_note 93 = .ok (.istore 6, 2) := by decide +kernel
theorem dX4_note_95 : decode cX4_note 95 = .ok (.iload 6, 2) := by decide +kernel
theorem dX4_note_97 : decode cX4_note 97 = .ok (.iload 5, 2) := by decide +kernel
theorem dX4_note_99 : decode cX4_note 99 = .ok (.if_icmp .le 57, 3) := by decide +kernel
theorem dX4_note_102 : decode cX4_note 102 = .ok (.aload_n 0, 1) := by decide +kernel
theorem dX4_note_103 : decode cX4_note 103 = .ok (.getfield 26, 3) := by decide +kernel
theorem dX4_note_106 : decode cX4_note 106 = .ok (.iload 6, 2) := by decide +kernel
theorem dX4_note_108 : decode cX4_note 108 = .ok (.aload_n 0, 1) := by decide +kernel
theorem dX4_note_109 : decode cX4_note 109 = .ok (.getfield 26, 3) := by decide +kernel
theorem dX4_note_112 : decode cX4_note 112 = .ok (.iload 6, 2) := by decide +kernel
theorem dX4_note_114 : decode cX4_note 114 = .ok (.iconst 1, 1) := by decide +kernel
theorem dX4_note_115 : decode cX4_note 115 = .ok (.isub, 1) := by decide +kernel
theorem dX4_note_116 : decode cX4_note 116 = .ok (.iaload, 1) := by decide +kernel
theorem dX4_note_117 : decode cX4_note 117 = .ok (.iastore, 1) := by decide +kernel
theorem dX4_note_118 : decode cX4_note 118 = .ok (.aload_n 0, 1) := by decide +kernel
theorem dX4_note_119 : decode cX4_note 119 = .ok (.getfield 29, 3) := by decide +kernel
theorem dX4_note_122 : decode cX4_note 122 = .ok (.iload 6, 2) := by decide +kernel
theorem dX4_note_124 : decode cX4_note 124 = .ok (.aload_n 0, 1) := by decide +kernel
theorem dX4_note_125 : decode cX4_note 125 = .ok (.getfield 29, 3) := by decide +kernel
theorem dX4_note_128 : decode cX4_note 128 = .ok (.iload 6, 2) := by decide +kernel
theorem dX4_note_130 : decode cX4_note 130 = .ok (.iconst 1, 1) := by decide +kernel
theorem dX4_note_131 : decode cX4_note 131 = .ok (.isub, 1) := by decide +kernel
theorem dX4_note_132 : decode cX4_note 132 = .ok (.iaload, 1) := by decide +kernel
theorem dX4_note_133 : decode cX4_note 133 = .ok (.iastore, 1) := by decide +kernel
theorem dX4_note_134 : decode cX4_note 134 = .ok (.aload_n 0, 1) := by decide +kernel
theorem dX4_note_135 : decode cX4_note 135 = .ok (.getfield 32, 3) := by decide +kernel
theorem dX4_note_138 : decode cX4_note 138 = .ok (.iload 6, 2) := by decide +kernel
theorem dX4_note_140 : decode cX4_note 140 = .ok (.aload_n 0, 1) := by decide +kernel
theorem dX4_note_141 : decode cX4_note 141 = .ok (.getfield 32, 3) := by decide +kernel
theorem dX4_note_144 : decode cX4_note 144 = .ok (.iload 6, 2) := by decide +kernel
theorem dX4_note_146 : decode cX4_note 146 = .ok (.iconst 1, 1) := by decide +kernel
theorem dX4_note_147 : decode cX4_note 147 = .ok (.isub, 1) := by decide +kernel
theorem dX4_note_148 : decode cX4_note 148 = .ok (.iaload, 1) := by decide +kernel
theorem dX4_note_149 : decode cX4_note 149 = .ok (.iastore, 1) := by decide +kernel
theorem dX4_note_150 : decode cX4_note 150 = .ok (.iinc 6 (-1), 3) := by decide +kernel
theorem dX4_note_153 : decode cX4_note 153 = .ok (.goto (-58), 3) := by decide +kernel
theorem dX4_note_156 : decode cX4_note 156 = .ok (.aload_n 0, 1) := by decide +kernel
theorem dX4_note_157 : decode cX4_note 157 = .ok (.getfield 26, 3) := by decide +kernel
theorem dX4_note_160 : decode cX4_note 160 = .ok (.iload 5, 2) := by decide +kernel
theorem dX4_note_162 : decode cX4_note 162 = .ok (.iload_n 2, 1) := by decide +kernel
theorem dX4_note_163 : decode cX4_note 163 = .ok (.iastore, 1) := by decide +kernel
theorem dX4_note_164 : decode cX4_note 164 = .ok (.aload_n 0, 1) := by decide +kernel
theorem dX4_note_165 : decode cX4_note 165 = .ok (.getfield 29, 3) := by decide +kernel
theorem dX4_note_168 : decode cX4_note 168 = .ok (.iload 5, 2) := by decide +kernel
theorem dX4_note_170 : decode cX4_note 170 = .ok (.iload_n 3, 1) := by decide +kernel
theorem dX4_note_171 : decode cX4_note 171 = .ok (.iastore, 1) := by decide +kernel
theorem dX4_note_172 : decode cX4_note 172 = .ok (.aload_n 0, 1) := by decide +kernel
theorem dX4_note_173 : decode cX4_note 173 = .ok (.getfield 32, 3) := by decide +kernel
theorem dX4_note_176 : decode cX4_note 176 = .ok (.iload 5, 2) := by decide +kernel
theorem dX4_note_178 : decode cX4_note 178 = .ok (.iconst 1, 1) := by decide +kernel
theorem dX4_note_179 : decode cX4_note 179 = .ok (.iastore, 1) := by decide +kernel
theorem dX4_note_180 : decode cX4_note 180 = .ok (.aload_n 0, 1) := by decide +kernel
theorem dX4_note_181 : decode cX4_note 181 = .ok (.getfield 35, 3) := by decide +kernel
theorem dX4_note_184 : decode cX4_note 184 = .ok (.iload_n 1, 1) := by decide +kernel
theorem dX4_note_185 : decode cX4_note 185 = .ok (.dup2, 1) := by decide +kernel
theorem dX4_note_186 : decode cX4_note 186 = .ok (.iaload, 1) := by decide +kernel
theorem dX4_note_187 : decode cX4_note 187 = .ok (.iconst 1, 1) := by decide +kernel
theorem dX4_note_188 : decode cX4_note 188 = .ok (.iadd, 1) := by decide +kernel
theorem dX4_note_189 : decode cX4_note 189 = .ok (.iastore, 1) := by decide +kernel
theorem dX4_note_190 : decode cX4_note 190 = .ok (.return_, 1) := by decide +kernel
set_option maxRecDepth 20000 in
theorem ggX4_find_X4_codeAt : GoodIn wsX4_find wsX4_codeAt := goodIn_r _ [7, 2, 8, 9, 10, 6, 11, 24, 25, 26, 27, 28, 29, 30, 31, 32, 33, 34, 35, 36, 37, 38] (by decide +kernel) (by decide +kernel)
set_option maxRecDepth 20000 in
theorem gX4_find_X4_codeAt : GoodIn wsX4_find (wsV RX4 89 RX4 yX4_codeAt wsX4_codeAt) := goodIn_app (goodIn_of _ (by decide +kernel)) ggX4_find_X4_codeAt
set_option maxRecDepth 20000 in
theorem ggX4_find_X4_note : GoodIn wsX4_find wsX4_note := goodIn_r _ [15, 1, 16, 17, 18, 19, 20, 21, 6, 22, 2, 23, 24, 25, 26, 27, 28, 29, 30, 31, 32, 33, 34, 35, 36, 37, 38] (by decide +kernel) (by decide +kernel)
set_option maxRecDepth 20000 in
theorem gX4_find_X4_note : GoodIn wsX4_find (wsV RX4 92 RX4 yX4_note wsX4_note) := goodIn_app (goodIn_of _ (by decide +kernel)) ggX4_find_X4_note
theorem dX4_find_0 : decode cX4_find 0 = .ok (.aload_n 0, 1) := by decide +kernel
theorem dX4_find_1 : decode cX4_find 1 = .ok (.getfield 35, 3) := by decide +kernel
theorem dX4_find_4 : decode cX4_find 4 = .ok (.iload_n 1, 1) := by decide +kernel
theorem dX4_find_5 : decode cX4_find 5 = .ok (.iconst 0, 1) := by decide +kernel
theorem dX4_find_6 : decode cX4_find 6 = .ok (.iastore, 1) := by decide +kernel
theorem dX4_find_7 : decode cX4_find 7 = .ok (.iconst 0, 1) := by decide +kernel
theorem dX4_find_8 : decode cX4_find 8 = .ok (.istore_n 3, 1) := by decide +kernel
theorem dX4_find_9 : decode cX4_find 9 = .ok (.iload_n 3, 1) := by decide +kernel
theorem dX4_find_10 : decode cX4_find 10 = .ok (.aload_n 0, 1) := by decide +kernel
theorem dX4_find_11 : decode cX4_find 11 = .ok (.getfield 7, 3) := by decide +kernel
theorem dX4_find_14 : decode cX4_find 14 = .ok (.iconst 0, 1) := by decide +kernel
theorem dX4_find_15 : decode cX4_find 15 = .ok (.iaload, 1) := by decide +kernel
theorem dX4_find_16 : decode cX4_find 16 = .ok (.iadd, 1) := by decide +kernel
theorem dX4_find_17 : decode cX4_find 17 = .ok (.aload_n 0, 1) := by decide +kernel
theorem dX4_find_18 : decode cX4_find 18 = .ok (.getfield 7, 3) := by decide +kernel
theorem dX4_find_21 : decode cX4_find 21 = .ok (.iconst 5, 1) := by decide +kernel
theorem dX4_find_22 : decode cX4_find 22 = .ok (.iload_n 2, 1) := by decide +kernel
theorem dX4_find_23 : decode cX4_find 23 = .ok (.iadd, 1) := by decide +kernel
theorem dX4_find_24 : decode cX4_find 24 = .ok (.iaload, 1) := by decide +kernel
theorem dX4_find_25 : decode cX4_find 25 = .ok (.if_icmp .gt 20, 3) := by decide +kernel
theorem dX4_find_28 : decode cX4_find 28 = .ok (.aload_n 0, 1) := by decide +kernel
theorem dX4_find_29 : decode cX4_find 29 = .ok (.iload_n 1, 1) := by decide +kernel
theorem dX4_find_30 : decode cX4_find 30 = .ok (.aload_n 0, 1) := by decide +kernel
theorem dX4_find_31 : decode cX4_find 31 = .ok (.iload_n 2, 1) := by decide +kernel
theorem dX4_find_32 : decode cX4_find 32 = .ok (.iload_n 3, 1) := by decide +kernel
theorem dX4_find_33 : decode cX4_find 33 = .ok (.invokevirtual 89, 3) := by decide +kernel
theorem dX4_find_36 : decode cX4_find 36 = .ok (.invokevirtual 92, 3) := by decide +kernel
theorem dX4_find_39 : decode cX4_find 39 = .ok (.iinc 3 1, 3) := by decide +kernel
theorem dX4_find_42 : decode cX4_find 42 = .ok (.goto (-33), 3) := by decide +kernel
theorem dX4_find_45 : decode cX4_find 45 = .ok (.return_, 1) := by decide +kernel
set_option maxRecDepth 20000 in
theorem ggX4_compare_X4_find : GoodIn wsX4_compare wsX4_find := goodIn_r _ [11, 3, 12, 13, 14, 15, 10, 16, 17, 18, 19, 20, 21, 22, 23, 24, 4, 25, 26, 27, 28, 29, 30, 31, 32, 33, 34, 35, 36, 37, 38, 39, 40, 41, 42, 43, 44, 45, 46] (by decide +kernel) (by decide +kernel)
set_option maxRecDepth 20000 in
theorem gX4_compare_X4_find : GoodIn wsX4_compare (wsV RX4 96 RX4 yX4_find wsX4_find) := goodIn_app (goodIn_of _ (by decide +kernel)) ggX4_compare_X4_find
theorem dX4_compare_0 : decode cX4_compare 0 = .ok (.aload_n 0, 1) := by decide +kernel
theorem dX4_compare_1 : decode cX4_compare 1 = .ok (.iconst 0, 1) := by decide +kernel
theorem dX4_compare_2 : decode cX4_compare 2 = .ok (.iload_n 1, 1) := by decide +kernel
theorem dX4_compare_3 : decode cX4_compare 3 = .ok (.invokevirtual 96, 3) := by decide +kernel
theorem dX4_compare_6 : decode cX4_compare 6 = .ok (.aload_n 0, 1) := by decide +kernel
theorem dX4_compare_7 : decode cX4_compare 7 = .ok (.iconst 1, 1) := by decide +kernel
theorem dX4_compare_8 : decode cX4_compare 8 = .ok (.iload_n 2, 1) := by decide +kernel
theorem dX4_compare_9 : decode cX4_compare 9 = .ok (.invokevirtual 96, 3) := by decide +kernel
theorem dX4_compare_12 : decode cX4_compare 12 = .ok (.iconst 0, 1) := by decide +kernel
theorem dX4_compare_13 : decode cX4_compare 13 = .ok (.istore 4, 2) := by decide +kernel
theorem dX4_compare_15 : decode cX4_compare 15 = .ok (.iconst 0, 1) := by decide +kernel
theorem dX4_compare_16 : decode cX4_compare 16 = .ok (.istore 5, 2) := by decide +kernel
theorem dX4_compare_18 : decode cX4_compare 18 = .ok (.aload_n 0, 1) := by decide +kernel
theorem dX4_compare_19 : decode cX4_compare 19 = .ok (.iconst 0, 1) := by decide +kernel
theorem dX4_compare_20 : decode cX4_compare 20 = .ok (.putfield 99, 3) := by decide +kernel
theorem dX4_compare_23 : decode cX4_compare 23 = .ok (.aload_n 0, 1) := by decide +kernel
theorem dX4_compare_24 : decode cX4_compare 24 = .ok (.iconst 0, 1) := by decide +kernel
theorem dX4_compare_25 : decode cX4_compare 25 = .ok (.putfield 102, 3) := by decide +kernel
theorem dX4_compare_28 : decode cX4_compare 28 = .ok (.aload_n 0, 1) := by decide +kernel
theorem dX4_compare_29 : decode cX4_compare 29 = .ok (.getfield 99, 3) := by decide +kernel
theorem dX4_compare_32 : decode cX4_compare 32 = .ok (.iload_n 3, 1) := by decide +kernel
theorem dX4_compare_33 : decode cX4_compare 33 = .ok (.if_icmp .ge 190, 3) := by decide +kernel
theorem dX4_compare_36 : decode cX4_compare 36 = .ok (.iload 4, 2) := by decide +kernel
theorem dX4_compare_38 : decode cX4_compare 38 = .ok (.aload_n 0, 1) := by decide +kernel
theorem dX4_compare_39 : decode cX4_compare 39 = .ok (.getfield 35, 3) := by decide +kernel
theorem dX4_compare_42 : decode cX4_compare 42 = .ok (.iconst 0, 1) := by decide +kernel
theorem dX4_compare_43 : decode cX4_compare 43 = .ok (.iaload, 1) := by decide +kernel
theorem dX4_compare_44 : decode cX4_compare 44 = .ok (.if_icmp .lt 14, 3) := by decide +kernel
theorem dX4_compare_47 : decode cX4_compare 47 = .ok (.iload 5, 2) := by decide +kernel
theorem dX4_compare_49 : decode cX4_compare 49 = .ok (.aload_n 0, 1) := by decide +kernel
theorem dX4_compare_50 : decode cX4_compare 50 = .ok (.getfield 35, 3) := by decide +kernel
theorem dX4_compare_53 : decode cX4_compare 53 = .ok (.iconst 1, 1) := by decide +kernel
theorem dX4_compare_54 : decode cX4_compare 54 = .ok (.iaload, 1) := by decide +kernel
theorem dX4_compare_55 : decode cX4_compare 55 = .ok (.if_icmp .ge 168, 3) := by decide +kernel
theorem dX4_compare_58 : decode cX4_compare 58 = .ok (.iload 5, 2) := by decide +kernel
theorem dX4_compare_60 : decode cX4_compare 60 = .ok (.aload_n 0, 1) := by decide +kernel
theorem dX4_compare_61 : decode cX4_compare 61 = .ok (.getfield 35, 3) := by decide +kernel
theorem dX4_compare_64 : decode cX4_compare 64 = .ok (.iconst 1, 1) := by decide +kernel
theorem dX4_compare_65 : decode cX4_compare 65 = .ok (.iaload, 1) := by decide +kernel
theorem dX4_compare_66 : decode cX4_compare 66 = .ok (.if_icmp .eq 34, 3) := by decide +kernel
theorem dX4_compare_69 : decode cX4_compare 69 = .ok (.iload 4, 2) := by decide +kernel
theorem dX4_compare_71 : decode cX4_compare 71 = .ok (.aload_n 0, 1) := by decide +kernel
theorem dX4_compare_72 : decode cX4_compare 72 = .ok (.getfield 35, 3) := by decide +kernel
theorem dX4_compare_75 : decode cX4_compare 75 = .ok (.iconst 0, 1) := by decide +kernel
theorem dX4_compare_76 : decode cX4_compare 76 = .ok (.iaload, 1) := by decide +kernel
theorem dX4_compare_77 : decode cX4_compare 77 = .ok (.if_icmp .ge 27, 3) := by decide +kernel
theorem dX4_compare_80 : decode cX4_compare 80 = .ok (.aload_n 0, 1) := by decide +kernel
theorem dX4_compare_81 : decode cX4_compare 81 = .ok (.getfield 29, 3) := by decide +kernel
theorem dX4_compare_84 : decode cX4_compare 84 = .ok (.iload 4, 2) := by decide +kernel
theorem dX4_compare_86 : decode cX4_compare 86 = .ok (.iaload, 1) := by decide +kernel
theorem dX4_compare_87 : decode cX4_compare 87 = .ok (.aload_n 0, 1) := by decide +kernel
theorem dX4_compare_88 : decode cX4_compare 88 = .ok (.getfield 29, 3) := by decide +kernel
theorem dX4_compare_91 : decode cX4_compare 91 = .ok (.bipush 64, 2) := by decide +kernel
theorem dX4_compare_93 : decode cX4_compare 93 = .ok (.iload 5, 2) := by decide +kernel
theorem dX4_compare_95 : decode cX4_compare 95 = .ok (.iadd, 1) := by decide +kernel
theorem dX4_compare_96 : decode cX4_compare 96 = .ok (.iaload, 1) := by decide +kernel
theorem dX4_compare_97 : decode cX4_compare 97 = .ok (.if_icmp .gt 7, 3) := by decide +kernel
theorem dX4_compare_100 : decode cX4_compare 100 = .ok (.iconst 1, 1) := by decide +kernel
theorem dX4_compare_101 : decode cX4_compare 101 = .ok (.goto 4, 3) := by decide +kernel
theorem dX4_compare_104 : decode cX4_compare 104 = .ok (.iconst 0, 1) := by decide +kernel
theorem dX4_compare_105 : decode cX4_compare 105 = .ok (.istore 6, 2) := by decide +kernel
theorem dX4_compare_107 : decode cX4_compare 107 = .ok (.iload 4, 2) := by decide +kernel
theorem dX4_compare_109 : decode cX4_compare 109 = .ok (.aload_n 0, 1) := by decide +kernel
theorem dX4_compare_110 : decode cX4_compare 110 = .ok (.getfield 35, 3) := by decide +kernel
theorem dX4_compare_113 : decode cX4_compare 113 = .ok (.iconst 0, 1) := by decide +kernel
theorem dX4_compare_114 : decode cX4_compare 114 = .ok (.iaload, 1) := by decide +kernel
theorem dX4_compare_115 : decode cX4_compare 115 = .ok (.if_icmp .eq 34, 3) := by decide +kernel
theorem dX4_compare_118 : decode cX4_compare 118 = .ok (.iload 5, 2) := by decide +kernel
theorem dX4_compare_120 : decode cX4_compare 120 = .ok (.aload_n 0, 1) := by decide +kernel
theorem dX4_compare_121 : decode cX4_compare 121 = .ok (.getfield 35, 3) := by decide +kernel
theorem dX4_compare_124 : decode cX4_compare 124 = .ok (.iconst 1, 1) := by decide +kernel
theorem dX4_compare_125 : decode cX4_compare 125 = .ok (.iaload, 1) := by decide +kernel
theorem dX4_compare_126 : decode cX4_compare 126 = .ok (.if_icmp .ge 27, 3) := by decide +kernel
theorem dX4_compare_129 : decode cX4_compare 129 = .ok (.aload_n 0, 1) := by decide +kernel
theorem dX4_compare_130 : decode cX4_compare 130 = .ok (.getfield 29, 3) := by decide +kernel
theorem dX4_compare_133 : decode cX4_compare 133 = .ok (.bipush 64, 2) := by decide +kernel
theorem dX4_compare_135 : decode cX4_compare 135 = .ok (.iload 5, 2) := by decide +kernel
theorem dX4_compare_137 : decode cX4_compare 137 = .ok (.iadd, 1) := by decide +kernel
theorem dX4_compare_138 : decode cX4_compare 138 = .ok (.iaload, 1) := by decide +kernel
theorem dX4_compare_139 : decode cX4_compare 139 = .ok (.aload_n 0, 1) := by decide +kernel
theorem dX4_compare_140 : decode cX4_compare 140 = .ok (.getfield 29, 3) := by decide +kernel
theorem dX4_compare_143 : decode cX4_compare 143 = .ok (.iload 4, 2) := by decide +kernel
theorem dX4_compare_145 : decode cX4_compare 145 = .ok (.iaload, 1) := by decide +kernel
theorem dX4_compare_146 : decode cX4_compare 146 = .ok (.if_icmp .gt 7, 3) := by decide +kernel
theorem dX4_compare_149 : decode cX4_compare 149 = .ok (.iconst 1, 1) := by decide +kernel
theorem dX4_compare_150 : decode cX4_compare 150 = .ok (.goto 4, 3) := by decide +kernel
theorem dX4_compare_153 : decode cX4_compare 153 = .ok (.iconst 0, 1) := by decide +kernel
theorem dX4_compare_154 : decode cX4_compare 154 = .ok (.istore 7, 2) := by decide +kernel
theorem dX4_compare_156 : decode cX4_compare 156 = .ok (.aload_n 0, 1) := by decide +kernel
theorem dX4_compare_157 : decode cX4_compare 157 = .ok (.dup, 1) := by decide +kernel
theorem dX4_compare_158 : decode cX4_compare 158 = .ok (.getfield 99, 3) := by decide +kernel
theorem dX4_compare_161 : decode cX4_compare 161 = .ok (.iconst 1, 1) := by decide +kernel
theorem dX4_compare_162 : decode cX4_compare 162 = .ok (.iadd, 1) := by decide +kernel
theorem dX4_compare_163 : decode cX4_compare 163 = .ok (.putfield 99, 3) := by decide +kernel
theorem dX4_compare_166 : decode cX4_compare 166 = .ok (.aload_n 0, 1) := by decide +kernel
theorem dX4_compare_167 : decode cX4_compare 167 = .ok (.dup, 1) := by decide +kernel
theorem dX4_compare_168 : decode cX4_compare 168 = .ok (.getfield 102, 3) := by decide +kernel
theorem dX4_compare_171 : decode cX4_compare 171 = .ok (.iload 6, 2) := by decide +kernel
theorem dX4_compare_173 : decode cX4_compare 173 = .ok (.ifCond .eq 12, 3) := by decide +kernel
theorem dX4_compare_176 : decode cX4_compare 176 = .ok (.iload 7, 2) := by decide +kernel
theorem dX4_compare_178 : decode cX4_compare 178 = .ok (.ifCond .eq 7, 3) := by decide +kernel
theorem dX4_compare_181 : decode cX4_compare 181 = .ok (.iconst 1, 1) := by decide +kernel
theorem dX4_compare_182 : decode cX4_compare 182 = .ok (.goto 4, 3) := by decide +kernel
theorem dX4_compare_185 : decode cX4_compare 185 = .ok (.iconst 0, 1) := by decide +kernel
theorem dX4_compare_186 : decode cX4_compare 186 = .ok (.iadd, 1) := by decide +kernel
theorem dX4_compare_187 : decode cX4_compare 187 = .ok (.putfield 102, 3) := by decide +kernel
theorem dX4_compare_190 : decode cX4_compare 190 = .ok (.iload 4, 2) := by decide +kernel
theorem dX4_compare_192 : decode cX4_compare 192 = .ok (.iload 6, 2) := by decide +kernel
theorem dX4_compare_194 : decode cX4_compare 194 = .ok (.ifCond .eq 7, 3) := by decide +kernel
theorem dX4_compare_197 : decode cX4_compare 197 = .ok (.iconst 1, 1) := by decide +kernel
theorem dX4_compare_198 : decode cX4_compare 198 = .ok (.goto 4, 3) := by decide +kernel
theorem dX4_compare_201 : decode cX4_compare 201 = .ok (.iconst 0, 1) := by decide +kernel
theorem dX4_compare_202 : decode cX4_compare 202 = .ok (.iadd, 1) := by decide +kernel
theorem dX4_compare_203 : decode cX4_compare 203 = .ok (.istore 4, 2) := by decide +kernel
theorem dX4_compare_205 : decode cX4_compare 205 = .ok (.iload 5, 2) := by decide +kernel
theorem dX4_compare_207 : decode cX4_compare 207 = .ok (.iload 7, 2) := by decide +kernel
theorem dX4_compare_209 : decode cX4_compare 209 = .ok (.ifCond .eq 7, 3) := by decide +kernel
theorem dX4_compare_212 : decode cX4_compare 212 = .ok (.iconst 1, 1) := by decide +kernel
theorem dX4_compare_213 : decode cX4_compare 213 = .ok (.goto 4, 3) := by decide +kernel
theorem dX4_compare_216 : decode cX4_compare 216 = .ok (.iconst 0, 1) := by decide +kernel
theorem dX4_compare_217 : decode cX4_compare 217 = .ok (.iadd, 1) := by decide +kernel
theorem dX4_compare_218 : decode cX4_compare 218 = .ok (.istore 5, 2) := by decide +kernel
theorem dX4_compare_220 : decode cX4_compare 220 = .ok (.goto (-192), 3) := by decide +kernel
theorem dX4_compare_223 : decode cX4_compare 223 = .ok (.aload_n 0, 1) := by decide +kernel
theorem dX4_compare_224 : decode cX4_compare 224 = .ok (.aload_n 0, 1) := by decide +kernel
theorem dX4_compare_225 : decode cX4_compare 225 = .ok (.getfield 35, 3) := by decide +kernel
theorem dX4_compare_228 : decode cX4_compare 228 = .ok (.iconst 0, 1) := by decide +kernel
theorem dX4_compare_229 : decode cX4_compare 229 = .ok (.iaload, 1) := by decide +kernel
theorem dX4_compare_230 : decode cX4_compare 230 = .ok (.iload 4, 2) := by decide +kernel
theorem dX4_compare_232 : decode cX4_compare 232 = .ok (.isub, 1) := by decide +kernel
theorem dX4_compare_233 : decode cX4_compare 233 = .ok (.aload_n 0, 1) := by decide +kernel
theorem dX4_compare_234 : decode cX4_compare 234 = .ok (.getfield 35, 3) := by decide +kernel
theorem dX4_compare_237 : decode cX4_compare 237 = .ok (.iconst 1, 1) := by decide +kernel
theorem dX4_compare_238 : decode cX4_compare 238 = .ok (.iaload, 1) := by decide +kernel
theorem dX4_compare_239 : decode cX4_compare 239 = .ok (.iload 5, 2) := by decide +kernel
theorem dX4_compare_241 : decode cX4_compare 241 = .ok (.isub, 1) := by decide +kernel
theorem dX4_compare_242 : decode cX4_compare 242 = .ok (.if_icmp .ge 15, 3) := by decide +kernel
theorem dX4_compare_245 : decode cX4_compare 245 = .ok (.aload_n 0, 1) := by decide +kernel
theorem dX4_compare_246 : decode cX4_compare 246 = .ok (.getfield 35, 3) := by decide +kernel
theorem dX4_compare_249 : decode cX4_compare 249 = .ok (.iconst 0, 1) := by decide +kernel
theorem dX4_compare_250 : decode cX4_compare 250 = .ok (.iaload, 1) := by decide +kernel
theorem dX4_compare_251 : decode cX4_compare 251 = .ok (.iload 4, 2) := by decide +kernel
theorem dX4_compare_253 : decode cX4_compare 253 = .ok (.isub, 1) := by decide +kernel
theorem dX4_compare_254 : decode cX4_compare 254 = .ok (.goto 12, 3) := by decide +kernel
theorem dX4_compare_257 : decode cX4_compare 257 = .ok (.aload_n 0, 1) := by decide +kernel
theorem dX4_compare_258 : decode cX4_compare 258 = .ok (.getfield 35, 3) := by decide +kernel
theorem dX4_compare_261 : decode cX4_compare 261 = .ok (.iconst 1, 1) := by decide +kernel
theorem dX4_compare_262 : decode cX4_compare 262 = .ok (.iaload, 1) := by decide +kernel
theorem dX4_compare_263 : decode cX4_compare 263 = .ok (.iload 5, 2) := by decide +kernel
theorem dX4_compare_265 : decode cX4_compare 265 = .ok (.isub, 1) := by decide +kernel
theorem dX4_compare_266 : decode cX4_compare 266 = .ok (.putfield 105, 3) := by decide +kernel
theorem dX4_compare_269 : decode cX4_compare 269 = .ok (.aload_n 0, 1) := by decide +kernel
theorem dX4_compare_270 : decode cX4_compare 270 = .ok (.aload_n 0, 1) := by decide +kernel
theorem dX4_compare_271 : decode cX4_compare 271 = .ok (.getfield 102, 3) := by decide +kernel
theorem dX4_compare_274 : decode cX4_compare 274 = .ok (.putfield 108, 3) := by decide +kernel
theorem dX4_compare_277 : decode cX4_compare 277 = .ok (.iload 4, 2) := by decide +kernel
theorem dX4_compare_279 : decode cX4_compare 279 = .ok (.aload_n 0, 1) := by decide +kernel
theorem dX4_compare_280 : decode cX4_compare 280 = .ok (.getfield 35, 3) := by decide +kernel
theorem dX4_compare_283 : decode cX4_compare 283 = .ok (.iconst 0, 1) := by decide +kernel
theorem dX4_compare_284 : decode cX4_compare 284 = .ok (.iaload, 1) := by decide +kernel
theorem dX4_compare_285 : decode cX4_compare 285 = .ok (.if_icmp .ge 93, 3) := by decide +kernel
theorem dX4_compare_288 : decode cX4_compare 288 = .ok (.iload 5, 2) := by decide +kernel
theorem dX4_compare_290 : decode cX4_compare 290 = .ok (.aload_n 0, 1) := by decide +kernel
theorem dX4_compare_291 : decode cX4_compare 291 = .ok (.getfield 35, 3) := by decide +kernel
theorem dX4_compare_294 : decode cX4_compare 294 = .ok (.iconst 1, 1) := by decide +kernel
theorem dX4_compare_295 : decode cX4_compare 295 = .ok (.iaload, 1) := by decide +kernel
theorem dX4_compare_296 : decode cX4_compare 296 = .ok (.if_icmp .ge 82, 3) := by decide +kernel
theorem dX4_compare_299 : decode cX4_compare 299 = .ok (.aload_n 0, 1) := by decide +kernel
theorem dX4_compare_300 : decode cX4_compare 300 = .ok (.getfield 29, 3) := by decide +kernel
theorem dX4_compare_303 : decode cX4_compare 303 = .ok (.iload 4, 2) := by decide +kernel
theorem dX4_compare_305 : decode cX4_compare 305 = .ok (.iaload, 1) := by decide +kernel
theorem dX4_compare_306 : decode cX4_compare 306 = .ok (.istore 6, 2) := by decide +kernel
theorem dX4_compare_308 : decode cX4_compare 308 = .ok (.aload_n 0, 1) := by decide +kernel
theorem dX4_compare_309 : decode cX4_compare 309 = .ok (.getfield 29, 3) := by decide +kernel
theorem dX4_compare_312 : decode cX4_compare 312 = .ok (.bipush 64, 2) := by decide +kernel
theorem dX4_compare_314 : decode cX4_compare 314 = .ok (.iload 5, 2) := by decide +kernel
theorem dX4_compare_316 : decode cX4_compare 316 = .ok (.iadd, 1) := by decide +kernel
theorem dX4_compare_317 : decode cX4_compare 317 = .ok (.iaload, 1) := by decide +kernel
theorem dX4_compare_318 : decode cX4_compare 318 = .ok (.istore 7, 2) := by decide +kernel
theorem dX4_compare_320 : decode cX4_compare 320 = .ok (.aload_n 0, 1) := by decide +kernel
theorem dX4_compare_321 : decode cX4_compare 321 = .ok (.dup, 1) := by decide +kernel
theorem dX4_compare_322 : decode cX4_compare 322 = .ok (.getfield 108, 3) := by decide +kernel
theorem dX4_compare_325 : decode cX4_compare 325 = .ok (.iload 6, 2) := by decide +kernel
theorem dX4_compare_327 : decode cX4_compare 327 = .ok (.iload 7, 2) := by decide +kernel
theorem dX4_compare_329 : decode cX4_compare 329 = .ok (.if_icmp .ne 7, 3) := by decide +kernel
theorem dX4_compare_332 : decode cX4_compare 332 = .ok (.iconst 1, 1) := by decide +kernel
theorem dX4_compare_333 : decode cX4_compare 333 = .ok (.goto 4, 3) := by decide +kernel
theorem dX4_compare_336 : decode cX4_compare 336 = .ok (.iconst 0, 1) := by decide +kernel
theorem dX4_compare_337 : decode cX4_compare 337 = .ok (.iadd, 1) := by decide +kernel
theorem dX4_compare_338 : decode cX4_compare 338 = .ok (.putfield 108, 3) := by decide +kernel
theorem dX4_compare_341 : decode cX4_compare 341 = .ok (.iload 4, 2) := by decide +kernel
theorem dX4_compare_343 : decode cX4_compare 343 = .ok (.iload 6, 2) := by decide +kernel
theorem dX4_compare_345 : decode cX4_compare 345 = .ok (.iload 7, 2) := by decide +kernel
theorem dX4_compare_347 : decode cX4_compare 347 = .ok (.if_icmp .gt 7, 3) := by decide +kernel
theorem dX4_compare_350 : decode cX4_compare 350 = .ok (.iconst 1, 1) := by decide +kernel
theorem dX4_compare_351 : decode cX4_compare 351 = .ok (.goto 4, 3) := by decide +kernel
theorem dX4_compare_354 : decode cX4_compare 354 = .ok (.iconst 0, 1) := by decide +kernel
theorem dX4_compare_355 : decode cX4_compare 355 = .ok (.iadd, 1) := by decide +kernel
theorem dX4_compare_356 : decode cX4_compare 356 = .ok (.istore 4, 2) := by decide +kernel
theorem dX4_compare_358 : decode cX4_compare 358 = .ok (.iload 5, 2) := by decide +kernel
theorem dX4_compare_360 : decode cX4_compare 360 = .ok (.iload 7, 2) := by decide +kernel
theorem dX4_compare_362 : decode cX4_compare 362 = .ok (.iload 6, 2) := by decide +kernel
theorem dX4_compare_364 : decode cX4_compare 364 = .ok (.if_icmp .gt 7, 3) := by decide +kernel
theorem dX4_compare_367 : decode cX4_compare 367 = .ok (.iconst 1, 1) := by decide +kernel
theorem dX4_compare_368 : decode cX4_compare 368 = .ok (.goto 4, 3) := by decide +kernel
theorem dX4_compare_371 : decode cX4_compare 371 = .ok (.iconst 0, 1) := by decide +kernel
theorem dX4_compare_372 : decode cX4_compare 372 = .ok (.iadd, 1) := by decide +kernel
theorem dX4_compare_373 : decode cX4_compare 373 = .ok (.istore 5, 2) := by decide +kernel
theorem dX4_compare_375 : decode cX4_compare 375 = .ok (.goto (-98), 3) := by decide +kernel
theorem dX4_compare_378 : decode cX4_compare 378 = .ok (.return_, 1) := by decide +kernel
theorem dX4_share_0 : decode cX4_share 0 = .ok (.iload_n 1, 1) := by decide +kernel
theorem dX4_share_1 : decode cX4_share 1 = .ok (.ifCond .ne 7, 3) := by decide +kernel
theorem dX4_share_4 : decode cX4_share 4 = .ok (.iconst 0, 1) := by decide +kernel
theorem dX4_share_5 : decode cX4_share 5 = .ok (.goto 10, 3) := by decide +kernel
theorem dX4_share_8 : decode cX4_share 8 = .ok (.sipush 10000, 3) := by decide +kernel
theorem dX4_share_11 : decode cX4_share 11 = .ok (.iload_n 0, 1) := by decide +kernel
theorem dX4_share_12 : decode cX4_share 12 = .ok (.imul, 1) := by decide +kernel
theorem dX4_share_13 : decode cX4_share 13 = .ok (.iload_n 1, 1) := by decide +kernel
theorem dX4_share_14 : decode cX4_share 14 = .ok (.idiv, 1) := by decide +kernel
theorem dX4_share_15 : decode cX4_share 15 = .ok (.ireturn, 1) := by decide +kernel
theorem dX4_shareUp_0 : decode cX4_shareUp 0 = .ok (.iload_n 1, 1) := by decide +kernel
theorem dX4_shareUp_1 : decode cX4_shareUp 1 = .ok (.ifCond .ne 7, 3) := by decide +kernel
theorem dX4_shareUp_4 : decode cX4_shareUp 4 = .ok (.iconst 0, 1) := by decide +kernel
theorem dX4_shareUp_5 : decode cX4_shareUp 5 = .ok (.goto 14, 3) := by decide +kernel
theorem dX4_shareUp_8 : decode cX4_shareUp 8 = .ok (.sipush 10000, 3) := by decide +kernel
theorem dX4_shareUp_11 : decode cX4_shareUp 11 = .ok (.iload_n 0, 1) := by decide +kernel
theorem dX4_shareUp_12 : decode cX4_shareUp 12 = .ok (.imul, 1) := by decide +kernel
theorem dX4_shareUp_13 : decode cX4_shareUp 13 = .ok (.iload_n 1, 1) := by decide +kernel
theorem dX4_shareUp_14 : decode cX4_shareUp 14 = .ok (.iadd, 1) := by decide +kernel
theorem dX4_shareUp_15 : decode cX4_shareUp 15 = .ok (.iconst 1, 1) := by decide +kernel
theorem dX4_shareUp_16 : decode cX4_shareUp 16 = .ok (.isub, 1) := by decide +kernel
theorem dX4_shareUp_17 : decode cX4_shareUp 17 = .ok (.iload_n 1, 1) := by decide +kernel
theorem dX4_shareUp_18 : decode cX4_shareUp 18 = .ok (.idiv, 1) := by decide +kernel
theorem dX4_shareUp_19 : decode cX4_shareUp 19 = .ok (.ireturn, 1) := by decide +kernel
theorem dX4_either_0 : decode cX4_either 0 = .ok (.aload_n 0, 1) := by decide +kernel
theorem dX4_either_1 : decode cX4_either 1 = .ok (.getfield 35, 3) := by decide +kernel
theorem dX4_either_4 : decode cX4_either 4 = .ok (.iconst 0, 1) := by decide +kernel
theorem dX4_either_5 : decode cX4_either 5 = .ok (.iaload, 1) := by decide +kernel
theorem dX4_either_6 : decode cX4_either 6 = .ok (.aload_n 0, 1) := by decide +kernel
theorem dX4_either_7 : decode cX4_either 7 = .ok (.getfield 35, 3) := by decide +kernel
theorem dX4_either_10 : decode cX4_either 10 = .ok (.iconst 1, 1) := by decide +kernel
theorem dX4_either_11 : decode cX4_either 11 = .ok (.iaload, 1) := by decide +kernel
theorem dX4_either_12 : decode cX4_either 12 = .ok (.iadd, 1) := by decide +kernel
theorem dX4_either_13 : decode cX4_either 13 = .ok (.aload_n 0, 1) := by decide +kernel
theorem dX4_either_14 : decode cX4_either 14 = .ok (.getfield 108, 3) := by decide +kernel
theorem dX4_either_17 : decode cX4_either 17 = .ok (.isub, 1) := by decide +kernel
theorem dX4_either_18 : decode cX4_either 18 = .ok (.ireturn, 1) := by decide +kernel
set_option maxRecDepth 20000 in
theorem ggX4_lower_X4_share : GoodIn wsX4_lower wsX4_share := goodIn_r _ [6] (by decide +kernel) (by decide +kernel)
set_option maxRecDepth 20000 in
theorem gX4_lower_X4_share : GoodIn wsX4_lower (va_wsS RX4 111 yX4_share wsX4_share) := goodIn_app (goodIn_of _ (by decide +kernel)) ggX4_lower_X4_share
theorem dX4_lower_0 : decode cX4_lower 0 = .ok (.aload_n 0, 1) := by decide +kernel
theorem dX4_lower_1 : decode cX4_lower 1 = .ok (.getfield 102, 3) := by decide +kernel
theorem dX4_lower_4 : decode cX4_lower 4 = .ok (.aload_n 0, 1) := by decide +kernel
theorem dX4_lower_5 : decode cX4_lower 5 = .ok (.getfield 35, 3) := by decide +kernel
theorem dX4_lower_8 : decode cX4_lower 8 = .ok (.iconst 0, 1) := by decide +kernel
theorem dX4_lower_9 : decode cX4_lower 9 = .ok (.iaload, 1) := by decide +kernel
theorem dX4_lower_10 : decode cX4_lower 10 = .ok (.aload_n 0, 1) := by decide +kernel
theorem dX4_lower_11 : decode cX4_lower 11 = .ok (.getfield 35, 3) := by decide +kernel
theorem dX4_lower_14 : decode cX4_lower 14 = .ok (.iconst 1, 1) := by decide +kernel
theorem dX4_lower_15 : decode cX4_lower 15 = .ok (.iaload, 1) := by decide +kernel
theorem dX4_lower_16 : decode cX4_lower 16 = .ok (.iadd, 1) := by decide +kernel
theorem dX4_lower_17 : decode cX4_lower 17 = .ok (.aload_n 0, 1) := by decide +kernel
theorem dX4_lower_18 : decode cX4_lower 18 = .ok (.getfield 102, 3) := by decide +kernel
theorem dX4_lower_21 : decode cX4_lower 21 = .ok (.isub, 1) := by decide +kernel
theorem dX4_lower_22 : decode cX4_lower 22 = .ok (.invokestatic 111, 3) := by decide +kernel
theorem dX4_lower_25 : decode cX4_lower 25 = .ok (.ireturn, 1) := by decide +kernel
set_option maxRecDepth 20000 in
theorem ggX4_upper_X4_shareUp : GoodIn wsX4_upper wsX4_shareUp := goodIn_r _ [7] (by decide +kernel) (by decide +kernel)
set_option maxRecDepth 20000 in
theorem gX4_upper_X4_shareUp : GoodIn wsX4_upper (va_wsS RX4 114 yX4_shareUp wsX4_shareUp) := goodIn_app (goodIn_of _ (by decide +kernel)) ggX4_upper_X4_shareUp
theorem dX4_upper_0 : decode cX4_upper 0 = .ok (.aload_n 0, 1) := by decide +kernel
theorem dX4_upper_1 : decode cX4_upper 1 = .ok (.getfield 102, 3) := by decide +kernel
theorem dX4_upper_4 : decode cX4_upper 4 = .ok (.aload_n 0, 1) := by decide +kernel
theorem dX4_upper_5 : decode cX4_upper 5 = .ok (.getfield 105, 3) := by decide +kernel
theorem dX4_upper_8 : decode cX4_upper 8 = .ok (.iadd, 1) := by decide +kernel
theorem dX4_upper_9 : decode cX4_upper 9 = .ok (.aload_n 0, 1) := by decide +kernel
theorem dX4_upper_10 : decode cX4_upper 10 = .ok (.getfield 35, 3) := by decide +kernel
theorem dX4_upper_13 : decode cX4_upper 13 = .ok (.iconst 0, 1) := by decide +kernel
theorem dX4_upper_14 : decode cX4_upper 14 = .ok (.iaload, 1) := by decide +kernel
theorem dX4_upper_15 : decode cX4_upper 15 = .ok (.aload_n 0, 1) := by decide +kernel
theorem dX4_upper_16 : decode cX4_upper 16 = .ok (.getfield 35, 3) := by decide +kernel
theorem dX4_upper_19 : decode cX4_upper 19 = .ok (.iconst 1, 1) := by decide +kernel
theorem dX4_upper_20 : decode cX4_upper 20 = .ok (.iaload, 1) := by decide +kernel
theorem dX4_upper_21 : decode cX4_upper 21 = .ok (.iadd, 1) := by decide +kernel
theorem dX4_upper_22 : decode cX4_upper 22 = .ok (.aload_n 0, 1) := by decide +kernel
theorem dX4_upper_23 : decode cX4_upper 23 = .ok (.getfield 102, 3) := by decide +kernel
theorem dX4_upper_26 : decode cX4_upper 26 = .ok (.isub, 1) := by decide +kernel
theorem dX4_upper_27 : decode cX4_upper 27 = .ok (.aload_n 0, 1) := by decide +kernel
theorem dX4_upper_28 : decode cX4_upper 28 = .ok (.getfield 105, 3) := by decide +kernel
theorem dX4_upper_31 : decode cX4_upper 31 = .ok (.isub, 1) := by decide +kernel
theorem dX4_upper_32 : decode cX4_upper 32 = .ok (.invokestatic 114, 3) := by decide +kernel
theorem dX4_upper_35 : decode cX4_upper 35 = .ok (.ireturn, 1) := by decide +kernel
theorem dX4_sampled_0 : decode cX4_sampled 0 = .ok (.aload_n 0, 1) := by decide +kernel
theorem dX4_sampled_1 : decode cX4_sampled 1 = .ok (.getfield 35, 3) := by decide +kernel
theorem dX4_sampled_4 : decode cX4_sampled 4 = .ok (.iload_n 1, 1) := by decide +kernel
theorem dX4_sampled_5 : decode cX4_sampled 5 = .ok (.iaload, 1) := by decide +kernel
theorem dX4_sampled_6 : decode cX4_sampled 6 = .ok (.aload_n 0, 1) := by decide +kernel
theorem dX4_sampled_7 : decode cX4_sampled 7 = .ok (.getfield 7, 3) := by decide +kernel
theorem dX4_sampled_10 : decode cX4_sampled 10 = .ok (.iconst 1, 1) := by decide +kernel
theorem dX4_sampled_11 : decode cX4_sampled 11 = .ok (.iaload, 1) := by decide +kernel
theorem dX4_sampled_12 : decode cX4_sampled 12 = .ok (.if_icmp .ge 12, 3) := by decide +kernel
theorem dX4_sampled_15 : decode cX4_sampled 15 = .ok (.aload_n 0, 1) := by decide +kernel
theorem dX4_sampled_16 : decode cX4_sampled 16 = .ok (.getfield 35, 3) := by decide +kernel
theorem dX4_sampled_19 : decode cX4_sampled 19 = .ok (.iload_n 1, 1) := by decide +kernel
theorem dX4_sampled_20 : decode cX4_sampled 20 = .ok (.iaload, 1) := by decide +kernel
theorem dX4_sampled_21 : decode cX4_sampled 21 = .ok (.goto 9, 3) := by decide +kernel
theorem dX4_sampled_24 : decode cX4_sampled 24 = .ok (.aload_n 0, 1) := by decide +kernel
theorem dX4_sampled_25 : decode cX4_sampled 25 = .ok (.getfield 7, 3) := by decide +kernel
theorem dX4_sampled_28 : decode cX4_sampled 28 = .ok (.iconst 1, 1) := by decide +kernel
theorem dX4_sampled_29 : decode cX4_sampled 29 = .ok (.iaload, 1) := by decide +kernel
theorem dX4_sampled_30 : decode cX4_sampled 30 = .ok (.ireturn, 1) := by decide +kernel
set_option maxRecDepth 20000 in
theorem ggX4_ofRow_X4_isRow : GoodIn wsX4_ofRow wsX4_isRow := goodIn_r _ [8, 1, 9, 10, 7, 11, 39, 40, 41, 42, 43, 44, 45, 46, 47, 48, 49, 50, 51, 52, 53] (by decide +kernel) (by decide +kernel)
set_option maxRecDepth 20000 in
theorem gX4_ofRow_X4_isRow : GoodIn wsX4_ofRow (wsV RX4 43 RX4 yX4_isRow wsX4_isRow) := goodIn_app (goodIn_of _ (by decide +kernel)) ggX4_ofRow_X4_isRow
set_option maxRecDepth 20000 in
theorem ggX4_ofRow_X4_find : GoodIn wsX4_ofRow wsX4_find := goodIn_r _ [15, 2, 1, 16, 17, 18, 7, 19, 20, 21, 22, 23, 24, 25, 26, 27, 3, 28, 29, 30, 31, 32, 33, 34, 39, 40, 41, 42, 43, 44, 45, 46, 47, 48, 49, 50, 51, 52, 53] (by decide +kernel) (by decide +kernel)
set_option maxRecDepth 20000 in
theorem gX4_ofRow_X4_find : GoodIn wsX4_ofRow (wsV RX4 96 RX4 yX4_find wsX4_find) := goodIn_app (goodIn_of _ (by decide +kernel)) ggX4_ofRow_X4_find
set_option maxRecDepth 20000 in
theorem ggX4_ofRow_X4_sampled : GoodIn wsX4_ofRow wsX4_sampled := goodIn_r _ [38, 2, 1, 39, 40, 41, 42, 43, 44, 45, 46, 47, 48, 49, 50, 51, 52, 53] (by decide +kernel) (by decide +kernel)
set_option maxRecDepth 20000 in
theorem gX4_ofRow_X4_sampled : GoodIn wsX4_ofRow (wsV RX4 117 RX4 yX4_sampled wsX4_sampled) := goodIn_app (goodIn_of _ (by decide +kernel)) ggX4_ofRow_X4_sampled
theorem dX4_ofRow_0 : decode cX4_ofRow 0 = .ok (.aload_n 0, 1) := by decide +kernel
theorem dX4_ofRow_1 : decode cX4_ofRow 1 = .ok (.iload_n 1, 1) := by decide +kernel
theorem dX4_ofRow_2 : decode cX4_ofRow 2 = .ok (.invokevirtual 43, 3) := by decide +kernel
theorem dX4_ofRow_5 : decode cX4_ofRow 5 = .ok (.ifCond .ne 5, 3) := by decide +kernel
theorem dX4_ofRow_8 : decode cX4_ofRow 8 = .ok (.iconst (-1), 1) := by decide +kernel
theorem dX4_ofRow_9 : decode cX4_ofRow 9 = .ok (.ireturn, 1) := by decide +kernel
theorem dX4_ofRow_10 : decode cX4_ofRow 10 = .ok (.aload_n 0, 1) := by decide +kernel
theorem dX4_ofRow_11 : decode cX4_ofRow 11 = .ok (.iconst 0, 1) := by decide +kernel
theorem dX4_ofRow_12 : decode cX4_ofRow 12 = .ok (.iload_n 1, 1) := by decide +kernel
theorem dX4_ofRow_13 : decode cX4_ofRow 13 = .ok (.invokevirtual 96, 3) := by decide +kernel
theorem dX4_ofRow_16 : decode cX4_ofRow 16 = .ok (.iload_n 2, 1) := by decide +kernel
theorem dX4_ofRow_17 : decode cX4_ofRow 17 = .ok (.tableswitch 80 0 3 #[31, 40, 47, 53], 31) := by decide +kernel
theorem dX4_ofRow_48 : decode cX4_ofRow 48 = .ok (.aload_n 0, 1) := by decide +kernel
theorem dX4_ofRow_49 : decode cX4_ofRow 49 = .ok (.getfield 7, 3) := by decide +kernel
theorem dX4_ofRow_52 : decode cX4_ofRow 52 = .ok (.iconst 5, 1) := by decide +kernel
theorem dX4_ofRow_53 : decode cX4_ofRow 53 = .ok (.iload_n 1, 1) := by decide +kernel
theorem dX4_ofRow_54 : decode cX4_ofRow 54 = .ok (.iadd, 1) := by decide +kernel
theorem dX4_ofRow_55 : decode cX4_ofRow 55 = .ok (.iaload, 1) := by decide +kernel
theorem dX4_ofRow_56 : decode cX4_ofRow 56 = .ok (.ireturn, 1) := by decide +kernel
theorem dX4_ofRow_57 : decode cX4_ofRow 57 = .ok (.aload_n 0, 1) := by decide +kernel
theorem dX4_ofRow_58 : decode cX4_ofRow 58 = .ok (.getfield 35, 3) := by decide +kernel
theorem dX4_ofRow_61 : decode cX4_ofRow 61 = .ok (.iconst 0, 1) := by decide +kernel
theorem dX4_ofRow_62 : decode cX4_ofRow 62 = .ok (.iaload, 1) := by decide +kernel
theorem dX4_ofRow_63 : decode cX4_ofRow 63 = .ok (.ireturn, 1) := by decide +kernel
theorem dX4_ofRow_64 : decode cX4_ofRow 64 = .ok (.aload_n 0, 1) := by decide +kernel
theorem dX4_ofRow_65 : decode cX4_ofRow 65 = .ok (.iconst 0, 1) := by decide +kernel
theorem dX4_ofRow_66 : decode cX4_ofRow 66 = .ok (.invokevirtual 117, 3) := by decide +kernel
theorem dX4_ofRow_69 : decode cX4_ofRow 69 = .ok (.ireturn, 1) := by decide +kernel
theorem dX4_ofRow_70 : decode cX4_ofRow 70 = .ok (.aload_n 0, 1) := by decide +kernel
theorem dX4_ofRow_71 : decode cX4_ofRow 71 = .ok (.getfield 35, 3) := by decide +kernel
theorem dX4_ofRow_74 : decode cX4_ofRow 74 = .ok (.iconst 0, 1) := by decide +kernel
theorem dX4_ofRow_75 : decode cX4_ofRow 75 = .ok (.iaload, 1) := by decide +kernel
theorem dX4_ofRow_76 : decode cX4_ofRow 76 = .ok (.ifCond .ne 8, 3) := by decide +kernel
theorem dX4_ofRow_79 : decode cX4_ofRow 79 = .ok (.bipush (-6), 2) := by decide +kernel
theorem dX4_ofRow_81 : decode cX4_ofRow 81 = .ok (.goto 15, 3) := by decide +kernel
theorem dX4_ofRow_84 : decode cX4_ofRow 84 = .ok (.aload_n 0, 1) := by decide +kernel
theorem dX4_ofRow_85 : decode cX4_ofRow 85 = .ok (.getfield 29, 3) := by decide +kernel
theorem dX4_ofRow_88 : decode cX4_ofRow 88 = .ok (.aload_n 0, 1) := by decide +kernel
theorem dX4_ofRow_89 : decode cX4_ofRow 89 = .ok (.iconst 0, 1) := by decide +kernel
theorem dX4_ofRow_90 : decode cX4_ofRow 90 = .ok (.invokevirtual 117, 3) := by decide +kernel
theorem dX4_ofRow_93 : decode cX4_ofRow 93 = .ok (.iconst 1, 1) := by decide +kernel
theorem dX4_ofRow_94 : decode cX4_ofRow 94 = .ok (.isub, 1) := by decide +kernel
theorem dX4_ofRow_95 : decode cX4_ofRow 95 = .ok (.iaload, 1) := by decide +kernel
theorem dX4_ofRow_96 : decode cX4_ofRow 96 = .ok (.ireturn, 1) := by decide +kernel
theorem dX4_ofRow_97 : decode cX4_ofRow 97 = .ok (.bipush (-2), 2) := by decide +kernel
theorem dX4_ofRow_99 : decode cX4_ofRow 99 = .ok (.ireturn, 1) := by decide +kernel
set_option maxRecDepth 20000 in
theorem ggX4_sign_X4_isPlace : GoodIn wsX4_sign wsX4_isPlace := goodIn_r _ [5, 6, 7, 8, 9, 4, 10, 11, 12, 13, 18, 19, 20, 21, 22, 23, 24, 25, 26, 27, 28, 29, 30, 31, 32] (by decide +kernel) (by decide +kernel)
set_option maxRecDepth 20000 in
theorem gX4_sign_X4_isPlace : GoodIn wsX4_sign (wsV RX4 76 RX4 yX4_isPlace wsX4_isPlace) := goodIn_app (goodIn_of _ (by decide +kernel)) ggX4_sign_X4_isPlace
set_option maxRecDepth 20000 in
theorem ggX4_sign_X4_at : GoodIn wsX4_sign wsX4_at := goodIn_r _ [17, 6, 18, 19, 20, 21, 22, 23, 24, 25, 26, 27, 28, 29, 30, 31, 32] (by decide +kernel) (by decide +kernel)
set_option maxRecDepth 20000 in
theorem gX4_sign_X4_at : GoodIn wsX4_sign (wsV RX4 80 RX4 yX4_at wsX4_at) := goodIn_app (goodIn_of _ (by decide +kernel)) ggX4_sign_X4_at
theorem dX4_sign_0 : decode cX4_sign 0 = .ok (.aload_n 0, 1) := by decide +kernel
theorem dX4_sign_1 : decode cX4_sign 1 = .ok (.iload_n 1, 1) := by decide +kernel
theorem dX4_sign_2 : decode cX4_sign 2 = .ok (.iload_n 2, 1) := by decide +kernel
theorem dX4_sign_3 : decode cX4_sign 3 = .ok (.invokevirtual 76, 3) := by decide +kernel
theorem dX4_sign_6 : decode cX4_sign 6 = .ok (.ifCond .eq 12, 3) := by decide +kernel
theorem dX4_sign_9 : decode cX4_sign 9 = .ok (.aload_n 0, 1) := by decide +kernel
theorem dX4_sign_10 : decode cX4_sign 10 = .ok (.iload_n 1, 1) := by decide +kernel
theorem dX4_sign_11 : decode cX4_sign 11 = .ok (.iload_n 2, 1) := by decide +kernel
theorem dX4_sign_12 : decode cX4_sign 12 = .ok (.invokevirtual 80, 3) := by decide +kernel
theorem dX4_sign_15 : decode cX4_sign 15 = .ok (.goto 4, 3) := by decide +kernel
theorem dX4_sign_18 : decode cX4_sign 18 = .ok (.iconst (-1), 1) := by decide +kernel
theorem dX4_sign_19 : decode cX4_sign 19 = .ok (.ireturn, 1) := by decide +kernel
set_option maxRecDepth 20000 in
theorem ggX4_sample_X4_isRow : GoodIn wsX4_sample wsX4_isRow := goodIn_r _ [8, 9, 10, 11, 7, 12, 39, 40, 41, 42, 43, 44, 45, 46, 47, 48, 49, 50, 51, 52, 53] (by decide +kernel) (by decide +kernel)
set_option maxRecDepth 20000 in
theorem gX4_sample_X4_isRow : GoodIn wsX4_sample (wsV RX4 43 RX4 yX4_isRow wsX4_isRow) := goodIn_app (goodIn_of _ (by decide +kernel)) ggX4_sample_X4_isRow
set_option maxRecDepth 20000 in
theorem ggX4_sample_X4_find : GoodIn wsX4_sample wsX4_find := goodIn_r _ [16, 17, 9, 18, 19, 20, 7, 21, 22, 23, 24, 25, 26, 27, 28, 29, 1, 3, 2, 30, 31, 32, 33, 34, 39, 40, 41, 42, 43, 44, 45, 46, 47, 48, 49, 50, 51, 52, 53] (by decide +kernel) (by decide +kernel)
set_option maxRecDepth 20000 in
theorem gX4_sample_X4_find : GoodIn wsX4_sample (wsV RX4 96 RX4 yX4_find wsX4_find) := goodIn_app (goodIn_of _ (by decide +kernel)) ggX4_sample_X4_find
set_option maxRecDepth 20000 in
theorem ggX4_sample_X4_sampled : GoodIn wsX4_sample wsX4_sampled := goodIn_r _ [38, 17, 9, 39, 40, 41, 42, 43, 44, 45, 46, 47, 48, 49, 50, 51, 52, 53] (by decide +kernel) (by decide +kernel)
set_option maxRecDepth 20000 in
theorem gX4_sample_X4_sampled : GoodIn wsX4_sample (wsV RX4 117 RX4 yX4_sampled wsX4_sampled) := goodIn_app (goodIn_of _ (by decide +kernel)) ggX4_sample_X4_sampled
set_option maxRecDepth 20000 in
theorem ggX4_sample_X4_in : GoodIn wsX4_sample wsX4_in := goodIn_r _ [12] (by decide +kernel) (by decide +kernel)
set_option maxRecDepth 20000 in
theorem gX4_sample_X4_in : GoodIn wsX4_sample (va_wsS RX4 39 yX4_in wsX4_in) := goodIn_app (goodIn_of _ (by decide +kernel)) ggX4_sample_X4_in
theorem dX4_sample_0 : decode cX4_sample 0 = .ok (.aload_n 0, 1) := by decide +kernel
theorem dX4_sample_1 : decode cX4_sample 1 = .ok (.iload_n 1, 1) := by decide +kernel
theorem dX4_sample_2 : decode cX4_sample 2 = .ok (.invokevirtual 43, 3) := by decide +kernel
theorem dX4_sample_5 : decode cX4_sample 5 = .ok (.ifCond .ne 5, 3) := by decide +kernel
theorem dX4_sample_8 : decode cX4_sample 8 = .ok (.iconst (-1), 1) := by decide +kernel
theorem dX4_sample_9 : decode cX4_sample 9 = .ok (.ireturn, 1) := by decide +kernel
theorem dX4_sample_10 : decode cX4_sample 10 = .ok (.aload_n 0, 1) := by decide +kernel
theorem dX4_sample_11 : decode cX4_sample 11 = .ok (.iconst 0, 1) := by decide +kernel
theorem dX4_sample_12 : decode cX4_sample 12 = .ok (.iload_n 1, 1) := by decide +kernel
theorem dX4_sample_13 : decode cX4_sample 13 = .ok (.invokevirtual 96, 3) := by decide +kernel
theorem dX4_sample_16 : decode cX4_sample 16 = .ok (.iload_n 2, 1) := by decide +kernel
theorem dX4_sample_17 : decode cX4_sample 17 = .ok (.iconst 0, 1) := by decide +kernel
theorem dX4_sample_18 : decode cX4_sample 18 = .ok (.aload_n 0, 1) := by decide +kernel
theorem dX4_sample_19 : decode cX4_sample 19 = .ok (.iconst 0, 1) := by decide +kernel
theorem dX4_sample_20 : decode cX4_sample 20 = .ok (.invokevirtual 117, 3) := by decide +kernel
theorem dX4_sample_23 : decode cX4_sample 23 = .ok (.iconst 1, 1) := by decide +kernel
theorem dX4_sample_24 : decode cX4_sample 24 = .ok (.isub, 1) := by decide +kernel
theorem dX4_sample_25 : decode cX4_sample 25 = .ok (.invokestatic 39, 3) := by decide +kernel
theorem dX4_sample_28 : decode cX4_sample 28 = .ok (.ifCond .ne 5, 3) := by decide +kernel
theorem dX4_sample_31 : decode cX4_sample 31 = .ok (.iconst (-1), 1) := by decide +kernel
theorem dX4_sample_32 : decode cX4_sample 32 = .ok (.ireturn, 1) := by decide +kernel
theorem dX4_sample_33 : decode cX4_sample 33 = .ok (.iload_n 3, 1) := by decide +kernel
theorem dX4_sample_34 : decode cX4_sample 34 = .ok (.tableswitch 47 0 2 #[26, 33, 40], 26) := by decide +kernel
theorem dX4_sample_60 : decode cX4_sample 60 = .ok (.aload_n 0, 1) := by decide +kernel
theorem dX4_sample_61 : decode cX4_sample 61 = .ok (.getfield 29, 3) := by decide +kernel
theorem dX4_sample_64 : decode cX4_sample 64 = .ok (.iload_n 2, 1) := by decide +kernel
theorem dX4_sample_65 : decode cX4_sample 65 = .ok (.iaload, 1) := by decide +kernel
theorem dX4_sample_66 : decode cX4_sample 66 = .ok (.ireturn, 1) := by decide +kernel
theorem dX4_sample_67 : decode cX4_sample 67 = .ok (.aload_n 0, 1) := by decide +kernel
theorem dX4_sample_68 : decode cX4_sample 68 = .ok (.getfield 26, 3) := by decide +kernel
theorem dX4_sample_71 : decode cX4_sample 71 = .ok (.iload_n 2, 1) := by decide +kernel
theorem dX4_sample_72 : decode cX4_sample 72 = .ok (.iaload, 1) := by decide +kernel
theorem dX4_sample_73 : decode cX4_sample 73 = .ok (.ireturn, 1) := by decide +kernel
theorem dX4_sample_74 : decode cX4_sample 74 = .ok (.aload_n 0, 1) := by decide +kernel
theorem dX4_sample_75 : decode cX4_sample 75 = .ok (.getfield 32, 3) := by decide +kernel
theorem dX4_sample_78 : decode cX4_sample 78 = .ok (.iload_n 2, 1) := by decide +kernel
theorem dX4_sample_79 : decode cX4_sample 79 = .ok (.iaload, 1) := by decide +kernel
theorem dX4_sample_80 : decode cX4_sample 80 = .ok (.ireturn, 1) := by decide +kernel
theorem dX4_sample_81 : decode cX4_sample 81 = .ok (.bipush (-2), 2) := by decide +kernel
theorem dX4_sample_83 : decode cX4_sample 83 = .ok (.ireturn, 1) := by decide +kernel
set_option maxRecDepth 20000 in
theorem ggX4_isAhead_X4_codeAt : GoodIn wsX4_isAhead wsX4_codeAt := goodIn_r _ [6, 1, 7, 8, 9, 5, 10, 11, 12, 13, 14, 15, 16, 17, 18, 19, 20, 21, 22, 23, 24, 25] (by decide +kernel) (by decide +kernel)
set_option maxRecDepth 20000 in
theorem gX4_isAhead_X4_codeAt : GoodIn wsX4_isAhead (wsV RX4 89 RX4 yX4_codeAt wsX4_codeAt) := goodIn_app (goodIn_of _ (by decide +kernel)) ggX4_isAhead_X4_codeAt
theorem dX4_isAhead_0 : decode cX4_isAhead 0 = .ok (.iconst 0, 1) := by decide +kernel
theorem dX4_isAhead_1 : decode cX4_isAhead 1 = .ok (.istore_n 3, 1) := by decide +kernel
theorem dX4_isAhead_2 : decode cX4_isAhead 2 = .ok (.iconst 0, 1) := by decide +kernel
theorem dX4_isAhead_3 : decode cX4_isAhead 3 = .ok (.istore 4, 2) := by decide +kernel
theorem dX4_isAhead_5 : decode cX4_isAhead 5 = .ok (.iload 4, 2) := by decide +kernel
theorem dX4_isAhead_7 : decode cX4_isAhead 7 = .ok (.iload_n 1, 1) := by decide +kernel
theorem dX4_isAhead_8 : decode cX4_isAhead 8 = .ok (.if_icmp .ge 65, 3) := by decide +kernel
theorem dX4_isAhead_11 : decode cX4_isAhead 11 = .ok (.iload_n 3, 1) := by decide +kernel
theorem dX4_isAhead_12 : decode cX4_isAhead 12 = .ok (.ifCond .ne 61, 3) := by decide +kernel
theorem dX4_isAhead_15 : decode cX4_isAhead 15 = .ok (.iconst 0, 1) := by decide +kernel
theorem dX4_isAhead_16 : decode cX4_isAhead 16 = .ok (.istore 5, 2) := by decide +kernel
theorem dX4_isAhead_18 : decode cX4_isAhead 18 = .ok (.iload 5, 2) := by decide +kernel
theorem dX4_isAhead_20 : decode cX4_isAhead 20 = .ok (.aload_n 0, 1) := by decide +kernel
theorem dX4_isAhead_21 : decode cX4_isAhead 21 = .ok (.getfield 7, 3) := by decide +kernel
theorem dX4_isAhead_24 : decode cX4_isAhead 24 = .ok (.iconst 0, 1) := by decide +kernel
theorem dX4_isAhead_25 : decode cX4_isAhead 25 = .ok (.iaload, 1) := by decide +kernel
theorem dX4_isAhead_26 : decode cX4_isAhead 26 = .ok (.iadd, 1) := by decide +kernel
theorem dX4_isAhead_27 : decode cX4_isAhead 27 = .ok (.aload_n 0, 1) := by decide +kernel
theorem dX4_isAhead_28 : decode cX4_isAhead 28 = .ok (.getfield 7, 3) := by decide +kernel
theorem dX4_isAhead_31 : decode cX4_isAhead 31 = .ok (.iconst 5, 1) := by decide +kernel
theorem dX4_isAhead_32 : decode cX4_isAhead 32 = .ok (.iload 4, 2) := by decide +kernel
theorem dX4_isAhead_34 : decode cX4_isAhead 34 = .ok (.iadd, 1) := by decide +kernel
theorem dX4_isAhead_35 : decode cX4_isAhead 35 = .ok (.iaload, 1) := by decide +kernel
theorem dX4_isAhead_36 : decode cX4_isAhead 36 = .ok (.if_icmp .gt 31, 3) := by decide +kernel
theorem dX4_isAhead_39 : decode cX4_isAhead 39 = .ok (.iload_n 3, 1) := by decide +kernel
theorem dX4_isAhead_40 : decode cX4_isAhead 40 = .ok (.ifCond .ne 27, 3) := by decide +kernel
theorem dX4_isAhead_43 : decode cX4_isAhead 43 = .ok (.aload_n 0, 1) := by decide +kernel
theorem dX4_isAhead_44 : decode cX4_isAhead 44 = .ok (.iload 4, 2) := by decide +kernel
theorem dX4_isAhead_46 : decode cX4_isAhead 46 = .ok (.iload 5, 2) := by decide +kernel
theorem dX4_isAhead_48 : decode cX4_isAhead 48 = .ok (.invokevirtual 89, 3) := by decide +kernel
theorem dX4_isAhead_51 : decode cX4_isAhead 51 = .ok (.iload_n 2, 1) := by decide +kernel
theorem dX4_isAhead_52 : decode cX4_isAhead 52 = .ok (.if_icmp .ne 7, 3) := by decide +kernel
theorem dX4_isAhead_55 : decode cX4_isAhead 55 = .ok (.iconst 1, 1) := by decide +kernel
theorem dX4_isAhead_56 : decode cX4_isAhead 56 = .ok (.goto 4, 3) := by decide +kernel
theorem dX4_isAhead_59 : decode cX4_isAhead 59 = .ok (.iconst 0, 1) := by decide +kernel
theorem dX4_isAhead_60 : decode cX4_isAhead 60 = .ok (.istore_n 3, 1) := by decide +kernel
theorem dX4_isAhead_61 : decode cX4_isAhead 61 = .ok (.iinc 5 1, 3) := by decide +kernel
theorem dX4_isAhead_64 : decode cX4_isAhead 64 = .ok (.goto (-46), 3) := by decide +kernel
theorem dX4_isAhead_67 : decode cX4_isAhead 67 = .ok (.iinc 4 1, 3) := by decide +kernel
theorem dX4_isAhead_70 : decode cX4_isAhead 70 = .ok (.goto (-65), 3) := by decide +kernel
theorem dX4_isAhead_73 : decode cX4_isAhead 73 = .ok (.iload_n 3, 1) := by decide +kernel
theorem dX4_isAhead_74 : decode cX4_isAhead 74 = .ok (.ireturn, 1) := by decide +kernel
set_option maxRecDepth 20000 in
theorem ggX4_different_X4_find : GoodIn wsX4_different wsX4_find := goodIn_r _ [8, 2, 1, 9, 10, 11, 7, 12, 13, 14, 15, 16, 17, 18, 19, 20, 21, 22, 3, 23, 24, 25, 26, 27, 32, 33, 34, 35, 36, 37, 38, 39, 40, 41, 42, 43, 44, 45, 46] (by decide +kernel) (by decide +kernel)
set_option maxRecDepth 20000 in
theorem gX4_different_X4_find : GoodIn wsX4_different (wsV RX4 96 RX4 yX4_find wsX4_find) := goodIn_app (goodIn_of _ (by decide +kernel)) ggX4_different_X4_find
set_option maxRecDepth 20000 in
theorem ggX4_different_X4_isAhead : GoodIn wsX4_different wsX4_isAhead := goodIn_r _ [31, 1, 9, 10, 11, 7, 12, 13, 14, 15, 16, 32, 33, 34, 35, 36, 37, 38, 39, 40, 41, 42, 43, 44, 45, 46] (by decide +kernel) (by decide +kernel)
set_option maxRecDepth 20000 in
theorem gX4_different_X4_isAhead : GoodIn wsX4_different (wsV RX4 120 RX4 yX4_isAhead wsX4_isAhead) := goodIn_app (goodIn_of _ (by decide +kernel)) ggX4_different_X4_isAhead
theorem dX4_different_0 : decode cX4_different 0 = .ok (.iconst 0, 1) := by decide +kernel
theorem dX4_different_1 : decode cX4_different 1 = .ok (.istore_n 1, 1) := by decide +kernel
theorem dX4_different_2 : decode cX4_different 2 = .ok (.iconst 0, 1) := by decide +kernel
theorem dX4_different_3 : decode cX4_different 3 = .ok (.istore_n 2, 1) := by decide +kernel
theorem dX4_different_4 : decode cX4_different 4 = .ok (.iload_n 2, 1) := by decide +kernel
theorem dX4_different_5 : decode cX4_different 5 = .ok (.aload_n 0, 1) := by decide +kernel
theorem dX4_different_6 : decode cX4_different 6 = .ok (.getfield 7, 3) := by decide +kernel
theorem dX4_different_9 : decode cX4_different 9 = .ok (.iconst 4, 1) := by decide +kernel
theorem dX4_different_10 : decode cX4_different 10 = .ok (.iaload, 1) := by decide +kernel
theorem dX4_different_11 : decode cX4_different 11 = .ok (.if_icmp .ge 55, 3) := by decide +kernel
theorem dX4_different_14 : decode cX4_different 14 = .ok (.aload_n 0, 1) := by decide +kernel
theorem dX4_different_15 : decode cX4_different 15 = .ok (.iconst 0, 1) := by decide +kernel
theorem dX4_different_16 : decode cX4_different 16 = .ok (.iload_n 2, 1) := by decide +kernel
theorem dX4_different_17 : decode cX4_different 17 = .ok (.invokevirtual 96, 3) := by decide +kernel
theorem dX4_different_20 : decode cX4_different 20 = .ok (.iconst 0, 1) := by decide +kernel
theorem dX4_different_21 : decode cX4_different 21 = .ok (.istore_n 3, 1) := by decide +kernel
theorem dX4_different_22 : decode cX4_different 22 = .ok (.iload_n 3, 1) := by decide +kernel
theorem dX4_different_23 : decode cX4_different 23 = .ok (.aload_n 0, 1) := by decide +kernel
theorem dX4_different_24 : decode cX4_different 24 = .ok (.getfield 35, 3) := by decide +kernel
theorem dX4_different_27 : decode cX4_different 27 = .ok (.iconst 0, 1) := by decide +kernel
theorem dX4_different_28 : decode cX4_different 28 = .ok (.iaload, 1) := by decide +kernel
theorem dX4_different_29 : decode cX4_different 29 = .ok (.if_icmp .ge 31, 3) := by decide +kernel
theorem dX4_different_32 : decode cX4_different 32 = .ok (.iload_n 1, 1) := by decide +kernel
theorem dX4_different_33 : decode cX4_different 33 = .ok (.aload_n 0, 1) := by decide +kernel
theorem dX4_different_34 : decode cX4_different 34 = .ok (.iload_n 2, 1) := by decide +kernel
theorem dX4_different_35 : decode cX4_different 35 = .ok (.aload_n 0, 1) := by decide +kernel
theorem dX4_different_36 : decode cX4_different 36 = .ok (.getfield 26, 3) := by decide +kernel
theorem dX4_different_39 : decode cX4_different 39 = .ok (.iload_n 3, 1) := by decide +kernel
theorem dX4_different_40 : decode cX4_different 40 = .ok (.iaload, 1) := by decide +kernel
theorem dX4_different_41 : decode cX4_different 41 = .ok (.invokevirtual 120, 3) := by decide +kernel
theorem dX4_different_44 : decode cX4_different 44 = .ok (.ifCond .eq 7, 3) := by decide +kernel
theorem dX4_different_47 : decode cX4_different 47 = .ok (.iconst 0, 1) := by decide +kernel
theorem dX4_different_48 : decode cX4_different 48 = .ok (.goto 4, 3) := by decide +kernel
theorem dX4_different_51 : decode cX4_different 51 = .ok (.iconst 1, 1) := by decide +kernel
theorem dX4_different_52 : decode cX4_different 52 = .ok (.iadd, 1) := by decide +kernel
theorem dX4_different_53 : decode cX4_different 53 = .ok (.istore_n 1, 1) := by decide +kernel
theorem dX4_different_54 : decode cX4_different 54 = .ok (.iinc 3 1, 3) := by decide +kernel
theorem dX4_different_57 : decode cX4_different 57 = .ok (.goto (-35), 3) := by decide +kernel
theorem dX4_different_60 : decode cX4_different 60 = .ok (.iinc 2 1, 3) := by decide +kernel
theorem dX4_different_63 : decode cX4_different 63 = .ok (.goto (-59), 3) := by decide +kernel
theorem dX4_different_66 : decode cX4_different 66 = .ok (.iload_n 1, 1) := by decide +kernel
theorem dX4_different_67 : decode cX4_different 67 = .ok (.ireturn, 1) := by decide +kernel
set_option maxRecDepth 20000 in
theorem ggX4_count_X4_different : GoodIn wsX4_count wsX4_different := goodIn_r _ [8, 1, 9, 10, 11, 12, 13, 7, 14, 15, 16, 17, 18, 19, 20, 21, 22, 23, 24, 25, 26, 27, 28, 29, 30, 31, 32, 33, 34, 35, 36, 37, 38, 39, 40, 41, 42, 43, 44, 45, 46, 47, 48, 49, 50, 51, 52] (by decide +kernel) (by decide +kernel)
set_option maxRecDepth 20000 in
theorem gX4_count_X4_different : GoodIn wsX4_count (wsV RX4 123 RX4 yX4_different wsX4_different) := goodIn_app (goodIn_of _ (by decide +kernel)) ggX4_count_X4_different
theorem dX4_count_0 : decode cX4_count 0 = .ok (.iload_n 1, 1) := by decide +kernel
theorem dX4_count_1 : decode cX4_count 1 = .ok (.tableswitch 78 0 7 #[47, 54, 54, 54, 54, 63, 68, 73], 47) := by decide +kernel
theorem dX4_count_48 : decode cX4_count 48 = .ok (.aload_n 0, 1) := by decide +kernel
theorem dX4_count_49 : decode cX4_count 49 = .ok (.getfield 7, 3) := by decide +kernel
theorem dX4_count_52 : decode cX4_count 52 = .ok (.iconst 4, 1) := by decide +kernel
theorem dX4_count_53 : decode cX4_count 53 = .ok (.iaload, 1) := by decide +kernel
theorem dX4_count_54 : decode cX4_count 54 = .ok (.ireturn, 1) := by decide +kernel
theorem dX4_count_55 : decode cX4_count 55 = .ok (.aload_n 0, 1) := by decide +kernel
theorem dX4_count_56 : decode cX4_count 56 = .ok (.getfield 7, 3) := by decide +kernel
theorem dX4_count_59 : decode cX4_count 59 = .ok (.iload_n 1, 1) := by decide +kernel
theorem dX4_count_60 : decode cX4_count 60 = .ok (.iconst 1, 1) := by decide +kernel
theorem dX4_count_61 : decode cX4_count 61 = .ok (.isub, 1) := by decide +kernel
theorem dX4_count_62 : decode cX4_count 62 = .ok (.iaload, 1) := by decide +kernel
theorem dX4_count_63 : decode cX4_count 63 = .ok (.ireturn, 1) := by decide +kernel
theorem dX4_count_64 : decode cX4_count 64 = .ok (.aload_n 0, 1) := by decide +kernel
theorem dX4_count_65 : decode cX4_count 65 = .ok (.invokevirtual 123, 3) := by decide +kernel
theorem dX4_count_68 : decode cX4_count 68 = .ok (.ireturn, 1) := by decide +kernel
theorem dX4_count_69 : decode cX4_count 69 = .ok (.aload_n 0, 1) := by decide +kernel
theorem dX4_count_70 : decode cX4_count 70 = .ok (.getfield 62, 3) := by decide +kernel
theorem dX4_count_73 : decode cX4_count 73 = .ok (.ireturn, 1) := by decide +kernel
theorem dX4_count_74 : decode cX4_count 74 = .ok (.aload_n 0, 1) := by decide +kernel
theorem dX4_count_75 : decode cX4_count 75 = .ok (.getfield 47, 3) := by decide +kernel
theorem dX4_count_78 : decode cX4_count 78 = .ok (.ireturn, 1) := by decide +kernel
theorem dX4_count_79 : decode cX4_count 79 = .ok (.bipush (-2), 2) := by decide +kernel
theorem dX4_count_81 : decode cX4_count 81 = .ok (.ireturn, 1) := by decide +kernel
set_option maxRecDepth 20000 in
theorem ggX4_told_X4_isRow : GoodIn wsX4_told wsX4_isRow := goodIn_r _ [8, 1, 9, 10, 7, 11, 57, 58, 59, 60, 61, 62, 63, 64, 65, 66, 67, 68, 69, 70, 71] (by decide +kernel) (by decide +kernel)
set_option maxRecDepth 20000 in
theorem gX4_told_X4_isRow : GoodIn wsX4_told (wsV RX4 43 RX4 yX4_isRow wsX4_isRow) := goodIn_app (goodIn_of _ (by decide +kernel)) ggX4_told_X4_isRow
set_option maxRecDepth 20000 in
theorem ggX4_told_X4_compare : GoodIn wsX4_told wsX4_compare := goodIn_r _ [15, 2, 3, 16, 17, 18, 19, 20, 21, 22, 7, 23, 1, 24, 25, 26, 27, 28, 29, 30, 31, 32, 33, 34, 35, 36, 37, 38, 39, 40, 41, 42, 57, 58, 59, 60, 61, 62, 63, 64, 65, 66, 67, 68, 69, 70, 71] (by decide +kernel) (by decide +kernel)
set_option maxRecDepth 20000 in
theorem gX4_told_X4_compare : GoodIn wsX4_told (wsV RX4 126 RX4 yX4_compare wsX4_compare) := goodIn_app (goodIn_of _ (by decide +kernel)) ggX4_told_X4_compare
set_option maxRecDepth 20000 in
theorem ggX4_told_X4_share : GoodIn wsX4_told wsX4_share := goodIn_r _ [45] (by decide +kernel) (by decide +kernel)
set_option maxRecDepth 20000 in
theorem gX4_told_X4_share : GoodIn wsX4_told (va_wsS RX4 111 yX4_share wsX4_share) := goodIn_app (goodIn_of _ (by decide +kernel)) ggX4_told_X4_share
set_option maxRecDepth 20000 in
theorem ggX4_told_X4_lower : GoodIn wsX4_told wsX4_lower := goodIn_r _ [49, 3, 16, 43, 44, 7, 45, 57, 58, 59, 60, 61, 62, 63, 64, 65, 66, 67, 68, 69, 70, 71] (by decide +kernel) (by decide +kernel)
set_option maxRecDepth 20000 in
theorem gX4_told_X4_lower : GoodIn wsX4_told (wsV RX4 130 RX4 yX4_lower wsX4_lower) := goodIn_app (goodIn_of _ (by decide +kernel)) ggX4_told_X4_lower
set_option maxRecDepth 20000 in
theorem ggX4_told_X4_upper : GoodIn wsX4_told wsX4_upper := goodIn_r _ [53, 3, 18, 16, 54, 55, 7, 56, 57, 58, 59, 60, 61, 62, 63, 64, 65, 66, 67, 68, 69, 70, 71] (by decide +kernel) (by decide +kernel)
set_option maxRecDepth 20000 in
theorem gX4_told_X4_upper : GoodIn wsX4_told (wsV RX4 133 RX4 yX4_upper wsX4_upper) := goodIn_app (goodIn_of _ (by decide +kernel)) ggX4_told_X4_upper
theorem dX4_told_0 : decode cX4_told 0 = .ok (.aload_n 0, 1) := by decide +kernel
theorem dX4_told_1 : decode cX4_told 1 = .ok (.iload_n 1, 1) := by decide +kernel
theorem dX4_told_2 : decode cX4_told 2 = .ok (.invokevirtual 43, 3) := by decide +kernel
theorem dX4_told_5 : decode cX4_told 5 = .ok (.ifCond .eq 11, 3) := by decide +kernel
theorem dX4_told_8 : decode cX4_told 8 = .ok (.aload_n 0, 1) := by decide +kernel
theorem dX4_told_9 : decode cX4_told 9 = .ok (.iload_n 2, 1) := by decide +kernel
theorem dX4_told_10 : decode cX4_told 10 = .ok (.invokevirtual 43, 3) := by decide +kernel
theorem dX4_told_13 : decode cX4_told 13 = .ok (.ifCond .ne 5, 3) := by decide +kernel
theorem dX4_told_16 : decode cX4_told 16 = .ok (.iconst (-1), 1) := by decide +kernel
theorem dX4_told_17 : decode cX4_told 17 = .ok (.ireturn, 1) := by decide +kernel
theorem dX4_told_18 : decode cX4_told 18 = .ok (.aload_n 0, 1) := by decide +kernel
theorem dX4_told_19 : decode cX4_told 19 = .ok (.iload_n 1, 1) := by decide +kernel
theorem dX4_told_20 : decode cX4_told 20 = .ok (.iload_n 2, 1) := by decide +kernel
theorem dX4_told_21 : decode cX4_told 21 = .ok (.aload_n 0, 1) := by decide +kernel
theorem dX4_told_22 : decode cX4_told 22 = .ok (.getfield 7, 3) := by decide +kernel
theorem dX4_told_25 : decode cX4_told 25 = .ok (.iconst 1, 1) := by decide +kernel
theorem dX4_told_26 : decode cX4_told 26 = .ok (.iaload, 1) := by decide +kernel
theorem dX4_told_27 : decode cX4_told 27 = .ok (.invokevirtual 126, 3) := by decide +kernel
theorem dX4_told_30 : decode cX4_told 30 = .ok (.iload_n 3, 1) := by decide +kernel
theorem dX4_told_31 : decode cX4_told 31 = .ok (.tableswitch 65 0 4 #[33, 38, 43, 55, 60], 33) := by decide +kernel
theorem dX4_told_64 : decode cX4_told 64 = .ok (.aload_n 0, 1) := by decide +kernel
theorem dX4_told_65 : decode cX4_told 65 = .ok (.getfield 99, 3) := by decide +kernel
theorem dX4_told_68 : decode cX4_told 68 = .ok (.ireturn, 1) := by decide +kernel
theorem dX4_told_69 : decode cX4_told 69 = .ok (.aload_n 0, 1) := by decide +kernel
theorem dX4_told_70 : decode cX4_told 70 = .ok (.getfield 102, 3) := by decide +kernel
theorem dX4_told_73 : decode cX4_told 73 = .ok (.ireturn, 1) := by decide +kernel
theorem dX4_told_74 : decode cX4_told 74 = .ok (.aload_n 0, 1) := by decide +kernel
theorem dX4_told_75 : decode cX4_told 75 = .ok (.getfield 102, 3) := by decide +kernel
theorem dX4_told_78 : decode cX4_told 78 = .ok (.aload_n 0, 1) := by decide +kernel
theorem dX4_told_79 : decode cX4_told 79 = .ok (.getfield 99, 3) := by decide +kernel
theorem dX4_told_82 : decode cX4_told 82 = .ok (.invokestatic 111, 3) := by decide +kernel
theorem dX4_told_85 : decode cX4_told 85 = .ok (.ireturn, 1) := by decide +kernel
theorem dX4_told_86 : decode cX4_told 86 = .ok (.aload_n 0, 1) := by decide +kernel
theorem dX4_told_87 : decode cX4_told 87 = .ok (.invokevirtual 130, 3) := by decide +kernel
theorem dX4_told_90 : decode cX4_told 90 = .ok (.ireturn, 1) := by decide +kernel
theorem dX4_told_91 : decode cX4_told 91 = .ok (.aload_n 0, 1) := by decide +kernel
theorem dX4_told_92 : decode cX4_told 92 = .ok (.invokevirtual 133, 3) := by decide +kernel
theorem dX4_told_95 : decode cX4_told 95 = .ok (.ireturn, 1) := by decide +kernel
theorem dX4_told_96 : decode cX4_told 96 = .ok (.bipush (-2), 2) := by decide +kernel
theorem dX4_told_98 : decode cX4_told 98 = .ok (.ireturn, 1) := by decide +kernel
set_option maxRecDepth 20000 in
theorem ggX4_exact_X4_isRow : GoodIn wsX4_exact wsX4_isRow := goodIn_r _ [7, 1, 8, 9, 6, 10, 50, 51, 52, 53, 54, 55, 56, 57, 58, 59, 60, 61, 62, 63, 64] (by decide +kernel) (by decide +kernel)
set_option maxRecDepth 20000 in
theorem gX4_exact_X4_isRow : GoodIn wsX4_exact (wsV RX4 43 RX4 yX4_isRow wsX4_isRow) := goodIn_app (goodIn_of _ (by decide +kernel)) ggX4_exact_X4_isRow
set_option maxRecDepth 20000 in
theorem ggX4_exact_X4_compare : GoodIn wsX4_exact wsX4_compare := goodIn_r _ [14, 15, 16, 17, 18, 19, 2, 20, 21, 22, 6, 23, 1, 24, 25, 26, 27, 28, 29, 30, 31, 32, 33, 34, 35, 36, 37, 38, 39, 40, 41, 42, 50, 51, 52, 53, 54, 55, 56, 57, 58, 59, 60, 61, 62, 63, 64] (by decide +kernel) (by decide +kernel)
set_option maxRecDepth 20000 in
theorem gX4_exact_X4_compare : GoodIn wsX4_exact (wsV RX4 126 RX4 yX4_compare wsX4_compare) := goodIn_app (goodIn_of _ (by decide +kernel)) ggX4_exact_X4_compare
set_option maxRecDepth 20000 in
theorem ggX4_exact_X4_either : GoodIn wsX4_exact wsX4_either := goodIn_r _ [46, 17, 2, 50, 51, 52, 53, 54, 55, 56, 57, 58, 59, 60, 61, 62, 63, 64] (by decide +kernel) (by decide +kernel)
set_option maxRecDepth 20000 in
theorem gX4_exact_X4_either : GoodIn wsX4_exact (wsV RX4 136 RX4 yX4_either wsX4_either) := goodIn_app (goodIn_of _ (by decide +kernel)) ggX4_exact_X4_either
set_option maxRecDepth 20000 in
theorem ggX4_exact_X4_share : GoodIn wsX4_exact wsX4_share := goodIn_r _ [49] (by decide +kernel) (by decide +kernel)
set_option maxRecDepth 20000 in
theorem gX4_exact_X4_share : GoodIn wsX4_exact (va_wsS RX4 111 yX4_share wsX4_share) := goodIn_app (goodIn_of _ (by decide +kernel)) ggX4_exact_X4_share
theorem dX4_exact_0 : decode cX4_exact 0 = .ok (.aload_n 0, 1) := by decide +kernel
theorem dX4_exact_1 : decode cX4_exact 1 = .ok (.iload_n 1, 1) := by decide +kernel
theorem dX4_exact_2 : decode cX4_exact 2 = .ok (.invokevirtual 43, 3) := by decide +kernel
theorem dX4_exact_5 : decode cX4_exact 5 = .ok (.ifCond .eq 11, 3) := by decide +kernel
theorem dX4_exact_8 : decode cX4_exact 8 = .ok (.aload_n 0, 1) := by decide +kernel
theorem dX4_exact_9 : decode cX4_exact 9 = .ok (.iload_n 2, 1) := by decide +kernel
theorem dX4_exact_10 : decode cX4_exact 10 = .ok (.invokevirtual 43, 3) := by decide +kernel
theorem dX4_exact_13 : decode cX4_exact 13 = .ok (.ifCond .ne 5, 3) := by decide +kernel
theorem dX4_exact_16 : decode cX4_exact 16 = .ok (.iconst (-1), 1) := by decide +kernel
theorem dX4_exact_17 : decode cX4_exact 17 = .ok (.ireturn, 1) := by decide +kernel
theorem dX4_exact_18 : decode cX4_exact 18 = .ok (.aload_n 0, 1) := by decide +kernel
theorem dX4_exact_19 : decode cX4_exact 19 = .ok (.iload_n 1, 1) := by decide +kernel
theorem dX4_exact_20 : decode cX4_exact 20 = .ok (.iload_n 2, 1) := by decide +kernel
theorem dX4_exact_21 : decode cX4_exact 21 = .ok (.aload_n 0, 1) := by decide +kernel
theorem dX4_exact_22 : decode cX4_exact 22 = .ok (.getfield 7, 3) := by decide +kernel
theorem dX4_exact_25 : decode cX4_exact 25 = .ok (.iconst 1, 1) := by decide +kernel
theorem dX4_exact_26 : decode cX4_exact 26 = .ok (.iaload, 1) := by decide +kernel
theorem dX4_exact_27 : decode cX4_exact 27 = .ok (.invokevirtual 126, 3) := by decide +kernel
theorem dX4_exact_30 : decode cX4_exact 30 = .ok (.iload_n 3, 1) := by decide +kernel
theorem dX4_exact_31 : decode cX4_exact 31 = .ok (.tableswitch 47 0 2 #[25, 30, 35], 25) := by decide +kernel
theorem dX4_exact_56 : decode cX4_exact 56 = .ok (.aload_n 0, 1) := by decide +kernel
theorem dX4_exact_57 : decode cX4_exact 57 = .ok (.invokevirtual 136, 3) := by decide +kernel
theorem dX4_exact_60 : decode cX4_exact 60 = .ok (.ireturn, 1) := by decide +kernel
theorem dX4_exact_61 : decode cX4_exact 61 = .ok (.aload_n 0, 1) := by decide +kernel
theorem dX4_exact_62 : decode cX4_exact 62 = .ok (.getfield 108, 3) := by decide +kernel
theorem dX4_exact_65 : decode cX4_exact 65 = .ok (.ireturn, 1) := by decide +kernel
theorem dX4_exact_66 : decode cX4_exact 66 = .ok (.aload_n 0, 1) := by decide +kernel
theorem dX4_exact_67 : decode cX4_exact 67 = .ok (.getfield 108, 3) := by decide +kernel
theorem dX4_exact_70 : decode cX4_exact 70 = .ok (.aload_n 0, 1) := by decide +kernel
theorem dX4_exact_71 : decode cX4_exact 71 = .ok (.invokevirtual 136, 3) := by decide +kernel
theorem dX4_exact_74 : decode cX4_exact 74 = .ok (.invokestatic 111, 3) := by decide +kernel
theorem dX4_exact_77 : decode cX4_exact 77 = .ok (.ireturn, 1) := by decide +kernel
theorem dX4_exact_78 : decode cX4_exact 78 = .ok (.bipush (-2), 2) := by decide +kernel
theorem dX4_exact_80 : decode cX4_exact 80 = .ok (.ireturn, 1) := by decide +kernel
set_option maxRecDepth 20000 in
theorem ggX4_inside_X4_isRow : GoodIn wsX4_inside wsX4_isRow := goodIn_r _ [10, 1, 11, 12, 9, 13, 49, 50, 51, 52, 53, 54, 55, 56, 57, 58, 59, 60, 61, 62, 63] (by decide +kernel) (by decide +kernel)
set_option maxRecDepth 20000 in
theorem gX4_inside_X4_isRow : GoodIn wsX4_inside (wsV RX4 43 RX4 yX4_isRow wsX4_isRow) := goodIn_app (goodIn_of _ (by decide +kernel)) ggX4_inside_X4_isRow
set_option maxRecDepth 20000 in
theorem ggX4_inside_X4_compare : GoodIn wsX4_inside wsX4_compare := goodIn_r _ [17, 18, 4, 3, 19, 5, 2, 20, 21, 22, 9, 23, 1, 24, 25, 26, 27, 28, 29, 30, 31, 32, 33, 34, 35, 36, 37, 38, 39, 40, 41, 42, 49, 50, 51, 52, 53, 54, 55, 56, 57, 58, 59, 60, 61, 62, 63] (by decide +kernel) (by decide +kernel)
set_option maxRecDepth 20000 in
theorem gX4_inside_X4_compare : GoodIn wsX4_inside (wsV RX4 126 RX4 yX4_compare wsX4_compare) := goodIn_app (goodIn_of _ (by decide +kernel)) ggX4_inside_X4_compare
set_option maxRecDepth 20000 in
theorem ggX4_inside_X4_share : GoodIn wsX4_inside wsX4_share := goodIn_r _ [45] (by decide +kernel) (by decide +kernel)
set_option maxRecDepth 20000 in
theorem gX4_inside_X4_share : GoodIn wsX4_inside (va_wsS RX4 111 yX4_share wsX4_share) := goodIn_app (goodIn_of _ (by decide +kernel)) ggX4_inside_X4_share
set_option maxRecDepth 20000 in
theorem ggX4_inside_X4_shareUp : GoodIn wsX4_inside wsX4_shareUp := goodIn_r _ [48] (by decide +kernel) (by decide +kernel)
set_option maxRecDepth 20000 in
theorem gX4_inside_X4_shareUp : GoodIn wsX4_inside (va_wsS RX4 114 yX4_shareUp wsX4_shareUp) := goodIn_app (goodIn_of _ (by decide +kernel)) ggX4_inside_X4_shareUp
theorem dX4_inside_0 : decode cX4_inside 0 = .ok (.aload_n 0, 1) := by decide +kernel
theorem dX4_inside_1 : decode cX4_inside 1 = .ok (.iload_n 1, 1) := by decide +kernel
theorem dX4_inside_2 : decode cX4_inside 2 = .ok (.invokevirtual 43, 3) := by decide +kernel
theorem dX4_inside_5 : decode cX4_inside 5 = .ok (.ifCond .eq 11, 3) := by decide +kernel
theorem dX4_inside_8 : decode cX4_inside 8 = .ok (.aload_n 0, 1) := by decide +kernel
theorem dX4_inside_9 : decode cX4_inside 9 = .ok (.iload_n 2, 1) := by decide +kernel
theorem dX4_inside_10 : decode cX4_inside 10 = .ok (.invokevirtual 43, 3) := by decide +kernel
theorem dX4_inside_13 : decode cX4_inside 13 = .ok (.ifCond .ne 5, 3) := by decide +kernel
theorem dX4_inside_16 : decode cX4_inside 16 = .ok (.iconst (-1), 1) := by decide +kernel
theorem dX4_inside_17 : decode cX4_inside 17 = .ok (.ireturn, 1) := by decide +kernel
theorem dX4_inside_18 : decode cX4_inside 18 = .ok (.aload_n 0, 1) := by decide +kernel
theorem dX4_inside_19 : decode cX4_inside 19 = .ok (.iload_n 1, 1) := by decide +kernel
theorem dX4_inside_20 : decode cX4_inside 20 = .ok (.iload_n 2, 1) := by decide +kernel
theorem dX4_inside_21 : decode cX4_inside 21 = .ok (.aload_n 0, 1) := by decide +kernel
theorem dX4_inside_22 : decode cX4_inside 22 = .ok (.getfield 7, 3) := by decide +kernel
theorem dX4_inside_25 : decode cX4_inside 25 = .ok (.iconst 1, 1) := by decide +kernel
theorem dX4_inside_26 : decode cX4_inside 26 = .ok (.iaload, 1) := by decide +kernel
theorem dX4_inside_27 : decode cX4_inside 27 = .ok (.invokevirtual 126, 3) := by decide +kernel
theorem dX4_inside_30 : decode cX4_inside 30 = .ok (.iload_n 3, 1) := by decide +kernel
theorem dX4_inside_31 : decode cX4_inside 31 = .ok (.tableswitch 72 0 2 #[25, 39, 53], 25) := by decide +kernel
theorem dX4_inside_56 : decode cX4_inside 56 = .ok (.aload_n 0, 1) := by decide +kernel
theorem dX4_inside_57 : decode cX4_inside 57 = .ok (.getfield 108, 3) := by decide +kernel
theorem dX4_inside_60 : decode cX4_inside 60 = .ok (.aload_n 0, 1) := by decide +kernel
theorem dX4_inside_61 : decode cX4_inside 61 = .ok (.getfield 35, 3) := by decide +kernel
theorem dX4_inside_64 : decode cX4_inside 64 = .ok (.iconst 0, 1) := by decide +kernel
theorem dX4_inside_65 : decode cX4_inside 65 = .ok (.iaload, 1) := by decide +kernel
theorem dX4_inside_66 : decode cX4_inside 66 = .ok (.invokestatic 111, 3) := by decide +kernel
theorem dX4_inside_69 : decode cX4_inside 69 = .ok (.ireturn, 1) := by decide +kernel
theorem dX4_inside_70 : decode cX4_inside 70 = .ok (.aload_n 0, 1) := by decide +kernel
theorem dX4_inside_71 : decode cX4_inside 71 = .ok (.getfield 102, 3) := by decide +kernel
theorem dX4_inside_74 : decode cX4_inside 74 = .ok (.aload_n 0, 1) := by decide +kernel
theorem dX4_inside_75 : decode cX4_inside 75 = .ok (.getfield 35, 3) := by decide +kernel
theorem dX4_inside_78 : decode cX4_inside 78 = .ok (.iconst 0, 1) := by decide +kernel
theorem dX4_inside_79 : decode cX4_inside 79 = .ok (.iaload, 1) := by decide +kernel
theorem dX4_inside_80 : decode cX4_inside 80 = .ok (.invokestatic 111, 3) := by decide +kernel
theorem dX4_inside_83 : decode cX4_inside 83 = .ok (.ireturn, 1) := by decide +kernel
theorem dX4_inside_84 : decode cX4_inside 84 = .ok (.aload_n 0, 1) := by decide +kernel
theorem dX4_inside_85 : decode cX4_inside 85 = .ok (.getfield 102, 3) := by decide +kernel
theorem dX4_inside_88 : decode cX4_inside 88 = .ok (.aload_n 0, 1) := by decide +kernel
theorem dX4_inside_89 : decode cX4_inside 89 = .ok (.getfield 105, 3) := by decide +kernel
theorem dX4_inside_92 : decode cX4_inside 92 = .ok (.iadd, 1) := by decide +kernel
theorem dX4_inside_93 : decode cX4_inside 93 = .ok (.aload_n 0, 1) := by decide +kernel
theorem dX4_inside_94 : decode cX4_inside 94 = .ok (.getfield 35, 3) := by decide +kernel
theorem dX4_inside_97 : decode cX4_inside 97 = .ok (.iconst 0, 1) := by decide +kernel
theorem dX4_inside_98 : decode cX4_inside 98 = .ok (.iaload, 1) := by decide +kernel
theorem dX4_inside_99 : decode cX4_inside 99 = .ok (.invokestatic 114, 3) := by decide +kernel
theorem dX4_inside_102 : decode cX4_inside 102 = .ok (.ireturn, 1) := by decide +kernel
theorem dX4_inside_103 : decode cX4_inside 103 = .ok (.bipush (-2), 2) := by decide +kernel
theorem dX4_inside_105 : decode cX4_inside 105 = .ok (.ireturn, 1) := by decide +kernel
set_option maxRecDepth 20000 in
theorem ggX4_nearest_X4_isRow : GoodIn wsX4_nearest wsX4_isRow := goodIn_r _ [9, 1, 10, 11, 8, 12, 50, 51, 52, 53, 54, 55, 56, 57, 58, 59, 60, 61, 62, 63, 64] (by decide +kernel) (by decide +kernel)
set_option maxRecDepth 20000 in
theorem gX4_nearest_X4_isRow : GoodIn wsX4_nearest (wsV RX4 43 RX4 yX4_isRow wsX4_isRow) := goodIn_app (goodIn_of _ (by decide +kernel)) ggX4_nearest_X4_isRow
set_option maxRecDepth 20000 in
theorem ggX4_nearest_X4_in : GoodIn wsX4_nearest wsX4_in := goodIn_r _ [12] (by decide +kernel) (by decide +kernel)
set_option maxRecDepth 20000 in
theorem gX4_nearest_X4_in : GoodIn wsX4_nearest (va_wsS RX4 39 yX4_in wsX4_in) := goodIn_app (goodIn_of _ (by decide +kernel)) ggX4_nearest_X4_in
set_option maxRecDepth 20000 in
theorem ggX4_nearest_X4_compare : GoodIn wsX4_nearest wsX4_compare := goodIn_r _ [16, 3, 2, 17, 18, 19, 4, 20, 21, 22, 8, 23, 1, 24, 25, 26, 27, 28, 29, 30, 31, 32, 33, 34, 35, 36, 37, 38, 39, 40, 41, 42, 50, 51, 52, 53, 54, 55, 56, 57, 58, 59, 60, 61, 62, 63, 64] (by decide +kernel) (by decide +kernel)
set_option maxRecDepth 20000 in
theorem gX4_nearest_X4_compare : GoodIn wsX4_nearest (wsV RX4 126 RX4 yX4_compare wsX4_compare) := goodIn_app (goodIn_of _ (by decide +kernel)) ggX4_nearest_X4_compare
set_option maxRecDepth 20000 in
theorem ggX4_nearest_X4_share : GoodIn wsX4_nearest wsX4_share := goodIn_r _ [45] (by decide +kernel) (by decide +kernel)
set_option maxRecDepth 20000 in
theorem gX4_nearest_X4_share : GoodIn wsX4_nearest (va_wsS RX4 111 yX4_share wsX4_share) := goodIn_app (goodIn_of _ (by decide +kernel)) ggX4_nearest_X4_share
set_option maxRecDepth 20000 in
theorem ggX4_nearest_X4_either : GoodIn wsX4_nearest wsX4_either := goodIn_r _ [49, 17, 4, 50, 51, 52, 53, 54, 55, 56, 57, 58, 59, 60, 61, 62, 63, 64] (by decide +kernel) (by decide +kernel)
set_option maxRecDepth 20000 in
theorem gX4_nearest_X4_either : GoodIn wsX4_nearest (wsV RX4 136 RX4 yX4_either wsX4_either) := goodIn_app (goodIn_of _ (by decide +kernel)) ggX4_nearest_X4_either
theorem dX4_nearest_0 : decode cX4_nearest 0 = .ok (.aload_n 0, 1) := by decide +kernel
theorem dX4_nearest_1 : decode cX4_nearest 1 = .ok (.iload_n 1, 1) := by decide +kernel
theorem dX4_nearest_2 : decode cX4_nearest 2 = .ok (.invokevirtual 43, 3) := by decide +kernel
theorem dX4_nearest_5 : decode cX4_nearest 5 = .ok (.ifCond .ne 5, 3) := by decide +kernel
theorem dX4_nearest_8 : decode cX4_nearest 8 = .ok (.iconst (-1), 1) := by decide +kernel
theorem dX4_nearest_9 : decode cX4_nearest 9 = .ok (.ireturn, 1) := by decide +kernel
theorem dX4_nearest_10 : decode cX4_nearest 10 = .ok (.iload_n 2, 1) := by decide +kernel
theorem dX4_nearest_11 : decode cX4_nearest 11 = .ok (.iconst 0, 1) := by decide +kernel
theorem dX4_nearest_12 : decode cX4_nearest 12 = .ok (.iconst 1, 1) := by decide +kernel
theorem dX4_nearest_13 : decode cX4_nearest 13 = .ok (.invokestatic 39, 3) := by decide +kernel
theorem dX4_nearest_16 : decode cX4_nearest 16 = .ok (.ifCond .ne 6, 3) := by decide +kernel
theorem dX4_nearest_19 : decode cX4_nearest 19 = .ok (.bipush (-2), 2) := by decide +kernel
theorem dX4_nearest_21 : decode cX4_nearest 21 = .ok (.ireturn, 1) := by decide +kernel
theorem dX4_nearest_22 : decode cX4_nearest 22 = .ok (.bipush (-6), 2) := by decide +kernel
theorem dX4_nearest_24 : decode cX4_nearest 24 = .ok (.istore_n 3, 1) := by decide +kernel
theorem dX4_nearest_25 : decode cX4_nearest 25 = .ok (.iconst (-1), 1) := by decide +kernel
theorem dX4_nearest_26 : decode cX4_nearest 26 = .ok (.istore 4, 2) := by decide +kernel
theorem dX4_nearest_28 : decode cX4_nearest 28 = .ok (.iconst 0, 1) := by decide +kernel
theorem dX4_nearest_29 : decode cX4_nearest 29 = .ok (.istore 5, 2) := by decide +kernel
theorem dX4_nearest_31 : decode cX4_nearest 31 = .ok (.iload 5, 2) := by decide +kernel
theorem dX4_nearest_33 : decode cX4_nearest 33 = .ok (.aload_n 0, 1) := by decide +kernel
theorem dX4_nearest_34 : decode cX4_nearest 34 = .ok (.getfield 7, 3) := by decide +kernel
theorem dX4_nearest_37 : decode cX4_nearest 37 = .ok (.iconst 4, 1) := by decide +kernel
theorem dX4_nearest_38 : decode cX4_nearest 38 = .ok (.iaload, 1) := by decide +kernel
theorem dX4_nearest_39 : decode cX4_nearest 39 = .ok (.if_icmp .ge 89, 3) := by decide +kernel
theorem dX4_nearest_42 : decode cX4_nearest 42 = .ok (.iload 5, 2) := by decide +kernel
theorem dX4_nearest_44 : decode cX4_nearest 44 = .ok (.iload_n 1, 1) := by decide +kernel
theorem dX4_nearest_45 : decode cX4_nearest 45 = .ok (.if_icmp .eq 77, 3) := by decide +kernel
theorem dX4_nearest_48 : decode cX4_nearest 48 = .ok (.aload_n 0, 1) := by decide +kernel
theorem dX4_nearest_49 : decode cX4_nearest 49 = .ok (.iload_n 1, 1) := by decide +kernel
theorem dX4_nearest_50 : decode cX4_nearest 50 = .ok (.iload 5, 2) := by decide +kernel
theorem dX4_nearest_52 : decode cX4_nearest 52 = .ok (.aload_n 0, 1) := by decide +kernel
theorem dX4_nearest_53 : decode cX4_nearest 53 = .ok (.getfield 7, 3) := by decide +kernel
theorem dX4_nearest_56 : decode cX4_nearest 56 = .ok (.iconst 1, 1) := by decide +kernel
theorem dX4_nearest_57 : decode cX4_nearest 57 = .ok (.iaload, 1) := by decide +kernel
theorem dX4_nearest_58 : decode cX4_nearest 58 = .ok (.invokevirtual 126, 3) := by decide +kernel
theorem dX4_nearest_61 : decode cX4_nearest 61 = .ok (.iload_n 2, 1) := by decide +kernel
theorem dX4_nearest_62 : decode cX4_nearest 62 = .ok (.ifCond .ne 17, 3) := by decide +kernel
theorem dX4_nearest_65 : decode cX4_nearest 65 = .ok (.aload_n 0, 1) := by decide +kernel
theorem dX4_nearest_66 : decode cX4_nearest 66 = .ok (.getfield 102, 3) := by decide +kernel
theorem dX4_nearest_69 : decode cX4_nearest 69 = .ok (.aload_n 0, 1) := by decide +kernel
theorem dX4_nearest_70 : decode cX4_nearest 70 = .ok (.getfield 99, 3) := by decide +kernel
theorem dX4_nearest_73 : decode cX4_nearest 73 = .ok (.invokestatic 111, 3) := by decide +kernel
theorem dX4_nearest_76 : decode cX4_nearest 76 = .ok (.goto 14, 3) := by decide +kernel
theorem dX4_nearest_79 : decode cX4_nearest 79 = .ok (.aload_n 0, 1) := by decide +kernel
theorem dX4_nearest_80 : decode cX4_nearest 80 = .ok (.getfield 108, 3) := by decide +kernel
theorem dX4_nearest_83 : decode cX4_nearest 83 = .ok (.aload_n 0, 1) := by decide +kernel
theorem dX4_nearest_84 : decode cX4_nearest 84 = .ok (.invokevirtual 136, 3) := by decide +kernel
theorem dX4_nearest_87 : decode cX4_nearest 87 = .ok (.invokestatic 111, 3) := by decide +kernel
theorem dX4_nearest_90 : decode cX4_nearest 90 = .ok (.istore 6, 2) := by decide +kernel
theorem dX4_nearest_92 : decode cX4_nearest 92 = .ok (.iload 6, 2) := by decide +kernel
theorem dX4_nearest_94 : decode cX4_nearest 94 = .ok (.iload 4, 2) := by decide +kernel
theorem dX4_nearest_96 : decode cX4_nearest 96 = .ok (.if_icmp .le 8, 3) := by decide +kernel
theorem dX4_nearest_99 : decode cX4_nearest 99 = .ok (.iload 5, 2) := by decide +kernel
theorem dX4_nearest_101 : decode cX4_nearest 101 = .ok (.goto 4, 3) := by decide +kernel
theorem dX4_nearest_104 : decode cX4_nearest 104 = .ok (.iload_n 3, 1) := by decide +kernel
theorem dX4_nearest_105 : decode cX4_nearest 105 = .ok (.istore_n 3, 1) := by decide +kernel
theorem dX4_nearest_106 : decode cX4_nearest 106 = .ok (.iload 6, 2) := by decide +kernel
theorem dX4_nearest_108 : decode cX4_nearest 108 = .ok (.iload 4, 2) := by decide +kernel
theorem dX4_nearest_110 : decode cX4_nearest 110 = .ok (.if_icmp .le 8, 3) := by decide +kernel
theorem dX4_nearest_113 : decode cX4_nearest 113 = .ok (.iload 6, 2) := by decide +kernel
theorem dX4_nearest_115 : decode cX4_nearest 115 = .ok (.goto 5, 3) := by decide +kernel
theorem dX4_nearest_118 : decode cX4_nearest 118 = .ok (.iload 4, 2) := by decide +kernel
theorem dX4_nearest_120 : decode cX4_nearest 120 = .ok (.istore 4, 2) := by decide +kernel
theorem dX4_nearest_122 : decode cX4_nearest 122 = .ok (.iinc 5 1, 3) := by decide +kernel
theorem dX4_nearest_125 : decode cX4_nearest 125 = .ok (.goto (-94), 3) := by decide +kernel
theorem dX4_nearest_128 : decode cX4_nearest 128 = .ok (.iload_n 3, 1) := by decide +kernel
theorem dX4_nearest_129 : decode cX4_nearest 129 = .ok (.ireturn, 1) := by decide +kernel
set_option maxRecDepth 20000 in
theorem ggX4_candidates_X4_isRow : GoodIn wsX4_candidates wsX4_isRow := goodIn_r _ [6, 1, 7, 8, 5, 9, 57, 58, 59, 60, 61, 62, 63, 64, 65, 66, 67, 68, 69, 70, 71] (by decide +kernel) (by decide +kernel)
set_option maxRecDepth 20000 in
theorem gX4_candidates_X4_isRow : GoodIn wsX4_candidates (wsV RX4 43 RX4 yX4_isRow wsX4_isRow) := goodIn_app (goodIn_of _ (by decide +kernel)) ggX4_candidates_X4_isRow
set_option maxRecDepth 20000 in
theorem ggX4_candidates_X4_compare : GoodIn wsX4_candidates wsX4_compare := goodIn_r _ [13, 14, 15, 16, 17, 18, 19, 20, 21, 22, 5, 23, 1, 24, 25, 26, 27, 28, 29, 30, 31, 32, 33, 34, 35, 36, 37, 38, 39, 40, 41, 42, 57, 58, 59, 60, 61, 62, 63, 64, 65, 66, 67, 68, 69, 70, 71] (by decide +kernel) (by decide +kernel)
set_option maxRecDepth 20000 in
theorem gX4_candidates_X4_compare : GoodIn wsX4_candidates (wsV RX4 126 RX4 yX4_compare wsX4_compare) := goodIn_app (goodIn_of _ (by decide +kernel)) ggX4_candidates_X4_compare
set_option maxRecDepth 20000 in
theorem ggX4_candidates_X4_lower : GoodIn wsX4_candidates wsX4_lower := goodIn_r _ [46, 15, 16, 47, 48, 5, 49, 57, 58, 59, 60, 61, 62, 63, 64, 65, 66, 67, 68, 69, 70, 71] (by decide +kernel) (by decide +kernel)
set_option maxRecDepth 20000 in
theorem gX4_candidates_X4_lower : GoodIn wsX4_candidates (wsV RX4 130 RX4 yX4_lower wsX4_lower) := goodIn_app (goodIn_of _ (by decide +kernel)) ggX4_candidates_X4_lower
set_option maxRecDepth 20000 in
theorem ggX4_candidates_X4_upper : GoodIn wsX4_candidates wsX4_upper := goodIn_r _ [53, 15, 18, 16, 54, 55, 5, 56, 57, 58, 59, 60, 61, 62, 63, 64, 65, 66, 67, 68, 69, 70, 71] (by decide +kernel) (by decide +kernel)
set_option maxRecDepth 20000 in
theorem gX4_candidates_X4_upper : GoodIn wsX4_candidates (wsV RX4 133 RX4 yX4_upper wsX4_upper) := goodIn_app (goodIn_of _ (by decide +kernel)) ggX4_candidates_X4_upper
theorem dX4_candidates_0 : decode cX4_candidates 0 = .ok (.aload_n 0, 1) := by decide +kernel
theorem dX4_candidates_1 : decode cX4_candidates 1 = .ok (.iload_n 1, 1) := by decide +kernel
theorem dX4_candidates_2 : decode cX4_candidates 2 = .ok (.invokevirtual 43, 3) := by decide +kernel
theorem dX4_candidates_5 : decode cX4_candidates 5 = .ok (.ifCond .ne 5, 3) := by decide +kernel
theorem dX4_candidates_8 : decode cX4_candidates 8 = .ok (.iconst (-1), 1) := by decide +kernel
theorem dX4_candidates_9 : decode cX4_candidates 9 = .ok (.ireturn, 1) := by decide +kernel
theorem dX4_candidates_10 : decode cX4_candidates 10 = .ok (.iconst 0, 1) := by decide +kernel
theorem dX4_candidates_11 : decode cX4_candidates 11 = .ok (.istore_n 2, 1) := by decide +kernel
theorem dX4_candidates_12 : decode cX4_candidates 12 = .ok (.iconst 0, 1) := by decide +kernel
theorem dX4_candidates_13 : decode cX4_candidates 13 = .ok (.istore_n 3, 1) := by decide +kernel
theorem dX4_candidates_14 : decode cX4_candidates 14 = .ok (.iload_n 3, 1) := by decide +kernel
theorem dX4_candidates_15 : decode cX4_candidates 15 = .ok (.aload_n 0, 1) := by decide +kernel
theorem dX4_candidates_16 : decode cX4_candidates 16 = .ok (.getfield 7, 3) := by decide +kernel
theorem dX4_candidates_19 : decode cX4_candidates 19 = .ok (.iconst 4, 1) := by decide +kernel
theorem dX4_candidates_20 : decode cX4_candidates 20 = .ok (.iaload, 1) := by decide +kernel
theorem dX4_candidates_21 : decode cX4_candidates 21 = .ok (.if_icmp .ge 43, 3) := by decide +kernel
theorem dX4_candidates_24 : decode cX4_candidates 24 = .ok (.iload_n 3, 1) := by decide +kernel
theorem dX4_candidates_25 : decode cX4_candidates 25 = .ok (.iload_n 1, 1) := by decide +kernel
theorem dX4_candidates_26 : decode cX4_candidates 26 = .ok (.if_icmp .eq 32, 3) := by decide +kernel
theorem dX4_candidates_29 : decode cX4_candidates 29 = .ok (.aload_n 0, 1) := by decide +kernel
theorem dX4_candidates_30 : decode cX4_candidates 30 = .ok (.iload_n 1, 1) := by decide +kernel
theorem dX4_candidates_31 : decode cX4_candidates 31 = .ok (.iload_n 3, 1) := by decide +kernel
theorem dX4_candidates_32 : decode cX4_candidates 32 = .ok (.aload_n 0, 1) := by decide +kernel
theorem dX4_candidates_33 : decode cX4_candidates 33 = .ok (.getfield 7, 3) := by decide +kernel
theorem dX4_candidates_36 : decode cX4_candidates 36 = .ok (.iconst 1, 1) := by decide +kernel
theorem dX4_candidates_37 : decode cX4_candidates 37 = .ok (.iaload, 1) := by decide +kernel
theorem dX4_candidates_38 : decode cX4_candidates 38 = .ok (.invokevirtual 126, 3) := by decide +kernel
theorem dX4_candidates_41 : decode cX4_candidates 41 = .ok (.aload_n 0, 1) := by decide +kernel
theorem dX4_candidates_42 : decode cX4_candidates 42 = .ok (.invokevirtual 130, 3) := by decide +kernel
theorem dX4_candidates_45 : decode cX4_candidates 45 = .ok (.iload_n 2, 1) := by decide +kernel
theorem dX4_candidates_46 : decode cX4_candidates 46 = .ok (.if_icmp .le 10, 3) := by decide +kernel
theorem dX4_candidates_49 : decode cX4_candidates 49 = .ok (.aload_n 0, 1) := by decide +kernel
theorem dX4_candidates_50 : decode cX4_candidates 50 = .ok (.invokevirtual 130, 3) := by decide +kernel
theorem dX4_candidates_53 : decode cX4_candidates 53 = .ok (.goto 4, 3) := by decide +kernel
theorem dX4_candidates_56 : decode cX4_candidates 56 = .ok (.iload_n 2, 1) := by decide +kernel
theorem dX4_candidates_57 : decode cX4_candidates 57 = .ok (.istore_n 2, 1) := by decide +kernel
theorem dX4_candidates_58 : decode cX4_candidates 58 = .ok (.iinc 3 1, 3) := by decide +kernel
theorem dX4_candidates_61 : decode cX4_candidates 61 = .ok (.goto (-47), 3) := by decide +kernel
theorem dX4_candidates_64 : decode cX4_candidates 64 = .ok (.iconst 0, 1) := by decide +kernel
theorem dX4_candidates_65 : decode cX4_candidates 65 = .ok (.istore_n 3, 1) := by decide +kernel
theorem dX4_candidates_66 : decode cX4_candidates 66 = .ok (.iconst 0, 1) := by decide +kernel
theorem dX4_candidates_67 : decode cX4_candidates 67 = .ok (.istore 4, 2) := by decide +kernel
theorem dX4_candidates_69 : decode cX4_candidates 69 = .ok (.iload 4, 2) := by decide +kernel
theorem dX4_candidates_71 : decode cX4_candidates 71 = .ok (.aload_n 0, 1) := by decide +kernel
theorem dX4_candidates_72 : decode cX4_candidates 72 = .ok (.getfield 7, 3) := by decide +kernel
theorem dX4_candidates_75 : decode cX4_candidates 75 = .ok (.iconst 4, 1) := by decide +kernel
theorem dX4_candidates_76 : decode cX4_candidates 76 = .ok (.iaload, 1) := by decide +kernel
theorem dX4_candidates_77 : decode cX4_candidates 77 = .ok (.if_icmp .ge 47, 3) := by decide +kernel
theorem dX4_candidates_80 : decode cX4_candidates 80 = .ok (.iload 4, 2) := by decide +kernel
theorem dX4_candidates_82 : decode cX4_candidates 82 = .ok (.iload_n 1, 1) := by decide +kernel
theorem dX4_candidates_83 : decode cX4_candidates 83 = .ok (.if_icmp .eq 35, 3) := by decide +kernel
theorem dX4_candidates_86 : decode cX4_candidates 86 = .ok (.aload_n 0, 1) := by decide +kernel
theorem dX4_candidates_87 : decode cX4_candidates 87 = .ok (.iload_n 1, 1) := by decide +kernel
theorem dX4_candidates_88 : decode cX4_candidates 88 = .ok (.iload 4, 2) := by decide +kernel
theorem dX4_candidates_90 : decode cX4_candidates 90 = .ok (.aload_n 0, 1) := by decide +kernel
end
section
theorem dX4_candidates_91 : decode cX4_candidates 91 = .ok (.getfield 7, 3) := by decide +kernel
theorem dX4_candidates_94 : decode cX4_candidates 94 = .ok (.iconst 1, 1) := by decide +kernel
theorem dX4_candidates_95 : decode cX4_candidates 95 = .ok (.iaload, 1) := by decide +kernel
theorem dX4_candidates_96 : decode cX4_candidates 96 = .ok (.invokevirtual 126, 3) := by decide +kernel
theorem dX4_candidates_99 : decode cX4_candidates 99 = .ok (.iload_n 3, 1) := by decide +kernel
theorem dX4_candidates_100 : decode cX4_candidates 100 = .ok (.aload_n 0, 1) := by decide +kernel
theorem dX4_candidates_101 : decode cX4_candidates 101 = .ok (.invokevirtual 133, 3) := by decide +kernel
theorem dX4_candidates_104 : decode cX4_candidates 104 = .ok (.iload_n 2, 1) := by decide +kernel
theorem dX4_candidates_105 : decode cX4_candidates 105 = .ok (.if_icmp .lt 10, 3) := by decide +kernel
theorem dX4_candidates_108 : decode cX4_candidates 108 = .ok (.iconst 1, 1) := by decide +kernel
theorem dX4_candidates_109 : decode cX4_candidates 109 = .ok (.iload 4, 2) := by decide +kernel
theorem dX4_candidates_111 : decode cX4_candidates 111 = .ok (.ishl, 1) := by decide +kernel
theorem dX4_candidates_112 : decode cX4_candidates 112 = .ok (.goto 4, 3) := by decide +kernel
theorem dX4_candidates_115 : decode cX4_candidates 115 = .ok (.iconst 0, 1) := by decide +kernel
theorem dX4_candidates_116 : decode cX4_candidates 116 = .ok (.ior, 1) := by decide +kernel
theorem dX4_candidates_117 : decode cX4_candidates 117 = .ok (.istore_n 3, 1) := by decide +kernel
theorem dX4_candidates_118 : decode cX4_candidates 118 = .ok (.iinc 4 1, 3) := by decide +kernel
theorem dX4_candidates_121 : decode cX4_candidates 121 = .ok (.goto (-52), 3) := by decide +kernel
theorem dX4_candidates_124 : decode cX4_candidates 124 = .ok (.iload_n 3, 1) := by decide +kernel
theorem dX4_candidates_125 : decode cX4_candidates 125 = .ok (.ireturn, 1) := by decide +kernel
set_option maxRecDepth 20000 in
theorem ggX4_off_X4_compare : GoodIn wsX4_off wsX4_compare := goodIn_r _ [8, 2, 1, 9, 10, 11, 3, 12, 13, 14, 7, 15, 16, 17, 18, 19, 20, 21, 22, 23, 24, 25, 26, 27, 28, 29, 30, 31, 32, 33, 34, 35, 43, 44, 45, 46, 47, 48, 49, 50, 51, 52, 53, 54, 55, 56, 57] (by decide +kernel) (by decide +kernel)
set_option maxRecDepth 20000 in
theorem gX4_off_X4_compare : GoodIn wsX4_off (wsV RX4 126 RX4 yX4_compare wsX4_compare) := goodIn_app (goodIn_of _ (by decide +kernel)) ggX4_off_X4_compare
set_option maxRecDepth 20000 in
theorem ggX4_off_X4_share : GoodIn wsX4_off wsX4_share := goodIn_r _ [38] (by decide +kernel) (by decide +kernel)
set_option maxRecDepth 20000 in
theorem gX4_off_X4_share : GoodIn wsX4_off (va_wsS RX4 111 yX4_share wsX4_share) := goodIn_app (goodIn_of _ (by decide +kernel)) ggX4_off_X4_share
set_option maxRecDepth 20000 in
theorem ggX4_off_X4_either : GoodIn wsX4_off wsX4_either := goodIn_r _ [42, 9, 3, 43, 44, 45, 46, 47, 48, 49, 50, 51, 52, 53, 54, 55, 56, 57] (by decide +kernel) (by decide +kernel)
set_option maxRecDepth 20000 in
theorem gX4_off_X4_either : GoodIn wsX4_off (wsV RX4 136 RX4 yX4_either wsX4_either) := goodIn_app (goodIn_of _ (by decide +kernel)) ggX4_off_X4_either
theorem dX4_off_0 : decode cX4_off 0 = .ok (.aload_n 0, 1) := by decide +kernel
theorem dX4_off_1 : decode cX4_off 1 = .ok (.iload_n 1, 1) := by decide +kernel
theorem dX4_off_2 : decode cX4_off 2 = .ok (.iload_n 2, 1) := by decide +kernel
theorem dX4_off_3 : decode cX4_off 3 = .ok (.iload_n 3, 1) := by decide +kernel
theorem dX4_off_4 : decode cX4_off 4 = .ok (.invokevirtual 126, 3) := by decide +kernel
theorem dX4_off_7 : decode cX4_off 7 = .ok (.aload_n 0, 1) := by decide +kernel
theorem dX4_off_8 : decode cX4_off 8 = .ok (.getfield 102, 3) := by decide +kernel
theorem dX4_off_11 : decode cX4_off 11 = .ok (.aload_n 0, 1) := by decide +kernel
theorem dX4_off_12 : decode cX4_off 12 = .ok (.getfield 99, 3) := by decide +kernel
theorem dX4_off_15 : decode cX4_off 15 = .ok (.invokestatic 111, 3) := by decide +kernel
theorem dX4_off_18 : decode cX4_off 18 = .ok (.aload_n 0, 1) := by decide +kernel
theorem dX4_off_19 : decode cX4_off 19 = .ok (.getfield 108, 3) := by decide +kernel
theorem dX4_off_22 : decode cX4_off 22 = .ok (.aload_n 0, 1) := by decide +kernel
theorem dX4_off_23 : decode cX4_off 23 = .ok (.invokevirtual 136, 3) := by decide +kernel
theorem dX4_off_26 : decode cX4_off 26 = .ok (.invokestatic 111, 3) := by decide +kernel
theorem dX4_off_29 : decode cX4_off 29 = .ok (.isub, 1) := by decide +kernel
theorem dX4_off_30 : decode cX4_off 30 = .ok (.istore 4, 2) := by decide +kernel
theorem dX4_off_32 : decode cX4_off 32 = .ok (.iload 4, 2) := by decide +kernel
theorem dX4_off_34 : decode cX4_off 34 = .ok (.ifCond .ge 9, 3) := by decide +kernel
theorem dX4_off_37 : decode cX4_off 37 = .ok (.iload 4, 2) := by decide +kernel
theorem dX4_off_39 : decode cX4_off 39 = .ok (.ineg, 1) := by decide +kernel
theorem dX4_off_40 : decode cX4_off 40 = .ok (.goto 5, 3) := by decide +kernel
theorem dX4_off_43 : decode cX4_off 43 = .ok (.iload 4, 2) := by decide +kernel
theorem dX4_off_45 : decode cX4_off 45 = .ok (.ireturn, 1) := by decide +kernel
set_option maxRecDepth 20000 in
theorem ggX4_worst_X4_in : GoodIn wsX4_worst wsX4_in := goodIn_r _ [5] (by decide +kernel) (by decide +kernel)
set_option maxRecDepth 20000 in
theorem gX4_worst_X4_in : GoodIn wsX4_worst (va_wsS RX4 39 yX4_in wsX4_in) := goodIn_app (goodIn_of _ (by decide +kernel)) ggX4_worst_X4_in
set_option maxRecDepth 20000 in
theorem ggX4_worst_X4_off : GoodIn wsX4_worst wsX4_off := goodIn_r _ [9, 10, 11, 12, 13, 14, 15, 4, 16, 17, 18, 19, 20, 21, 22, 23, 1, 24, 25, 26, 27, 28, 29, 30, 31, 32, 33, 34, 35, 36, 37, 38, 39, 40, 41, 42, 43, 44, 45, 46, 47, 48, 49, 50, 51, 52, 53, 54, 55, 56, 57, 58, 59, 60, 61, 62, 63, 64] (by decide +kernel) (by decide +kernel)
set_option maxRecDepth 20000 in
theorem gX4_worst_X4_off : GoodIn wsX4_worst (wsV RX4 139 RX4 yX4_off wsX4_off) := goodIn_app (goodIn_of _ (by decide +kernel)) ggX4_worst_X4_off
theorem dX4_worst_0 : decode cX4_worst 0 = .ok (.iload_n 1, 1) := by decide +kernel
theorem dX4_worst_1 : decode cX4_worst 1 = .ok (.iconst 0, 1) := by decide +kernel
theorem dX4_worst_2 : decode cX4_worst 2 = .ok (.iconst 2, 1) := by decide +kernel
theorem dX4_worst_3 : decode cX4_worst 3 = .ok (.invokestatic 39, 3) := by decide +kernel
theorem dX4_worst_6 : decode cX4_worst 6 = .ok (.ifCond .ne 6, 3) := by decide +kernel
theorem dX4_worst_9 : decode cX4_worst 9 = .ok (.bipush (-2), 2) := by decide +kernel
theorem dX4_worst_11 : decode cX4_worst 11 = .ok (.ireturn, 1) := by decide +kernel
theorem dX4_worst_12 : decode cX4_worst 12 = .ok (.bipush (-6), 2) := by decide +kernel
theorem dX4_worst_14 : decode cX4_worst 14 = .ok (.istore_n 2, 1) := by decide +kernel
theorem dX4_worst_15 : decode cX4_worst 15 = .ok (.bipush (-6), 2) := by decide +kernel
theorem dX4_worst_17 : decode cX4_worst 17 = .ok (.istore_n 3, 1) := by decide +kernel
theorem dX4_worst_18 : decode cX4_worst 18 = .ok (.iconst (-1), 1) := by decide +kernel
theorem dX4_worst_19 : decode cX4_worst 19 = .ok (.istore 4, 2) := by decide +kernel
theorem dX4_worst_21 : decode cX4_worst 21 = .ok (.iconst 0, 1) := by decide +kernel
theorem dX4_worst_22 : decode cX4_worst 22 = .ok (.istore 5, 2) := by decide +kernel
theorem dX4_worst_24 : decode cX4_worst 24 = .ok (.iload 5, 2) := by decide +kernel
theorem dX4_worst_26 : decode cX4_worst 26 = .ok (.aload_n 0, 1) := by decide +kernel
theorem dX4_worst_27 : decode cX4_worst 27 = .ok (.getfield 7, 3) := by decide +kernel
theorem dX4_worst_30 : decode cX4_worst 30 = .ok (.iconst 4, 1) := by decide +kernel
theorem dX4_worst_31 : decode cX4_worst 31 = .ok (.iaload, 1) := by decide +kernel
theorem dX4_worst_32 : decode cX4_worst 32 = .ok (.if_icmp .ge 65, 3) := by decide +kernel
theorem dX4_worst_35 : decode cX4_worst 35 = .ok (.iload 5, 2) := by decide +kernel
theorem dX4_worst_37 : decode cX4_worst 37 = .ok (.iconst 1, 1) := by decide +kernel
theorem dX4_worst_38 : decode cX4_worst 38 = .ok (.iadd, 1) := by decide +kernel
theorem dX4_worst_39 : decode cX4_worst 39 = .ok (.istore 6, 2) := by decide +kernel
theorem dX4_worst_41 : decode cX4_worst 41 = .ok (.iload 6, 2) := by decide +kernel
theorem dX4_worst_43 : decode cX4_worst 43 = .ok (.aload_n 0, 1) := by decide +kernel
theorem dX4_worst_44 : decode cX4_worst 44 = .ok (.getfield 7, 3) := by decide +kernel
theorem dX4_worst_47 : decode cX4_worst 47 = .ok (.iconst 4, 1) := by decide +kernel
theorem dX4_worst_48 : decode cX4_worst 48 = .ok (.iaload, 1) := by decide +kernel
theorem dX4_worst_49 : decode cX4_worst 49 = .ok (.if_icmp .ge 42, 3) := by decide +kernel
theorem dX4_worst_52 : decode cX4_worst 52 = .ok (.aload_n 0, 1) := by decide +kernel
theorem dX4_worst_53 : decode cX4_worst 53 = .ok (.iload 5, 2) := by decide +kernel
theorem dX4_worst_55 : decode cX4_worst 55 = .ok (.iload 6, 2) := by decide +kernel
theorem dX4_worst_57 : decode cX4_worst 57 = .ok (.aload_n 0, 1) := by decide +kernel
theorem dX4_worst_58 : decode cX4_worst 58 = .ok (.getfield 7, 3) := by decide +kernel
theorem dX4_worst_61 : decode cX4_worst 61 = .ok (.iconst 1, 1) := by decide +kernel
theorem dX4_worst_62 : decode cX4_worst 62 = .ok (.iaload, 1) := by decide +kernel
theorem dX4_worst_63 : decode cX4_worst 63 = .ok (.invokevirtual 139, 3) := by decide +kernel
theorem dX4_worst_66 : decode cX4_worst 66 = .ok (.istore 7, 2) := by decide +kernel
theorem dX4_worst_68 : decode cX4_worst 68 = .ok (.iload 7, 2) := by decide +kernel
theorem dX4_worst_70 : decode cX4_worst 70 = .ok (.iload 4, 2) := by decide +kernel
theorem dX4_worst_72 : decode cX4_worst 72 = .ok (.if_icmp .le 13, 3) := by decide +kernel
theorem dX4_worst_75 : decode cX4_worst 75 = .ok (.iload 5, 2) := by decide +kernel
theorem dX4_worst_77 : decode cX4_worst 77 = .ok (.istore_n 2, 1) := by decide +kernel
theorem dX4_worst_78 : decode cX4_worst 78 = .ok (.iload 6, 2) := by decide +kernel
theorem dX4_worst_80 : decode cX4_worst 80 = .ok (.istore_n 3, 1) := by decide +kernel
theorem dX4_worst_81 : decode cX4_worst 81 = .ok (.iload 7, 2) := by decide +kernel
theorem dX4_worst_83 : decode cX4_worst 83 = .ok (.istore 4, 2) := by decide +kernel
theorem dX4_worst_85 : decode cX4_worst 85 = .ok (.iinc 6 1, 3) := by decide +kernel
theorem dX4_worst_88 : decode cX4_worst 88 = .ok (.goto (-47), 3) := by decide +kernel
theorem dX4_worst_91 : decode cX4_worst 91 = .ok (.iinc 5 1, 3) := by decide +kernel
theorem dX4_worst_94 : decode cX4_worst 94 = .ok (.goto (-70), 3) := by decide +kernel
theorem dX4_worst_97 : decode cX4_worst 97 = .ok (.iload 4, 2) := by decide +kernel
theorem dX4_worst_99 : decode cX4_worst 99 = .ok (.ifCond .lt 7, 3) := by decide +kernel
theorem dX4_worst_102 : decode cX4_worst 102 = .ok (.iload_n 1, 1) := by decide +kernel
theorem dX4_worst_103 : decode cX4_worst 103 = .ok (.ifCond .ne 7, 3) := by decide +kernel
theorem dX4_worst_106 : decode cX4_worst 106 = .ok (.iload_n 2, 1) := by decide +kernel
theorem dX4_worst_107 : decode cX4_worst 107 = .ok (.goto 14, 3) := by decide +kernel
theorem dX4_worst_110 : decode cX4_worst 110 = .ok (.iload_n 1, 1) := by decide +kernel
theorem dX4_worst_111 : decode cX4_worst 111 = .ok (.iconst 1, 1) := by decide +kernel
theorem dX4_worst_112 : decode cX4_worst 112 = .ok (.if_icmp .ne 7, 3) := by decide +kernel
theorem dX4_worst_115 : decode cX4_worst 115 = .ok (.iload_n 3, 1) := by decide +kernel
theorem dX4_worst_116 : decode cX4_worst 116 = .ok (.goto 5, 3) := by decide +kernel
theorem dX4_worst_119 : decode cX4_worst 119 = .ok (.iload 4, 2) := by decide +kernel
theorem dX4_worst_121 : decode cX4_worst 121 = .ok (.ireturn, 1) := by decide +kernel
set_option maxRecDepth 20000 in
theorem ggX4_bestKept_X4_in : GoodIn wsX4_bestKept wsX4_in := goodIn_r _ [5] (by decide +kernel) (by decide +kernel)
set_option maxRecDepth 20000 in
theorem gX4_bestKept_X4_in : GoodIn wsX4_bestKept (va_wsS RX4 39 yX4_in wsX4_in) := goodIn_app (goodIn_of _ (by decide +kernel)) ggX4_bestKept_X4_in
set_option maxRecDepth 20000 in
theorem ggX4_bestKept_X4_off : GoodIn wsX4_bestKept wsX4_off := goodIn_r _ [9, 10, 11, 12, 13, 14, 15, 4, 16, 17, 18, 19, 20, 21, 22, 23, 1, 24, 25, 26, 27, 28, 29, 30, 31, 32, 33, 34, 35, 36, 37, 38, 39, 40, 41, 42, 43, 44, 45, 46, 47, 48, 49, 50, 51, 52, 53, 54, 55, 56, 57, 58, 59, 60, 61, 62, 63, 64] (by decide +kernel) (by decide +kernel)
set_option maxRecDepth 20000 in
theorem gX4_bestKept_X4_off : GoodIn wsX4_bestKept (wsV RX4 139 RX4 yX4_off wsX4_off) := goodIn_app (goodIn_of _ (by decide +kernel)) ggX4_bestKept_X4_off
theorem dX4_bestKept_0 : decode cX4_bestKept 0 = .ok (.iload_n 1, 1) := by decide +kernel
theorem dX4_bestKept_1 : decode cX4_bestKept 1 = .ok (.iconst 0, 1) := by decide +kernel
theorem dX4_bestKept_2 : decode cX4_bestKept 2 = .ok (.sipush 10000, 3) := by decide +kernel
theorem dX4_bestKept_5 : decode cX4_bestKept 5 = .ok (.invokestatic 39, 3) := by decide +kernel
theorem dX4_bestKept_8 : decode cX4_bestKept 8 = .ok (.ifCond .ne 6, 3) := by decide +kernel
theorem dX4_bestKept_11 : decode cX4_bestKept 11 = .ok (.bipush (-2), 2) := by decide +kernel
theorem dX4_bestKept_13 : decode cX4_bestKept 13 = .ok (.ireturn, 1) := by decide +kernel
theorem dX4_bestKept_14 : decode cX4_bestKept 14 = .ok (.iconst 1, 1) := by decide +kernel
theorem dX4_bestKept_15 : decode cX4_bestKept 15 = .ok (.istore_n 2, 1) := by decide +kernel
theorem dX4_bestKept_16 : decode cX4_bestKept 16 = .ok (.iload_n 2, 1) := by decide +kernel
theorem dX4_bestKept_17 : decode cX4_bestKept 17 = .ok (.bipush 32, 2) := by decide +kernel
theorem dX4_bestKept_19 : decode cX4_bestKept 19 = .ok (.if_icmp .gt 87, 3) := by decide +kernel
theorem dX4_bestKept_22 : decode cX4_bestKept 22 = .ok (.iconst 1, 1) := by decide +kernel
theorem dX4_bestKept_23 : decode cX4_bestKept 23 = .ok (.istore_n 3, 1) := by decide +kernel
theorem dX4_bestKept_24 : decode cX4_bestKept 24 = .ok (.iconst 0, 1) := by decide +kernel
theorem dX4_bestKept_25 : decode cX4_bestKept 25 = .ok (.istore 4, 2) := by decide +kernel
theorem dX4_bestKept_27 : decode cX4_bestKept 27 = .ok (.iload 4, 2) := by decide +kernel
theorem dX4_bestKept_29 : decode cX4_bestKept 29 = .ok (.aload_n 0, 1) := by decide +kernel
theorem dX4_bestKept_30 : decode cX4_bestKept 30 = .ok (.getfield 7, 3) := by decide +kernel
theorem dX4_bestKept_33 : decode cX4_bestKept 33 = .ok (.iconst 4, 1) := by decide +kernel
theorem dX4_bestKept_34 : decode cX4_bestKept 34 = .ok (.iaload, 1) := by decide +kernel
theorem dX4_bestKept_35 : decode cX4_bestKept 35 = .ok (.if_icmp .ge 59, 3) := by decide +kernel
theorem dX4_bestKept_38 : decode cX4_bestKept 38 = .ok (.iload_n 3, 1) := by decide +kernel
theorem dX4_bestKept_39 : decode cX4_bestKept 39 = .ok (.ifCond .eq 55, 3) := by decide +kernel
theorem dX4_bestKept_42 : decode cX4_bestKept 42 = .ok (.iload 4, 2) := by decide +kernel
theorem dX4_bestKept_44 : decode cX4_bestKept 44 = .ok (.iconst 1, 1) := by decide +kernel
theorem dX4_bestKept_45 : decode cX4_bestKept 45 = .ok (.iadd, 1) := by decide +kernel
theorem dX4_bestKept_46 : decode cX4_bestKept 46 = .ok (.istore 5, 2) := by decide +kernel
theorem dX4_bestKept_48 : decode cX4_bestKept 48 = .ok (.iload 5, 2) := by decide +kernel
theorem dX4_bestKept_50 : decode cX4_bestKept 50 = .ok (.aload_n 0, 1) := by decide +kernel
theorem dX4_bestKept_51 : decode cX4_bestKept 51 = .ok (.getfield 7, 3) := by decide +kernel
theorem dX4_bestKept_54 : decode cX4_bestKept 54 = .ok (.iconst 4, 1) := by decide +kernel
theorem dX4_bestKept_55 : decode cX4_bestKept 55 = .ok (.iaload, 1) := by decide +kernel
theorem dX4_bestKept_56 : decode cX4_bestKept 56 = .ok (.if_icmp .ge 32, 3) := by decide +kernel
theorem dX4_bestKept_59 : decode cX4_bestKept 59 = .ok (.iload_n 3, 1) := by decide +kernel
theorem dX4_bestKept_60 : decode cX4_bestKept 60 = .ok (.ifCond .eq 28, 3) := by decide +kernel
theorem dX4_bestKept_63 : decode cX4_bestKept 63 = .ok (.aload_n 0, 1) := by decide +kernel
theorem dX4_bestKept_64 : decode cX4_bestKept 64 = .ok (.iload 4, 2) := by decide +kernel
theorem dX4_bestKept_66 : decode cX4_bestKept 66 = .ok (.iload 5, 2) := by decide +kernel
theorem dX4_bestKept_68 : decode cX4_bestKept 68 = .ok (.iload_n 2, 1) := by decide +kernel
theorem dX4_bestKept_69 : decode cX4_bestKept 69 = .ok (.invokevirtual 139, 3) := by decide +kernel
theorem dX4_bestKept_72 : decode cX4_bestKept 72 = .ok (.iload_n 1, 1) := by decide +kernel
theorem dX4_bestKept_73 : decode cX4_bestKept 73 = .ok (.if_icmp .gt 7, 3) := by decide +kernel
theorem dX4_bestKept_76 : decode cX4_bestKept 76 = .ok (.iconst 1, 1) := by decide +kernel
theorem dX4_bestKept_77 : decode cX4_bestKept 77 = .ok (.goto 4, 3) := by decide +kernel
theorem dX4_bestKept_80 : decode cX4_bestKept 80 = .ok (.iconst 0, 1) := by decide +kernel
theorem dX4_bestKept_81 : decode cX4_bestKept 81 = .ok (.istore_n 3, 1) := by decide +kernel
theorem dX4_bestKept_82 : decode cX4_bestKept 82 = .ok (.iinc 5 1, 3) := by decide +kernel
theorem dX4_bestKept_85 : decode cX4_bestKept 85 = .ok (.goto (-37), 3) := by decide +kernel
theorem dX4_bestKept_88 : decode cX4_bestKept 88 = .ok (.iinc 4 1, 3) := by decide +kernel
theorem dX4_bestKept_91 : decode cX4_bestKept 91 = .ok (.goto (-64), 3) := by decide +kernel
theorem dX4_bestKept_94 : decode cX4_bestKept 94 = .ok (.iload_n 3, 1) := by decide +kernel
theorem dX4_bestKept_95 : decode cX4_bestKept 95 = .ok (.ifCond .eq 5, 3) := by decide +kernel
theorem dX4_bestKept_98 : decode cX4_bestKept 98 = .ok (.iload_n 2, 1) := by decide +kernel
theorem dX4_bestKept_99 : decode cX4_bestKept 99 = .ok (.ireturn, 1) := by decide +kernel
theorem dX4_bestKept_100 : decode cX4_bestKept 100 = .ok (.iinc 2 1, 3) := by decide +kernel
theorem dX4_bestKept_103 : decode cX4_bestKept 103 = .ok (.goto (-87), 3) := by decide +kernel
theorem dX4_bestKept_106 : decode cX4_bestKept 106 = .ok (.bipush (-6), 2) := by decide +kernel
theorem dX4_bestKept_108 : decode cX4_bestKept 108 = .ok (.ireturn, 1) := by decide +kernel
set_option maxRecDepth 20000 in
theorem ggX4_group_X4_isRow : GoodIn wsX4_group wsX4_isRow := goodIn_r _ [8, 1, 9, 10, 7, 11, 46, 47, 48, 49, 50, 51, 52, 53, 54, 55, 56, 57, 58, 59, 60] (by decide +kernel) (by decide +kernel)
set_option maxRecDepth 20000 in
theorem gX4_group_X4_isRow : GoodIn wsX4_group (wsV RX4 43 RX4 yX4_isRow wsX4_isRow) := goodIn_app (goodIn_of _ (by decide +kernel)) ggX4_group_X4_isRow
set_option maxRecDepth 20000 in
theorem ggX4_group_X4_in : GoodIn wsX4_group wsX4_in := goodIn_r _ [11] (by decide +kernel) (by decide +kernel)
set_option maxRecDepth 20000 in
theorem gX4_group_X4_in : GoodIn wsX4_group (va_wsS RX4 39 yX4_in wsX4_in) := goodIn_app (goodIn_of _ (by decide +kernel)) ggX4_group_X4_in
set_option maxRecDepth 20000 in
theorem ggX4_group_X4_compare : GoodIn wsX4_group wsX4_compare := goodIn_r _ [15, 3, 2, 16, 17, 18, 19, 20, 21, 22, 7, 23, 1, 24, 25, 26, 27, 28, 29, 30, 31, 32, 33, 34, 35, 36, 37, 38, 39, 40, 41, 42, 46, 47, 48, 49, 50, 51, 52, 53, 54, 55, 56, 57, 58, 59, 60] (by decide +kernel) (by decide +kernel)
set_option maxRecDepth 20000 in
theorem gX4_group_X4_compare : GoodIn wsX4_group (wsV RX4 126 RX4 yX4_compare wsX4_compare) := goodIn_app (goodIn_of _ (by decide +kernel)) ggX4_group_X4_compare
set_option maxRecDepth 20000 in
theorem ggX4_group_X4_share : GoodIn wsX4_group wsX4_share := goodIn_r _ [45] (by decide +kernel) (by decide +kernel)
set_option maxRecDepth 20000 in
theorem gX4_group_X4_share : GoodIn wsX4_group (va_wsS RX4 111 yX4_share wsX4_share) := goodIn_app (goodIn_of _ (by decide +kernel)) ggX4_group_X4_share
theorem dX4_group_0 : decode cX4_group 0 = .ok (.aload_n 0, 1) := by decide +kernel
theorem dX4_group_1 : decode cX4_group 1 = .ok (.iload_n 1, 1) := by decide +kernel
theorem dX4_group_2 : decode cX4_group 2 = .ok (.invokevirtual 43, 3) := by decide +kernel
theorem dX4_group_5 : decode cX4_group 5 = .ok (.ifCond .ne 5, 3) := by decide +kernel
theorem dX4_group_8 : decode cX4_group 8 = .ok (.iconst (-1), 1) := by decide +kernel
theorem dX4_group_9 : decode cX4_group 9 = .ok (.ireturn, 1) := by decide +kernel
theorem dX4_group_10 : decode cX4_group 10 = .ok (.iload_n 2, 1) := by decide +kernel
theorem dX4_group_11 : decode cX4_group 11 = .ok (.iconst 0, 1) := by decide +kernel
theorem dX4_group_12 : decode cX4_group 12 = .ok (.sipush 10000, 3) := by decide +kernel
theorem dX4_group_15 : decode cX4_group 15 = .ok (.invokestatic 39, 3) := by decide +kernel
theorem dX4_group_18 : decode cX4_group 18 = .ok (.ifCond .ne 6, 3) := by decide +kernel
theorem dX4_group_21 : decode cX4_group 21 = .ok (.bipush (-2), 2) := by decide +kernel
theorem dX4_group_23 : decode cX4_group 23 = .ok (.ireturn, 1) := by decide +kernel
theorem dX4_group_24 : decode cX4_group 24 = .ok (.iconst 1, 1) := by decide +kernel
theorem dX4_group_25 : decode cX4_group 25 = .ok (.iload_n 1, 1) := by decide +kernel
theorem dX4_group_26 : decode cX4_group 26 = .ok (.ishl, 1) := by decide +kernel
theorem dX4_group_27 : decode cX4_group 27 = .ok (.istore_n 3, 1) := by decide +kernel
theorem dX4_group_28 : decode cX4_group 28 = .ok (.iconst 0, 1) := by decide +kernel
theorem dX4_group_29 : decode cX4_group 29 = .ok (.istore 4, 2) := by decide +kernel
theorem dX4_group_31 : decode cX4_group 31 = .ok (.iload 4, 2) := by decide +kernel
theorem dX4_group_33 : decode cX4_group 33 = .ok (.aload_n 0, 1) := by decide +kernel
theorem dX4_group_34 : decode cX4_group 34 = .ok (.getfield 7, 3) := by decide +kernel
theorem dX4_group_37 : decode cX4_group 37 = .ok (.iconst 4, 1) := by decide +kernel
theorem dX4_group_38 : decode cX4_group 38 = .ok (.iaload, 1) := by decide +kernel
theorem dX4_group_39 : decode cX4_group 39 = .ok (.if_icmp .ge 108, 3) := by decide +kernel
theorem dX4_group_42 : decode cX4_group 42 = .ok (.iconst 0, 1) := by decide +kernel
theorem dX4_group_43 : decode cX4_group 43 = .ok (.istore 5, 2) := by decide +kernel
theorem dX4_group_45 : decode cX4_group 45 = .ok (.iload 5, 2) := by decide +kernel
theorem dX4_group_47 : decode cX4_group 47 = .ok (.aload_n 0, 1) := by decide +kernel
theorem dX4_group_48 : decode cX4_group 48 = .ok (.getfield 7, 3) := by decide +kernel
theorem dX4_group_51 : decode cX4_group 51 = .ok (.iconst 4, 1) := by decide +kernel
theorem dX4_group_52 : decode cX4_group 52 = .ok (.iaload, 1) := by decide +kernel
theorem dX4_group_53 : decode cX4_group 53 = .ok (.if_icmp .ge 88, 3) := by decide +kernel
theorem dX4_group_56 : decode cX4_group 56 = .ok (.iconst 0, 1) := by decide +kernel
theorem dX4_group_57 : decode cX4_group 57 = .ok (.istore 6, 2) := by decide +kernel
theorem dX4_group_59 : decode cX4_group 59 = .ok (.iload 6, 2) := by decide +kernel
theorem dX4_group_61 : decode cX4_group 61 = .ok (.aload_n 0, 1) := by decide +kernel
theorem dX4_group_62 : decode cX4_group 62 = .ok (.getfield 7, 3) := by decide +kernel
theorem dX4_group_65 : decode cX4_group 65 = .ok (.iconst 4, 1) := by decide +kernel
theorem dX4_group_66 : decode cX4_group 66 = .ok (.iaload, 1) := by decide +kernel
theorem dX4_group_67 : decode cX4_group 67 = .ok (.if_icmp .ge 68, 3) := by decide +kernel
theorem dX4_group_70 : decode cX4_group 70 = .ok (.iload_n 3, 1) := by decide +kernel
theorem dX4_group_71 : decode cX4_group 71 = .ok (.iload 5, 2) := by decide +kernel
theorem dX4_group_73 : decode cX4_group 73 = .ok (.ishr, 1) := by decide +kernel
theorem dX4_group_74 : decode cX4_group 74 = .ok (.iconst 1, 1) := by decide +kernel
theorem dX4_group_75 : decode cX4_group 75 = .ok (.iand, 1) := by decide +kernel
theorem dX4_group_76 : decode cX4_group 76 = .ok (.iconst 1, 1) := by decide +kernel
theorem dX4_group_77 : decode cX4_group 77 = .ok (.if_icmp .ne 58, 3) := by decide +kernel
theorem dX4_group_80 : decode cX4_group 80 = .ok (.iload_n 3, 1) := by decide +kernel
theorem dX4_group_81 : decode cX4_group 81 = .ok (.iload 6, 2) := by decide +kernel
theorem dX4_group_83 : decode cX4_group 83 = .ok (.ishr, 1) := by decide +kernel
theorem dX4_group_84 : decode cX4_group 84 = .ok (.iconst 1, 1) := by decide +kernel
theorem dX4_group_85 : decode cX4_group 85 = .ok (.iand, 1) := by decide +kernel
theorem dX4_group_86 : decode cX4_group 86 = .ok (.ifCond .ne 43, 3) := by decide +kernel
theorem dX4_group_89 : decode cX4_group 89 = .ok (.aload_n 0, 1) := by decide +kernel
theorem dX4_group_90 : decode cX4_group 90 = .ok (.iload 5, 2) := by decide +kernel
theorem dX4_group_92 : decode cX4_group 92 = .ok (.iload 6, 2) := by decide +kernel
theorem dX4_group_94 : decode cX4_group 94 = .ok (.aload_n 0, 1) := by decide +kernel
theorem dX4_group_95 : decode cX4_group 95 = .ok (.getfield 7, 3) := by decide +kernel
theorem dX4_group_98 : decode cX4_group 98 = .ok (.iconst 1, 1) := by decide +kernel
theorem dX4_group_99 : decode cX4_group 99 = .ok (.iaload, 1) := by decide +kernel
theorem dX4_group_100 : decode cX4_group 100 = .ok (.invokevirtual 126, 3) := by decide +kernel
theorem dX4_group_103 : decode cX4_group 103 = .ok (.iload_n 3, 1) := by decide +kernel
theorem dX4_group_104 : decode cX4_group 104 = .ok (.aload_n 0, 1) := by decide +kernel
theorem dX4_group_105 : decode cX4_group 105 = .ok (.getfield 102, 3) := by decide +kernel
theorem dX4_group_108 : decode cX4_group 108 = .ok (.aload_n 0, 1) := by decide +kernel
theorem dX4_group_109 : decode cX4_group 109 = .ok (.getfield 99, 3) := by decide +kernel
theorem dX4_group_112 : decode cX4_group 112 = .ok (.invokestatic 111, 3) := by decide +kernel
theorem dX4_group_115 : decode cX4_group 115 = .ok (.iload_n 2, 1) := by decide +kernel
theorem dX4_group_116 : decode cX4_group 116 = .ok (.if_icmp .lt 10, 3) := by decide +kernel
theorem dX4_group_119 : decode cX4_group 119 = .ok (.iconst 1, 1) := by decide +kernel
theorem dX4_group_120 : decode cX4_group 120 = .ok (.iload 6, 2) := by decide +kernel
theorem dX4_group_122 : decode cX4_group 122 = .ok (.ishl, 1) := by decide +kernel
theorem dX4_group_123 : decode cX4_group 123 = .ok (.goto 4, 3) := by decide +kernel
theorem dX4_group_126 : decode cX4_group 126 = .ok (.iconst 0, 1) := by decide +kernel
theorem dX4_group_127 : decode cX4_group 127 = .ok (.ior, 1) := by decide +kernel
theorem dX4_group_128 : decode cX4_group 128 = .ok (.istore_n 3, 1) := by decide +kernel
theorem dX4_group_129 : decode cX4_group 129 = .ok (.iinc 6 1, 3) := by decide +kernel
theorem dX4_group_132 : decode cX4_group 132 = .ok (.goto (-73), 3) := by decide +kernel
theorem dX4_group_135 : decode cX4_group 135 = .ok (.iinc 5 1, 3) := by decide +kernel
theorem dX4_group_138 : decode cX4_group 138 = .ok (.goto (-93), 3) := by decide +kernel
theorem dX4_group_141 : decode cX4_group 141 = .ok (.iinc 4 1, 3) := by decide +kernel
theorem dX4_group_144 : decode cX4_group 144 = .ok (.goto (-113), 3) := by decide +kernel
theorem dX4_group_147 : decode cX4_group 147 = .ok (.iconst 0, 1) := by decide +kernel
theorem dX4_group_148 : decode cX4_group 148 = .ok (.istore 4, 2) := by decide +kernel
theorem dX4_group_150 : decode cX4_group 150 = .ok (.iload_n 3, 1) := by decide +kernel
theorem dX4_group_151 : decode cX4_group 151 = .ok (.iload 4, 2) := by decide +kernel
theorem dX4_group_153 : decode cX4_group 153 = .ok (.ishr, 1) := by decide +kernel
theorem dX4_group_154 : decode cX4_group 154 = .ok (.iconst 1, 1) := by decide +kernel
theorem dX4_group_155 : decode cX4_group 155 = .ok (.iand, 1) := by decide +kernel
theorem dX4_group_156 : decode cX4_group 156 = .ok (.ifCond .ne 9, 3) := by decide +kernel
theorem dX4_group_159 : decode cX4_group 159 = .ok (.iinc 4 1, 3) := by decide +kernel
theorem dX4_group_162 : decode cX4_group 162 = .ok (.goto (-12), 3) := by decide +kernel
theorem dX4_group_165 : decode cX4_group 165 = .ok (.iload 4, 2) := by decide +kernel
theorem dX4_group_167 : decode cX4_group 167 = .ok (.ireturn, 1) := by decide +kernel
set_option maxRecDepth 20000 in
theorem ggX4_put_X4_in : GoodIn wsX4_put wsX4_in := goodIn_r _ [7] (by decide +kernel) (by decide +kernel)
set_option maxRecDepth 20000 in
theorem gX4_put_X4_in : GoodIn wsX4_put (va_wsS RX4 39 yX4_in wsX4_in) := goodIn_app (goodIn_of _ (by decide +kernel)) ggX4_put_X4_in
theorem dX4_put_0 : decode cX4_put 0 = .ok (.iconst 0, 1) := by decide +kernel
theorem dX4_put_1 : decode cX4_put 1 = .ok (.istore_n 3, 1) := by decide +kernel
theorem dX4_put_2 : decode cX4_put 2 = .ok (.iload_n 3, 1) := by decide +kernel
theorem dX4_put_3 : decode cX4_put 3 = .ok (.bipush 8, 2) := by decide +kernel
theorem dX4_put_5 : decode cX4_put 5 = .ok (.if_icmp .ge 24, 3) := by decide +kernel
theorem dX4_put_8 : decode cX4_put 8 = .ok (.lload_n 1, 1) := by decide +kernel
theorem dX4_put_9 : decode cX4_put 9 = .ok (.bipush 8, 2) := by decide +kernel
theorem dX4_put_11 : decode cX4_put 11 = .ok (.iload_n 3, 1) := by decide +kernel
theorem dX4_put_12 : decode cX4_put 12 = .ok (.imul, 1) := by decide +kernel
theorem dX4_put_13 : decode cX4_put 13 = .ok (.lshr, 1) := by decide +kernel
theorem dX4_put_14 : decode cX4_put 14 = .ok (.ldc2_w 143, 3) := by decide +kernel
theorem dX4_put_17 : decode cX4_put 17 = .ok (.land, 1) := by decide +kernel
theorem dX4_put_18 : decode cX4_put 18 = .ok (.lconst 0, 1) := by decide +kernel
theorem dX4_put_19 : decode cX4_put 19 = .ok (.lcmp, 1) := by decide +kernel
theorem dX4_put_20 : decode cX4_put 20 = .ok (.ifCond .eq 9, 3) := by decide +kernel
theorem dX4_put_23 : decode cX4_put 23 = .ok (.iinc 3 1, 3) := by decide +kernel
theorem dX4_put_26 : decode cX4_put 26 = .ok (.goto (-24), 3) := by decide +kernel
theorem dX4_put_29 : decode cX4_put 29 = .ok (.iload_n 3, 1) := by decide +kernel
theorem dX4_put_30 : decode cX4_put 30 = .ok (.ifCond .le 7, 3) := by decide +kernel
theorem dX4_put_33 : decode cX4_put 33 = .ok (.iconst 1, 1) := by decide +kernel
theorem dX4_put_34 : decode cX4_put 34 = .ok (.goto 4, 3) := by decide +kernel
theorem dX4_put_37 : decode cX4_put 37 = .ok (.iconst 0, 1) := by decide +kernel
theorem dX4_put_38 : decode cX4_put 38 = .ok (.istore 4, 2) := by decide +kernel
theorem dX4_put_40 : decode cX4_put 40 = .ok (.iconst 0, 1) := by decide +kernel
theorem dX4_put_41 : decode cX4_put 41 = .ok (.istore 5, 2) := by decide +kernel
theorem dX4_put_43 : decode cX4_put 43 = .ok (.iload 5, 2) := by decide +kernel
theorem dX4_put_45 : decode cX4_put 45 = .ok (.bipush 8, 2) := by decide +kernel
theorem dX4_put_47 : decode cX4_put 47 = .ok (.if_icmp .ge 61, 3) := by decide +kernel
theorem dX4_put_50 : decode cX4_put 50 = .ok (.lload_n 1, 1) := by decide +kernel
theorem dX4_put_51 : decode cX4_put 51 = .ok (.bipush 8, 2) := by decide +kernel
theorem dX4_put_53 : decode cX4_put 53 = .ok (.iload 5, 2) := by decide +kernel
theorem dX4_put_55 : decode cX4_put 55 = .ok (.imul, 1) := by decide +kernel
theorem dX4_put_56 : decode cX4_put 56 = .ok (.lshr, 1) := by decide +kernel
theorem dX4_put_57 : decode cX4_put 57 = .ok (.ldc2_w 143, 3) := by decide +kernel
theorem dX4_put_60 : decode cX4_put 60 = .ok (.land, 1) := by decide +kernel
theorem dX4_put_61 : decode cX4_put 61 = .ok (.l2i, 1) := by decide +kernel
theorem dX4_put_62 : decode cX4_put 62 = .ok (.istore 6, 2) := by decide +kernel
theorem dX4_put_64 : decode cX4_put 64 = .ok (.iload 4, 2) := by decide +kernel
theorem dX4_put_66 : decode cX4_put 66 = .ok (.ifCond .eq 33, 3) := by decide +kernel
theorem dX4_put_69 : decode cX4_put 69 = .ok (.iload 5, 2) := by decide +kernel
theorem dX4_put_71 : decode cX4_put 71 = .ok (.iload_n 3, 1) := by decide +kernel
theorem dX4_put_72 : decode cX4_put 72 = .ok (.if_icmp .ge 18, 3) := by decide +kernel
theorem dX4_put_75 : decode cX4_put 75 = .ok (.iload 6, 2) := by decide +kernel
theorem dX4_put_77 : decode cX4_put 77 = .ok (.bipush 33, 2) := by decide +kernel
theorem dX4_put_79 : decode cX4_put 79 = .ok (.bipush 126, 2) := by decide +kernel
theorem dX4_put_81 : decode cX4_put 81 = .ok (.invokestatic 39, 3) := by decide +kernel
theorem dX4_put_84 : decode cX4_put 84 = .ok (.ifCond .eq 15, 3) := by decide +kernel
theorem dX4_put_87 : decode cX4_put 87 = .ok (.goto 8, 3) := by decide +kernel
theorem dX4_put_90 : decode cX4_put 90 = .ok (.iload 6, 2) := by decide +kernel
theorem dX4_put_92 : decode cX4_put 92 = .ok (.ifCond .ne 7, 3) := by decide +kernel
theorem dX4_put_95 : decode cX4_put 95 = .ok (.iconst 1, 1) := by decide +kernel
theorem dX4_put_96 : decode cX4_put 96 = .ok (.goto 4, 3) := by decide +kernel
theorem dX4_put_99 : decode cX4_put 99 = .ok (.iconst 0, 1) := by decide +kernel
theorem dX4_put_100 : decode cX4_put 100 = .ok (.istore 4, 2) := by decide +kernel
theorem dX4_put_102 : decode cX4_put 102 = .ok (.iinc 5 1, 3) := by decide +kernel
theorem dX4_put_105 : decode cX4_put 105 = .ok (.goto (-62), 3) := by decide +kernel
theorem dX4_put_108 : decode cX4_put 108 = .ok (.iload 4, 2) := by decide +kernel
theorem dX4_put_110 : decode cX4_put 110 = .ok (.ifCond .ne 6, 3) := by decide +kernel
theorem dX4_put_113 : decode cX4_put 113 = .ok (.bipush (-2), 2) := by decide +kernel
theorem dX4_put_115 : decode cX4_put 115 = .ok (.ireturn, 1) := by decide +kernel
theorem dX4_put_116 : decode cX4_put 116 = .ok (.aload_n 0, 1) := by decide +kernel
theorem dX4_put_117 : decode cX4_put 117 = .ok (.getfield 62, 3) := by decide +kernel
theorem dX4_put_120 : decode cX4_put 120 = .ok (.iload_n 3, 1) := by decide +kernel
theorem dX4_put_121 : decode cX4_put 121 = .ok (.iadd, 1) := by decide +kernel
theorem dX4_put_122 : decode cX4_put 122 = .ok (.bipush 64, 2) := by decide +kernel
theorem dX4_put_124 : decode cX4_put 124 = .ok (.if_icmp .le 6, 3) := by decide +kernel
theorem dX4_put_127 : decode cX4_put 127 = .ok (.bipush (-4), 2) := by decide +kernel
theorem dX4_put_129 : decode cX4_put 129 = .ok (.ireturn, 1) := by decide +kernel
theorem dX4_put_130 : decode cX4_put 130 = .ok (.iload_n 3, 1) := by decide +kernel
theorem dX4_put_131 : decode cX4_put 131 = .ok (.iconst 1, 1) := by decide +kernel
theorem dX4_put_132 : decode cX4_put 132 = .ok (.isub, 1) := by decide +kernel
theorem dX4_put_133 : decode cX4_put 133 = .ok (.istore 5, 2) := by decide +kernel
theorem dX4_put_135 : decode cX4_put 135 = .ok (.iload 5, 2) := by decide +kernel
theorem dX4_put_137 : decode cX4_put 137 = .ok (.ifCond .lt 40, 3) := by decide +kernel
theorem dX4_put_140 : decode cX4_put 140 = .ok (.aload_n 0, 1) := by decide +kernel
theorem dX4_put_141 : decode cX4_put 141 = .ok (.getfield 23, 3) := by decide +kernel
theorem dX4_put_144 : decode cX4_put 144 = .ok (.aload_n 0, 1) := by decide +kernel
theorem dX4_put_145 : decode cX4_put 145 = .ok (.getfield 62, 3) := by decide +kernel
theorem dX4_put_148 : decode cX4_put 148 = .ok (.lload_n 1, 1) := by decide +kernel
theorem dX4_put_149 : decode cX4_put 149 = .ok (.bipush 8, 2) := by decide +kernel
theorem dX4_put_151 : decode cX4_put 151 = .ok (.iload 5, 2) := by decide +kernel
theorem dX4_put_153 : decode cX4_put 153 = .ok (.imul, 1) := by decide +kernel
theorem dX4_put_154 : decode cX4_put 154 = .ok (.lshr, 1) := by decide +kernel
theorem dX4_put_155 : decode cX4_put 155 = .ok (.ldc2_w 143, 3) := by decide +kernel
theorem dX4_put_158 : decode cX4_put 158 = .ok (.land, 1) := by decide +kernel
theorem dX4_put_159 : decode cX4_put 159 = .ok (.l2i, 1) := by decide +kernel
theorem dX4_put_160 : decode cX4_put 160 = .ok (.iastore, 1) := by decide +kernel
theorem dX4_put_161 : decode cX4_put 161 = .ok (.aload_n 0, 1) := by decide +kernel
theorem dX4_put_162 : decode cX4_put 162 = .ok (.dup, 1) := by decide +kernel
theorem dX4_put_163 : decode cX4_put 163 = .ok (.getfield 62, 3) := by decide +kernel
theorem dX4_put_166 : decode cX4_put 166 = .ok (.iconst 1, 1) := by decide +kernel
theorem dX4_put_167 : decode cX4_put 167 = .ok (.iadd, 1) := by decide +kernel
theorem dX4_put_168 : decode cX4_put 168 = .ok (.putfield 62, 3) := by decide +kernel
theorem dX4_put_171 : decode cX4_put 171 = .ok (.iinc 5 (-1), 3) := by decide +kernel
theorem dX4_put_174 : decode cX4_put 174 = .ok (.goto (-39), 3) := by decide +kernel
theorem dX4_put_177 : decode cX4_put 177 = .ok (.aload_n 0, 1) := by decide +kernel
theorem dX4_put_178 : decode cX4_put 178 = .ok (.getfield 62, 3) := by decide +kernel
theorem dX4_put_181 : decode cX4_put 181 = .ok (.ireturn, 1) := by decide +kernel
theorem dX4_wipe_0 : decode cX4_wipe 0 = .ok (.aload_n 0, 1) := by decide +kernel
theorem dX4_wipe_1 : decode cX4_wipe 1 = .ok (.getfield 62, 3) := by decide +kernel
theorem dX4_wipe_4 : decode cX4_wipe 4 = .ok (.istore_n 1, 1) := by decide +kernel
theorem dX4_wipe_5 : decode cX4_wipe 5 = .ok (.aload_n 0, 1) := by decide +kernel
theorem dX4_wipe_6 : decode cX4_wipe 6 = .ok (.iconst 0, 1) := by decide +kernel
theorem dX4_wipe_7 : decode cX4_wipe 7 = .ok (.putfield 62, 3) := by decide +kernel
theorem dX4_wipe_10 : decode cX4_wipe 10 = .ok (.iload_n 1, 1) := by decide +kernel
theorem dX4_wipe_11 : decode cX4_wipe 11 = .ok (.ireturn, 1) := by decide +kernel
theorem dX4_undo_0 : decode cX4_undo 0 = .ok (.aload_n 0, 1) := by decide +kernel
theorem dX4_undo_1 : decode cX4_undo 1 = .ok (.getfield 47, 3) := by decide +kernel
theorem dX4_undo_4 : decode cX4_undo 4 = .ok (.ifCond .ne 6, 3) := by decide +kernel
theorem dX4_undo_7 : decode cX4_undo 7 = .ok (.bipush (-5), 2) := by decide +kernel
theorem dX4_undo_9 : decode cX4_undo 9 = .ok (.ireturn, 1) := by decide +kernel
theorem dX4_undo_10 : decode cX4_undo 10 = .ok (.aload_n 0, 1) := by decide +kernel
theorem dX4_undo_11 : decode cX4_undo 11 = .ok (.dup, 1) := by decide +kernel
theorem dX4_undo_12 : decode cX4_undo 12 = .ok (.getfield 47, 3) := by decide +kernel
theorem dX4_undo_15 : decode cX4_undo 15 = .ok (.iconst 1, 1) := by decide +kernel
theorem dX4_undo_16 : decode cX4_undo 16 = .ok (.isub, 1) := by decide +kernel
theorem dX4_undo_17 : decode cX4_undo 17 = .ok (.putfield 47, 3) := by decide +kernel
theorem dX4_undo_20 : decode cX4_undo 20 = .ok (.iconst 0, 1) := by decide +kernel
theorem dX4_undo_21 : decode cX4_undo 21 = .ok (.istore_n 1, 1) := by decide +kernel
theorem dX4_undo_22 : decode cX4_undo 22 = .ok (.iload_n 1, 1) := by decide +kernel
theorem dX4_undo_23 : decode cX4_undo 23 = .ok (.sipush 655, 3) := by decide +kernel
theorem dX4_undo_26 : decode cX4_undo 26 = .ok (.if_icmp .ge 30, 3) := by decide +kernel
theorem dX4_undo_29 : decode cX4_undo 29 = .ok (.aload_n 0, 1) := by decide +kernel
theorem dX4_undo_30 : decode cX4_undo 30 = .ok (.getfield 7, 3) := by decide +kernel
theorem dX4_undo_33 : decode cX4_undo 33 = .ok (.iload_n 1, 1) := by decide +kernel
theorem dX4_undo_34 : decode cX4_undo 34 = .ok (.aload_n 0, 1) := by decide +kernel
theorem dX4_undo_35 : decode cX4_undo 35 = .ok (.getfield 13, 3) := by decide +kernel
theorem dX4_undo_38 : decode cX4_undo 38 = .ok (.sipush 655, 3) := by decide +kernel
theorem dX4_undo_41 : decode cX4_undo 41 = .ok (.aload_n 0, 1) := by decide +kernel
theorem dX4_undo_42 : decode cX4_undo 42 = .ok (.getfield 47, 3) := by decide +kernel
theorem dX4_undo_45 : decode cX4_undo 45 = .ok (.imul, 1) := by decide +kernel
theorem dX4_undo_46 : decode cX4_undo 46 = .ok (.iload_n 1, 1) := by decide +kernel
theorem dX4_undo_47 : decode cX4_undo 47 = .ok (.iadd, 1) := by decide +kernel
theorem dX4_undo_48 : decode cX4_undo 48 = .ok (.iaload, 1) := by decide +kernel
theorem dX4_undo_49 : decode cX4_undo 49 = .ok (.iastore, 1) := by decide +kernel
theorem dX4_undo_50 : decode cX4_undo 50 = .ok (.iinc 1 1, 3) := by decide +kernel
theorem dX4_undo_53 : decode cX4_undo 53 = .ok (.goto (-31), 3) := by decide +kernel
theorem dX4_undo_56 : decode cX4_undo 56 = .ok (.aload_n 0, 1) := by decide +kernel
theorem dX4_undo_57 : decode cX4_undo 57 = .ok (.getfield 47, 3) := by decide +kernel
theorem dX4_undo_60 : decode cX4_undo 60 = .ok (.ireturn, 1) := by decide +kernel
set_option maxRecDepth 20000 in
theorem ggX4_save_X4_in : GoodIn wsX4_save wsX4_in := goodIn_r _ [7] (by decide +kernel) (by decide +kernel)
set_option maxRecDepth 20000 in
theorem gX4_save_X4_in : GoodIn wsX4_save (va_wsS RX4 39 yX4_in wsX4_in) := goodIn_app (goodIn_of _ (by decide +kernel)) ggX4_save_X4_in
theorem dX4_save_0 : decode cX4_save 0 = .ok (.iload_n 1, 1) := by decide +kernel
theorem dX4_save_1 : decode cX4_save 1 = .ok (.iconst 0, 1) := by decide +kernel
theorem dX4_save_2 : decode cX4_save 2 = .ok (.iconst 1, 1) := by decide +kernel
theorem dX4_save_3 : decode cX4_save 3 = .ok (.invokestatic 39, 3) := by decide +kernel
theorem dX4_save_6 : decode cX4_save 6 = .ok (.ifCond .ne 6, 3) := by decide +kernel
theorem dX4_save_9 : decode cX4_save 9 = .ok (.bipush (-2), 2) := by decide +kernel
theorem dX4_save_11 : decode cX4_save 11 = .ok (.ireturn, 1) := by decide +kernel
theorem dX4_save_12 : decode cX4_save 12 = .ok (.iconst 0, 1) := by decide +kernel
theorem dX4_save_13 : decode cX4_save 13 = .ok (.istore_n 2, 1) := by decide +kernel
theorem dX4_save_14 : decode cX4_save 14 = .ok (.iload_n 2, 1) := by decide +kernel
theorem dX4_save_15 : decode cX4_save 15 = .ok (.sipush 655, 3) := by decide +kernel
theorem dX4_save_18 : decode cX4_save 18 = .ok (.if_icmp .ge 27, 3) := by decide +kernel
theorem dX4_save_21 : decode cX4_save 21 = .ok (.aload_n 0, 1) := by decide +kernel
theorem dX4_save_22 : decode cX4_save 22 = .ok (.getfield 16, 3) := by decide +kernel
theorem dX4_save_25 : decode cX4_save 25 = .ok (.sipush 655, 3) := by decide +kernel
theorem dX4_save_28 : decode cX4_save 28 = .ok (.iload_n 1, 1) := by decide +kernel
theorem dX4_save_29 : decode cX4_save 29 = .ok (.imul, 1) := by decide +kernel
theorem dX4_save_30 : decode cX4_save 30 = .ok (.iload_n 2, 1) := by decide +kernel
theorem dX4_save_31 : decode cX4_save 31 = .ok (.iadd, 1) := by decide +kernel
theorem dX4_save_32 : decode cX4_save 32 = .ok (.aload_n 0, 1) := by decide +kernel
theorem dX4_save_33 : decode cX4_save 33 = .ok (.getfield 7, 3) := by decide +kernel
theorem dX4_save_36 : decode cX4_save 36 = .ok (.iload_n 2, 1) := by decide +kernel
theorem dX4_save_37 : decode cX4_save 37 = .ok (.iaload, 1) := by decide +kernel
theorem dX4_save_38 : decode cX4_save 38 = .ok (.iastore, 1) := by decide +kernel
theorem dX4_save_39 : decode cX4_save 39 = .ok (.iinc 2 1, 3) := by decide +kernel
theorem dX4_save_42 : decode cX4_save 42 = .ok (.goto (-28), 3) := by decide +kernel
theorem dX4_save_45 : decode cX4_save 45 = .ok (.aload_n 0, 1) := by decide +kernel
theorem dX4_save_46 : decode cX4_save 46 = .ok (.getfield 19, 3) := by decide +kernel
theorem dX4_save_49 : decode cX4_save 49 = .ok (.iload_n 1, 1) := by decide +kernel
theorem dX4_save_50 : decode cX4_save 50 = .ok (.iconst 1, 1) := by decide +kernel
theorem dX4_save_51 : decode cX4_save 51 = .ok (.bastore, 1) := by decide +kernel
theorem dX4_save_52 : decode cX4_save 52 = .ok (.aload_n 0, 1) := by decide +kernel
theorem dX4_save_53 : decode cX4_save 53 = .ok (.getfield 7, 3) := by decide +kernel
theorem dX4_save_56 : decode cX4_save 56 = .ok (.iconst 4, 1) := by decide +kernel
theorem dX4_save_57 : decode cX4_save 57 = .ok (.iaload, 1) := by decide +kernel
theorem dX4_save_58 : decode cX4_save 58 = .ok (.ireturn, 1) := by decide +kernel
set_option maxRecDepth 20000 in
theorem ggX4_restore_X4_in : GoodIn wsX4_restore wsX4_in := goodIn_r _ [7] (by decide +kernel) (by decide +kernel)
set_option maxRecDepth 20000 in
theorem gX4_restore_X4_in : GoodIn wsX4_restore (va_wsS RX4 39 yX4_in wsX4_in) := goodIn_app (goodIn_of _ (by decide +kernel)) ggX4_restore_X4_in
set_option maxRecDepth 20000 in
theorem ggX4_restore_X4_know : GoodIn wsX4_restore wsX4_know := goodIn_r _ [11, 12, 13, 2, 14, 15, 16, 17, 18, 19, 20, 21, 22, 23, 24, 25, 26, 27, 28] (by decide +kernel) (by decide +kernel)
set_option maxRecDepth 20000 in
theorem gX4_restore_X4_know : GoodIn wsX4_restore (wsV RX4 59 RX4 yX4_know wsX4_know) := goodIn_app (goodIn_of _ (by decide +kernel)) ggX4_restore_X4_know
theorem dX4_restore_0 : decode cX4_restore 0 = .ok (.iload_n 1, 1) := by decide +kernel
theorem dX4_restore_1 : decode cX4_restore 1 = .ok (.iconst 0, 1) := by decide +kernel
theorem dX4_restore_2 : decode cX4_restore 2 = .ok (.iconst 1, 1) := by decide +kernel
theorem dX4_restore_3 : decode cX4_restore 3 = .ok (.invokestatic 39, 3) := by decide +kernel
theorem dX4_restore_6 : decode cX4_restore 6 = .ok (.ifCond .ne 6, 3) := by decide +kernel
theorem dX4_restore_9 : decode cX4_restore 9 = .ok (.bipush (-2), 2) := by decide +kernel
theorem dX4_restore_11 : decode cX4_restore 11 = .ok (.ireturn, 1) := by decide +kernel
theorem dX4_restore_12 : decode cX4_restore 12 = .ok (.aload_n 0, 1) := by decide +kernel
theorem dX4_restore_13 : decode cX4_restore 13 = .ok (.getfield 19, 3) := by decide +kernel
theorem dX4_restore_16 : decode cX4_restore 16 = .ok (.iload_n 1, 1) := by decide +kernel
theorem dX4_restore_17 : decode cX4_restore 17 = .ok (.baload, 1) := by decide +kernel
theorem dX4_restore_18 : decode cX4_restore 18 = .ok (.ifCond .ne 6, 3) := by decide +kernel
theorem dX4_restore_21 : decode cX4_restore 21 = .ok (.bipush (-5), 2) := by decide +kernel
theorem dX4_restore_23 : decode cX4_restore 23 = .ok (.ireturn, 1) := by decide +kernel
theorem dX4_restore_24 : decode cX4_restore 24 = .ok (.aload_n 0, 1) := by decide +kernel
theorem dX4_restore_25 : decode cX4_restore 25 = .ok (.invokevirtual 59, 3) := by decide +kernel
theorem dX4_restore_28 : decode cX4_restore 28 = .ok (.iconst 0, 1) := by decide +kernel
theorem dX4_restore_29 : decode cX4_restore 29 = .ok (.istore_n 2, 1) := by decide +kernel
theorem dX4_restore_30 : decode cX4_restore 30 = .ok (.iload_n 2, 1) := by decide +kernel
theorem dX4_restore_31 : decode cX4_restore 31 = .ok (.sipush 655, 3) := by decide +kernel
theorem dX4_restore_34 : decode cX4_restore 34 = .ok (.if_icmp .ge 27, 3) := by decide +kernel
theorem dX4_restore_37 : decode cX4_restore 37 = .ok (.aload_n 0, 1) := by decide +kernel
theorem dX4_restore_38 : decode cX4_restore 38 = .ok (.getfield 7, 3) := by decide +kernel
theorem dX4_restore_41 : decode cX4_restore 41 = .ok (.iload_n 2, 1) := by decide +kernel
theorem dX4_restore_42 : decode cX4_restore 42 = .ok (.aload_n 0, 1) := by decide +kernel
theorem dX4_restore_43 : decode cX4_restore 43 = .ok (.getfield 16, 3) := by decide +kernel
theorem dX4_restore_46 : decode cX4_restore 46 = .ok (.sipush 655, 3) := by decide +kernel
theorem dX4_restore_49 : decode cX4_restore 49 = .ok (.iload_n 1, 1) := by decide +kernel
theorem dX4_restore_50 : decode cX4_restore 50 = .ok (.imul, 1) := by decide +kernel
theorem dX4_restore_51 : decode cX4_restore 51 = .ok (.iload_n 2, 1) := by decide +kernel
theorem dX4_restore_52 : decode cX4_restore 52 = .ok (.iadd, 1) := by decide +kernel
theorem dX4_restore_53 : decode cX4_restore 53 = .ok (.iaload, 1) := by decide +kernel
theorem dX4_restore_54 : decode cX4_restore 54 = .ok (.iastore, 1) := by decide +kernel
theorem dX4_restore_55 : decode cX4_restore 55 = .ok (.iinc 2 1, 3) := by decide +kernel
theorem dX4_restore_58 : decode cX4_restore 58 = .ok (.goto (-28), 3) := by decide +kernel
theorem dX4_restore_61 : decode cX4_restore 61 = .ok (.aload_n 0, 1) := by decide +kernel
theorem dX4_restore_62 : decode cX4_restore 62 = .ok (.getfield 7, 3) := by decide +kernel
theorem dX4_restore_65 : decode cX4_restore 65 = .ok (.iconst 4, 1) := by decide +kernel
theorem dX4_restore_66 : decode cX4_restore 66 = .ok (.iaload, 1) := by decide +kernel
theorem dX4_restore_67 : decode cX4_restore 67 = .ok (.ireturn, 1) := by decide +kernel
theorem dJ9_abs_0f7a4_0 : decode cJ9_abs_0f7a4 0 = .ok (.iload_n 0, 1) := by decide +kernel
theorem dJ9_abs_0f7a4_1 : decode cJ9_abs_0f7a4 1 = .ok (.ifCond .ge 8, 3) := by decide +kernel
theorem dJ9_abs_0f7a4_4 : decode cJ9_abs_0f7a4 4 = .ok (.iload_n 0, 1) := by decide +kernel
theorem dJ9_abs_0f7a4_5 : decode cJ9_abs_0f7a4 5 = .ok (.ineg, 1) := by decide +kernel
theorem dJ9_abs_0f7a4_6 : decode cJ9_abs_0f7a4 6 = .ok (.goto 4, 3) := by decide +kernel
theorem dJ9_abs_0f7a4_9 : decode cJ9_abs_0f7a4 9 = .ok (.iload_n 0, 1) := by decide +kernel
theorem dJ9_abs_0f7a4_10 : decode cJ9_abs_0f7a4 10 = .ok (.ireturn, 1) := by decide +kernel
theorem dJ9_max_7cf53_0 : decode cJ9_max_7cf53 0 = .ok (.iload_n 0, 1) := by decide +kernel
theorem dJ9_max_7cf53_1 : decode cJ9_max_7cf53 1 = .ok (.iload_n 1, 1) := by decide +kernel
theorem dJ9_max_7cf53_2 : decode cJ9_max_7cf53 2 = .ok (.if_icmp .lt 7, 3) := by decide +kernel
theorem dJ9_max_7cf53_5 : decode cJ9_max_7cf53 5 = .ok (.iload_n 0, 1) := by decide +kernel
theorem dJ9_max_7cf53_6 : decode cJ9_max_7cf53 6 = .ok (.goto 4, 3) := by decide +kernel
theorem dJ9_max_7cf53_9 : decode cJ9_max_7cf53 9 = .ok (.iload_n 1, 1) := by decide +kernel
theorem dJ9_max_7cf53_10 : decode cJ9_max_7cf53 10 = .ok (.ireturn, 1) := by decide +kernel
theorem dJ9_min_7cf53_0 : decode cJ9_min_7cf53 0 = .ok (.iload_n 0, 1) := by decide +kernel
theorem dJ9_min_7cf53_1 : decode cJ9_min_7cf53 1 = .ok (.iload_n 1, 1) := by decide +kernel
theorem dJ9_min_7cf53_2 : decode cJ9_min_7cf53 2 = .ok (.if_icmp .gt 7, 3) := by decide +kernel
theorem dJ9_min_7cf53_5 : decode cJ9_min_7cf53 5 = .ok (.iload_n 0, 1) := by decide +kernel
theorem dJ9_min_7cf53_6 : decode cJ9_min_7cf53 6 = .ok (.goto 4, 3) := by decide +kernel
theorem dJ9_min_7cf53_9 : decode cJ9_min_7cf53 9 = .ok (.iload_n 1, 1) := by decide +kernel
theorem dJ9_min_7cf53_10 : decode cJ9_min_7cf53 10 = .ok (.ireturn, 1) := by decide +kernel
end
section
/-! THE LAYER: the world as a function of a cell's number; one judgement VV, that hides the heap; numbers as iI of an Int -/
section LYR
def iI (z : Int) : Int32 := Int32.ofInt z
def jI (z : Int) : Int64 := Int64.ofInt z
abbrev inR (z : Int) : Prop := -2147483648 ≤ z ∧ z < 2147483648
abbrev inL (z : Int) : Prop := -9223372036854775808 ≤ z ∧ z < 9223372036854775808
theorem iI_toInt {z : Int} (h : inR z) : (iI z).toInt = z := Int32.toInt_ofInt_of_le (by have := h.1; omega) (by have := h.2; omega)
theorem jI_toInt {z : Int} (h : inL z) : (jI z).toInt = z := Int64.toInt_ofInt_of_le (by have := h.1; omega) (by have := h.2; omega)
theorem iI_of (x : Int32) : x = iI x.toInt := (Int32.ofInt_toInt x).symm
theorem jI_of (x : Int64) : x = jI x.toInt := (Int64.ofInt_toInt x).symm
theorem inR_toInt (x : Int32) : inR x.toInt := ⟨by have := Int32.le_toInt x; omega, by have := Int32.toInt_lt x; omega⟩
theorem inL_toInt (x : Int64) : inL x.toInt := ⟨by have := Int64.le_toInt x; omega, by have := Int64.toInt_lt x; omega⟩
theorem iI_add (a b : Int) : iI a + iI b = iI (a + b) := (Int32.ofInt_add a b).symm
theorem iI_sub (a b : Int) : iI a - iI b = iI (a - b) := (Int32.ofInt_sub a b).symm
theorem iI_mul (a b : Int) : iI a * iI b = iI (a * b) := (Int32.ofInt_mul a b).symm
theorem iI_div {a b : Int} (ha : inR a) (h0 : 0 ≤ a) (hb : inR b) (hb0 : 0 < b) : iI a / iI b = iI (a / b) := by
  have h := Int32.ofInt_tdiv (a := a) (b := b) (show (-2147483648 : Int) ≤ a from ha.1) (show a ≤ (2147483647 : Int) from by have := ha.2; omega) (show (-2147483648 : Int) ≤ b from hb.1) (show b ≤ (2147483647 : Int) from by have := hb.2; omega)
  rw [Int.tdiv_eq_ediv_of_nonneg h0] at h
  exact h.symm
theorem iI_lt {a b : Int} (ha : inR a) (hb : inR b) : iI a < iI b ↔ a < b := by rw [Int32.lt_iff_toInt_lt, iI_toInt ha, iI_toInt hb]
theorem iI_le {a b : Int} (ha : inR a) (hb : inR b) : iI a ≤ iI b ↔ a ≤ b := by rw [Int32.le_iff_toInt_le, iI_toInt ha, iI_toInt hb]
theorem iI_eq {a b : Int} (ha : inR a) (hb : inR b) : iI a = iI b ↔ a = b := by rw [← Int32.toInt_inj, iI_toInt ha, iI_toInt hb]
theorem iI_clamp {z : Int} (h : inR z) : (iI z).toNatClampNeg = z.toNat := by
  show (iI z).toInt.toNat = _
  rw [iI_toInt h]
theorem iI_0 : iI 0 = 0 := rfl
theorem inR_nat {n : Nat} (h : n ≤ 2147483647) : inR (n : Int) := ⟨by omega, by omega⟩
theorem iI_vin {z : Int} {k n : Nat} (hz : z = (k : Int)) (hk : k < n) (hn : n ≤ 2147483647) : vp_in (iI z) n := by
  have h : inR z := ⟨by omega, by omega⟩
  rw [vp_in_iff, iI_toInt h]
  omega
theorem iI_ix {z : Int} {k : Nat} (hz : z = (k : Int)) (hk : k ≤ 2147483647) : (iI z).toNatClampNeg = k := by
  rw [iI_clamp ⟨by omega, by omega⟩]
  omega
/-- the world: cell number i lies at ad i and holds f i -/
def hw (ad : Nat → Nat) (f : Nat → va_E) (N : Nat) : va_W := (List.range N).map (fun i => (ad i, f i))
theorem hw_get {ad : Nat → Nat} {f : Nat → va_E} {N i : Nat} (hi : i < N) : (hw ad f N)[i]? = some (ad i, f i) := by simp [hw, hi]
theorem hw_none {ad : Nat → Nat} {f : Nat → va_E} {N i : Nat} (hi : N ≤ i) : (hw ad f N)[i]? = none := by
  rw [List.getElem?_eq_none]
  simp [hw]
  exact hi
theorem hw_some {ad : Nat → Nat} {f : Nat → va_E} {N i : Nat} {q : Nat × va_E} (h : (hw ad f N)[i]? = some q) : i < N ∧ q = (ad i, f i) := by
  rcases Nat.lt_or_ge i N with hi | hi
  · rw [hw_get hi] at h
    exact ⟨hi, (Option.some.inj h).symm⟩
  · rw [hw_none hi] at h
    cases h
theorem hw_set {ad : Nat → Nat} {f : Nat → va_E} {N i : Nat} {e : va_E} (hi : i < N) : (hw ad f N).set i (ad i, e) = hw ad (va_up f i e) N := by
  refine List.ext_getElem? fun k => ?_
  by_cases h : k = i
  · subst h
    rw [List.getElem?_set_self (by simp [hw]; exact hi), hw_get hi]
    simp [va_up]
  · rw [List.getElem?_set_ne (Ne.symm h)]
    rcases Nat.lt_or_ge k N with hk | hk
    · rw [hw_get hk, hw_get hk]
      simp [va_up, h]
    · rw [hw_none hk, hw_none hk]
theorem hw_push {ad : Nat → Nat} {f : Nat → va_E} {N q : Nat} {e : va_E} : hw ad f N ++ [(q, e)] = hw (va_up ad N q) (va_up f N e) (N + 1) := by
  refine List.ext_getElem? fun k => ?_
  have hlen : (hw ad f N).length = N := by simp [hw]
  rcases Nat.lt_trichotomy k N with h | h | h
  · rw [List.getElem?_append_left (by rw [hlen]; exact h), hw_get h, hw_get (by omega)]
    simp [va_up, Nat.ne_of_lt h]
  · subst h
    rw [List.getElem?_append_right (by rw [hlen]; exact Nat.le_refl _), hlen, hw_get (Nat.lt_succ_self _)]
    simp [va_up]
  · rw [List.getElem?_append_right (by rw [hlen]; omega), hlen, hw_none (by omega), List.getElem?_eq_none]
    simp
    omega
/-- cells: rows of ints, of booleans, of States, of Words; objects -/
abbrev eI (tc : Nat → ClassId) (n : Nat) (g : Nat → Int32) : va_E := .inl (tc 0, n, .inl g)
abbrev eB (tc : Nat → ClassId) (n : Nat) (g : Nat → Int32) : va_E := .inl (tc 1, n, .inl g)
abbrev eS (tc : Nat → ClassId) (n : Nat) (g : Nat → Option Nat) : va_E := .inl (tc 2, n, .inr (.inr (.inr (.inr g))))
abbrev eW (tc : Nat → ClassId) (n : Nat) (g : Nat → Option Nat) : va_E := .inl (tc 3, n, .inr (.inr (.inr (.inr g))))
abbrev eO (ci : Nat) (fs : List Value) : va_E := .inr (ci, fs)
def tyL (tc : Nat → ClassId) : List (ClassId × FieldType) := [(tc 0, .int), (tc 1, .boolean), (tc 2, .object RX1), (tc 3, .object RX2)]
/-- two cells that no one can tell apart: rows may differ behind their ends -/
def ceq (a b : va_E) : Prop := a = b ∨ ∃ (c : ClassId) (n : Nat) (g h : Nat → Int32), a = .inl (c, n, .inl g) ∧ b = .inl (c, n, .inl h) ∧ ∀ j, j < n → g j = h j
theorem ceq.at {D : va_G} {cl : List vw_C} {a : Nat} {x y : va_E} {H : Heap} (h : ceq x y) (hx : va_at D cl (a, x) H) : va_at D cl (a, y) H := by
  rcases h with rfl | ⟨c, n, g, h, rfl, rfl, e⟩
  · exact hx
  · show H[a]? = some (vp_cell c (n, .inl h))
    have hx : H[a]? = some (vp_cell c (n, .inl g)) := hx
    rw [hx, vp_cell_i, vp_cell_i]
    unfold arrV
    congr 3
    funext j
    show Value.int (g j.val) = Value.int (h j.val)
    rw [e j.val j.isLt]
/-- the class's three tables -/
def lS : Nat → Int := fun j => if j = 3 then 0 else 1
def mS : Nat → Int := fun j => if j = 0 then 4 else if j = 1 then 32 else 1000002
def fS : Nat → Int := fun j => if j = 0 then 3 else if j = 1 then 8 else if j = 2 then 7919 else 104729
def st_T (nm : String) (g : Nat → Int) (A : Nat → Prop) (U : State) (H : Heap) : Prop := ∃ t : Nat, va_Z RX3 nm "[I" (.ref t) A U H ∧ va_X t 4 (fun j => iI (g j)) U H ∧ t < H.size ∧ ¬ A t
def SS (A : Nat → Prop) (U : State) (H : Heap) : Prop := (st_T "LEAST_SETTING" lS A U H ∧ st_T "MOST_SETTING" mS A U H ∧ st_T "FIRST_SETTING" fS A U H) ∧ va_Nw (.methodLinkNest RX0 59 yX3_shareDown RX3) U ∧ va_Nw (.methodLinkNest RX0 65 yX3_shareUp RX3) U ∧ va_Nw (.fieldLinkNest RX1 25 RX3 "FIRST_SETTING" "[I" RX3) U ∧ va_AO RX1 U ∧ va_AO RX2 U
end LYR
section LYR2
/-- all that stays fixed in one method's walk -/
abbrev XT : Type := (va_G × (Nat → ClassId)) × (Program × Launch × Env × State × MethodId × Array Value) × (List Frame × Method × Code × Room × Nat) × (Nat → Prop) × (State → Prop)
/-- from pc, with these locals and this stack, over the world f, the walk comes to its end; k cells of n slots are made so far -/
def VV (X : XT) (ad : Nat → Nat) (N : Nat) (f : Nat → va_E) (k n : Nat) (pc : Nat) (lv : List (Nat × Value)) (st : List Value) : Prop :=
  ∀ (H : Heap) (locs : List Loc) (ls : Array Slot), va_P X.1.1 vwCl (hw ad f N) H → va_D X.2.2.2.1 (hw ad f N) → va_S X.2.2.2.1 X.2.1.2.2.2.1.heap H locs → lv_has ls X.2.2.1.2.2.2.2 lv →
    W X.2.1.1 X.2.1.2.1 X.2.1.2.2.1 X.2.2.1.2.2.2.1 X.2.1.2.2.2.1 X.2.1.2.2.2.2.1 X.2.1.2.2.2.2.2 X.2.2.1.1 X.2.2.1.2.1 X.2.2.1.2.2.1 H locs k n X.2.2.2.2 (F0 X.2.1.2.2.2.2.1 pc ls st)
def CC (X : XT) (G : va_G) (tc : Nat → ClassId) (l : Launch) (cc : ByteArray) (own : String) (Ts : List Cond) (nL : Nat) (R : Room) : Prop :=
  (X.1.1 = G ∧ X.1.2 = tc ∧ X.2.1.2.1 = l ∧ X.2.2.1.2.2.2.1 = R ∧ X.2.2.1.2.2.2.2 = nL) ∧
  CallFix X.2.1.1 X.2.1.2.2.2.2.1 X.2.2.1.2.2.1 cc nL X.2.1.2.2.2.1 X.2.1.2.2.2.2.2 Ts own ∧
  va_K X.1.1 vwCl (tyL X.1.2) X.2.1.2.2.2.1 ∧ SS X.2.2.2.1 X.2.1.2.2.2.1 X.2.1.2.2.2.1.heap ∧ (∀ q : Nat, X.2.1.2.2.2.1.heap.size ≤ q → X.2.2.2.1 q) ∧ X.2.2.1.2.1.locks = false
def lg : List (Nat × Value) → Nat → Option Value
  | [], _ => none
  | (j, v) :: r, i => if j = i then some v else lg r i
theorem lg_mem : ∀ {lv : List (Nat × Value)} {i : Nat} {v : Value}, lg lv i = some v → (i, v) ∈ lv
  | [], _, _, h => by cases h
  | (j, w) :: r, i, v, h => by
    unfold lg at h
    split at h
    · rename_i e
      subst e
      cases h
      exact List.mem_cons_self
    · exact List.mem_cons_of_mem _ (lg_mem h)
theorem lg_at {ls : Array Slot} {nL : Nat} {lv : List (Nat × Value)} (h : lv_has ls nL lv) {i : Nat} {v : Value} (hl : lg lv i = some v) : ls[i]? = some (.val v) := h.2.2 (i, v) (lg_mem hl)
def lins (i : Nat) (v : Value) : List (Nat × Value) → List (Nat × Value)
  | [] => [(i, v)]
  | (j, w) :: r => if i < j then (i, v) :: (j, w) :: r else (j, w) :: lins i v r
theorem lins_mem {i : Nat} {v : Value} : ∀ {l : List (Nat × Value)} {q : Nat × Value}, q ∈ lins i v l → q = (i, v) ∨ q ∈ l
  | [], q, h => Or.inl (List.mem_singleton.mp h)
  | (j, w) :: r, q, h => by
    unfold lins at h
    split at h
    · rcases List.mem_cons.mp h with h | h
      · exact Or.inl h
      · exact Or.inr h
    · rcases List.mem_cons.mp h with h | h
      · exact Or.inr (by rw [h]; exact List.mem_cons_self)
      · rcases lins_mem h with h | h
        · exact Or.inl h
        · exact Or.inr (List.mem_cons_of_mem _ h)
def lst (lv : List (Nat × Value)) (i : Nat) (v : Value) : List (Nat × Value) := lins i v (lv.filter (fun q => !(q.1 == i) && !(q.1 + 1 == i && q.2.category == 2)))
def lst2 (lv : List (Nat × Value)) (i : Nat) (v : Value) : List (Nat × Value) := lins i v (lv.filter (fun q => !(q.1 == i) && (!(q.1 == i + 1) && !(q.1 + 1 == i && q.2.category == 2))))
theorem lins_has {ls : Array Slot} {nL i : Nat} {v : Value} {l : List (Nat × Value)} (h : lv_has ls nL ((i, v) :: l)) : lv_has ls nL (lins i v l) := by
  refine ⟨h.1, h.2.1, fun q hq => h.2.2 q ?_⟩
  rcases lins_mem hq with e | e
  · rw [e]; exact List.mem_cons_self
  · exact List.mem_cons_of_mem _ e
variable {X : XT} {G : va_G} {tc : Nat → ClassId} {l : Launch} {cc : ByteArray} {own : String} {Ts : List Cond} {nL : Nat} {R : Room} {ad : Nat → Nat} {N : Nat} {f : Nat → va_E} {k n pc : Nat} {lv lv' : List (Nat × Value)} {st : List Value}
theorem r_iconst (C : CC X G tc l cc own Ts nL R) {z : Int} (w : Int) (hw : Int32.ofInt z = iI w) (hdg : decode cc pc = .ok (.iconst z, 1)) (kk : VV X ad N f k n (pc + 1) lv (.int (iI w) :: st)) : VV X ad N f k n pc lv st :=
  fun H locs ls hP hD hS hl => lv_iconst C.2.1.1 C.2.1.2.1 hdg hw (kk H locs ls hP hD hS hl)
theorem r_bipush (C : CC X G tc l cc own Ts nL R) {z : Int} (w : Int) (hv : (Int8.ofInt z).toInt32 = iI w) (hdg : decode cc pc = .ok (.bipush z, 2)) (kk : VV X ad N f k n (pc + 2) lv (.int (iI w) :: st)) : VV X ad N f k n pc lv st :=
  fun H locs ls hP hD hS hl => lv_bipush C.2.1.1 C.2.1.2.1 hdg hv (kk H locs ls hP hD hS hl)
theorem r_sipush (C : CC X G tc l cc own Ts nL R) {z : Int} (w : Int) (hv : (Int16.ofInt z).toInt32 = iI w) (hdg : decode cc pc = .ok (.sipush z, 3)) (kk : VV X ad N f k n (pc + 3) lv (.int (iI w) :: st)) : VV X ad N f k n pc lv st :=
  fun H locs ls hP hD hS hl => lv_sipush C.2.1.1 C.2.1.2.1 hdg hv (kk H locs ls hP hD hS hl)
theorem r_ldc (C : CC X G tc l cc own Ts nL R) (w : Int) {index : Nat} {v : Int32} (hv : v = iI w) (hc : (Cond.constant own index v) ∈ Ts) (hdg : decode cc pc = .ok (.ldc index, 2)) (kk : VV X ad N f k n (pc + 2) lv (.int (iI w) :: st)) : VV X ad N f k n pc lv st := by
  subst hv
  exact fun H locs ls hP hD hS hl => lv_ldc C.2.1.1 C.2.1.2.1 C.2.1.2.2.2.1 (C.2.1.2.2.2.2 _ hc) hdg (kk H locs ls hP hD hS hl)
theorem r_ldc2 (C : CC X G tc l cc own Ts nL R) (w : Int) {index : Nat} {v : Int64} (hv : v = jI w) (hc : (Cond.constantLong own index v) ∈ Ts) (hdg : decode cc pc = .ok (.ldc2_w index, 3)) (kk : VV X ad N f k n (pc + 3) lv (.long (jI w) :: st)) : VV X ad N f k n pc lv st := by
  subst hv
  exact fun H locs ls hP hD hS hl => lv_ldc2 C.2.1.1 C.2.1.2.1 C.2.1.2.2.2.1 (C.2.1.2.2.2.2 _ hc) hdg (kk H locs ls hP hD hS hl)
theorem r_lconst (C : CC X G tc l cc own Ts nL R) {b : Fin 2} (z : Int) (hv : Int64.ofNat (b : Nat) = jI z) (hdg : decode cc pc = .ok (.lconst b, 1)) (kk : VV X ad N f k n (pc + 1) lv (.long (jI z) :: st)) : VV X ad N f k n pc lv st :=
  fun H locs ls hP hD hS hl => lv_lconst C.2.1.1 C.2.1.2.1 hdg hv (kk H locs ls hP hD hS hl)
theorem r_iload_n (C : CC X G tc l cc own Ts nL R) {b : Fin 4} {i : Nat} {x : Int32} (hdg : decode cc pc = .ok (.iload_n b, 1)) (hi : (b : Nat) = i) (hg : lg lv i = some (.int x)) (kk : VV X ad N f k n (pc + 1) lv (.int x :: st)) : VV X ad N f k n pc lv st :=
  fun H locs ls hP hD hS hl => lv_iload_n C.2.1.1 C.2.1.2.1 hdg hi (lg_at hl hg) (kk H locs ls hP hD hS hl)
theorem r_iload (C : CC X G tc l cc own Ts nL R) {i : Nat} {x : Int32} (hdg : decode cc pc = .ok (.iload i, 2)) (hg : lg lv i = some (.int x)) (kk : VV X ad N f k n (pc + 2) lv (.int x :: st)) : VV X ad N f k n pc lv st :=
  fun H locs ls hP hD hS hl => lv_iload C.2.1.1 C.2.1.2.1 hdg (lg_at hl hg) (kk H locs ls hP hD hS hl)
theorem r_lload_n (C : CC X G tc l cc own Ts nL R) {b : Fin 4} {i : Nat} {x : Int64} (hdg : decode cc pc = .ok (.lload_n b, 1)) (hi : (b : Nat) = i) (hg : lg lv i = some (.long x)) (kk : VV X ad N f k n (pc + 1) lv (.long x :: st)) : VV X ad N f k n pc lv st :=
  fun H locs ls hP hD hS hl => lv_lload_n C.2.1.1 C.2.1.2.1 hdg hi (lg_at hl hg) (kk H locs ls hP hD hS hl)
theorem r_lload (C : CC X G tc l cc own Ts nL R) {i : Nat} {x : Int64} (hdg : decode cc pc = .ok (.lload i, 2)) (hg : lg lv i = some (.long x)) (kk : VV X ad N f k n (pc + 2) lv (.long x :: st)) : VV X ad N f k n pc lv st :=
  fun H locs ls hP hD hS hl => lv_lload C.2.1.1 C.2.1.2.1 hdg (lg_at hl hg) (kk H locs ls hP hD hS hl)
theorem r_aload_n (C : CC X G tc l cc own Ts nL R) {b : Fin 4} {i : Nat} {x : Nat} (hdg : decode cc pc = .ok (.aload_n b, 1)) (hi : (b : Nat) = i) (hg : lg lv i = some (.ref x)) (kk : VV X ad N f k n (pc + 1) lv (.ref x :: st)) : VV X ad N f k n pc lv st :=
  fun H locs ls hP hD hS hl => lv_aload_n C.2.1.1 C.2.1.2.1 hdg hi (lg_at hl hg) (kk H locs ls hP hD hS hl)
theorem r_aload (C : CC X G tc l cc own Ts nL R) {i : Nat} {x : Nat} (hdg : decode cc pc = .ok (.aload i, 2)) (hg : lg lv i = some (.ref x)) (kk : VV X ad N f k n (pc + 2) lv (.ref x :: st)) : VV X ad N f k n pc lv st :=
  fun H locs ls hP hD hS hl => lv_aload C.2.1.1 C.2.1.2.1 hdg (lg_at hl hg) (kk H locs ls hP hD hS hl)
theorem r_istore_n (C : CC X G tc l cc own Ts nL R) {b : Fin 4} {i : Nat} {x : Int32} (hdg : decode cc pc = .ok (.istore_n b, 1)) (hi : (b : Nat) = i) (hn : i < nL) (hs : lst lv i (.int x) = lv') (kk : VV X ad N f k n (pc + 1) lv' st) : VV X ad N f k n pc lv (.int x :: st) :=
  fun H locs ls hP hD hS hl => lv_istore_n C.2.1.1 C.2.1.2.1 hdg hi hl (by rw [C.1.2.2.2.2]; exact hn) rfl (fun ls' h' => kk H locs ls' hP hD hS (hs ▸ lins_has h'))
theorem r_istore (C : CC X G tc l cc own Ts nL R) {i : Nat} {x : Int32} (hdg : decode cc pc = .ok (.istore i, 2)) (hn : i < nL) (hs : lst lv i (.int x) = lv') (kk : VV X ad N f k n (pc + 2) lv' st) : VV X ad N f k n pc lv (.int x :: st) :=
  fun H locs ls hP hD hS hl => lv_istore C.2.1.1 C.2.1.2.1 hdg hl (by rw [C.1.2.2.2.2]; exact hn) rfl (fun ls' h' => kk H locs ls' hP hD hS (hs ▸ lins_has h'))
theorem r_lstore_n (C : CC X G tc l cc own Ts nL R) {b : Fin 4} {i : Nat} {x : Int64} (hdg : decode cc pc = .ok (.lstore_n b, 1)) (hi : (b : Nat) = i) (hn : i + 1 < nL) (hs : lst2 lv i (.long x) = lv') (kk : VV X ad N f k n (pc + 1) lv' st) : VV X ad N f k n pc lv (.long x :: st) :=
  fun H locs ls hP hD hS hl => lv_lstore_n C.2.1.1 C.2.1.2.1 hdg hi hl (by rw [C.1.2.2.2.2]; exact hn) rfl (fun ls' h' => kk H locs ls' hP hD hS (hs ▸ lins_has h'))
theorem r_lstore (C : CC X G tc l cc own Ts nL R) {i : Nat} {x : Int64} (hdg : decode cc pc = .ok (.lstore i, 2)) (hn : i + 1 < nL) (hs : lst2 lv i (.long x) = lv') (kk : VV X ad N f k n (pc + 2) lv' st) : VV X ad N f k n pc lv (.long x :: st) :=
  fun H locs ls hP hD hS hl => lv_lstore C.2.1.1 C.2.1.2.1 hdg hl (by rw [C.1.2.2.2.2]; exact hn) rfl (fun ls' h' => kk H locs ls' hP hD hS (hs ▸ lins_has h'))
theorem r_astore_n (C : CC X G tc l cc own Ts nL R) {b : Fin 4} {i : Nat} {x : Nat} (hdg : decode cc pc = .ok (.astore_n b, 1)) (hi : (b : Nat) = i) (hn : i < nL) (hs : lst lv i (.ref x) = lv') (kk : VV X ad N f k n (pc + 1) lv' st) : VV X ad N f k n pc lv (.ref x :: st) :=
  fun H locs ls hP hD hS hl => lv_astore_n C.2.1.1 C.2.1.2.1 hdg hi hl (by rw [C.1.2.2.2.2]; exact hn) rfl (fun ls' h' => kk H locs ls' hP hD hS (hs ▸ lins_has h'))
theorem r_astore (C : CC X G tc l cc own Ts nL R) {i : Nat} {x : Nat} (hdg : decode cc pc = .ok (.astore i, 2)) (hn : i < nL) (hs : lst lv i (.ref x) = lv') (kk : VV X ad N f k n (pc + 2) lv' st) : VV X ad N f k n pc lv (.ref x :: st) :=
  fun H locs ls hP hD hS hl => lv_astore C.2.1.1 C.2.1.2.1 hdg hl (by rw [C.1.2.2.2.2]; exact hn) rfl (fun ls' h' => kk H locs ls' hP hD hS (hs ▸ lins_has h'))
theorem r_iinc (C : CC X G tc l cc own Ts nL R) {i : Nat} {d z : Int} (w : Int) (hw : z + d = w) (hdg : decode cc pc = .ok (.iinc i d, 3)) (hg : lg lv i = some (.int (iI z))) (hn : i < nL) (hs : lst lv i (.int (iI w)) = lv') (kk : VV X ad N f k n (pc + 3) lv' st) : VV X ad N f k n pc lv st := by
  intro H locs ls hP hD hS hl
  obtain ⟨j, hj⟩ := List.getElem?_of_mem (lg_mem hg)
  exact lv_iinc (k := j) C.2.1.1 C.2.1.2.1 hdg hl hj (hw ▸ iI_add z d) (by rw [C.1.2.2.2.2]; exact hn) rfl (fun ls' h' => kk H locs ls' hP hD hS (hs ▸ lins_has h'))
theorem r_iadd (C : CC X G tc l cc own Ts nL R) {a b : Int} (w : Int) (hw : a + b = w) (hdg : decode cc pc = .ok (.iadd, 1)) (kk : VV X ad N f k n (pc + 1) lv (.int (iI w) :: st)) : VV X ad N f k n pc lv (.int (iI b) :: .int (iI a) :: st) :=
  fun H locs ls hP hD hS hl => lv_iadd C.2.1.1 C.2.1.2.1 hdg (by rw [iI_add, hw]; exact kk H locs ls hP hD hS hl)
theorem r_isub (C : CC X G tc l cc own Ts nL R) {a b : Int} (w : Int) (hw : a - b = w) (hdg : decode cc pc = .ok (.isub, 1)) (kk : VV X ad N f k n (pc + 1) lv (.int (iI w) :: st)) : VV X ad N f k n pc lv (.int (iI b) :: .int (iI a) :: st) :=
  fun H locs ls hP hD hS hl => lv_isub C.2.1.1 C.2.1.2.1 hdg (by rw [iI_sub, hw]; exact kk H locs ls hP hD hS hl)
theorem r_imul (C : CC X G tc l cc own Ts nL R) {a b : Int} (w : Int) (hw : a * b = w) (hdg : decode cc pc = .ok (.imul, 1)) (kk : VV X ad N f k n (pc + 1) lv (.int (iI w) :: st)) : VV X ad N f k n pc lv (.int (iI b) :: .int (iI a) :: st) :=
  fun H locs ls hP hD hS hl => lv_imul C.2.1.1 C.2.1.2.1 hdg (by rw [iI_mul, hw]; exact kk H locs ls hP hD hS hl)
theorem r_idiv (C : CC X G tc l cc own Ts nL R) {a b : Int} (w : Int) (hw : a / b = w) (ha : inR a) (h0 : 0 ≤ a) (hb : inR b) (hb0 : 0 < b) (hdg : decode cc pc = .ok (.idiv, 1)) (kk : VV X ad N f k n (pc + 1) lv (.int (iI w) :: st)) : VV X ad N f k n pc lv (.int (iI b) :: .int (iI a) :: st) :=
  fun H locs ls hP hD hS hl => lv_idiv C.2.1.1 C.2.1.2.1 hdg (fun e => by rw [← iI_0, iI_eq hb ⟨by decide, by decide⟩] at e; omega) (by rw [iI_div ha h0 hb hb0, hw]; exact kk H locs ls hP hD hS hl)
theorem r_ineg (C : CC X G tc l cc own Ts nL R) {a : Int} (hdg : decode cc pc = .ok (.ineg, 1)) (kk : VV X ad N f k n (pc + 1) lv (.int (iI (-a)) :: st)) : VV X ad N f k n pc lv (.int (iI a) :: st) :=
  fun H locs ls hP hD hS hl => lv_ineg C.2.1.1 C.2.1.2.1 hdg (by have e : -(iI a) = iI (-a) := (Int32.ofInt_neg a).symm; first | (rw [e]; exact kk H locs ls hP hD hS hl) | (rw [show (0 : Int32) - iI a = iI (-a) from by rw [← e, Int32.zero_sub]]; exact kk H locs ls hP hD hS hl))
theorem r_iand (C : CC X G tc l cc own Ts nL R) {x y : Int32} (hdg : decode cc pc = .ok (.iand, 1)) (kk : VV X ad N f k n (pc + 1) lv (.int (x &&& y) :: st)) : VV X ad N f k n pc lv (.int y :: .int x :: st) :=
  fun H locs ls hP hD hS hl => lv_iand C.2.1.1 C.2.1.2.1 hdg (kk H locs ls hP hD hS hl)
theorem r_ior (C : CC X G tc l cc own Ts nL R) {x y : Int32} (hdg : decode cc pc = .ok (.ior, 1)) (kk : VV X ad N f k n (pc + 1) lv (.int (x ||| y) :: st)) : VV X ad N f k n pc lv (.int y :: .int x :: st) :=
  fun H locs ls hP hD hS hl => lv_ior C.2.1.1 C.2.1.2.1 hdg (kk H locs ls hP hD hS hl)
theorem r_ixor (C : CC X G tc l cc own Ts nL R) {x y : Int32} (hdg : decode cc pc = .ok (.ixor, 1)) (kk : VV X ad N f k n (pc + 1) lv (.int (x ^^^ y) :: st)) : VV X ad N f k n pc lv (.int y :: .int x :: st) :=
  fun H locs ls hP hD hS hl => lv_ixor C.2.1.1 C.2.1.2.1 hdg (kk H locs ls hP hD hS hl)
theorem r_ishl (C : CC X G tc l cc own Ts nL R) {x y : Int32} (hdg : decode cc pc = .ok (.ishl, 1)) (kk : VV X ad N f k n (pc + 1) lv (.int (x <<< (y &&& 31)) :: st)) : VV X ad N f k n pc lv (.int y :: .int x :: st) :=
  fun H locs ls hP hD hS hl => lv_ishl C.2.1.1 C.2.1.2.1 hdg (kk H locs ls hP hD hS hl)
theorem r_ishr (C : CC X G tc l cc own Ts nL R) {x y : Int32} (hdg : decode cc pc = .ok (.ishr, 1)) (kk : VV X ad N f k n (pc + 1) lv (.int (x >>> (y &&& 31)) :: st)) : VV X ad N f k n pc lv (.int y :: .int x :: st) :=
  fun H locs ls hP hD hS hl => lv_ishr C.2.1.1 C.2.1.2.1 hdg (kk H locs ls hP hD hS hl)
theorem r_i2l (C : CC X G tc l cc own Ts nL R) {x : Int32} (hdg : decode cc pc = .ok (.i2l, 1)) (kk : VV X ad N f k n (pc + 1) lv (.long x.toInt64 :: st)) : VV X ad N f k n pc lv (.int x :: st) :=
  fun H locs ls hP hD hS hl => lv_i2l C.2.1.1 C.2.1.2.1 hdg rfl (kk H locs ls hP hD hS hl)
theorem r_l2i (C : CC X G tc l cc own Ts nL R) {x : Int64} (hdg : decode cc pc = .ok (.l2i, 1)) (kk : VV X ad N f k n (pc + 1) lv (.int x.toInt32 :: st)) : VV X ad N f k n pc lv (.long x :: st) :=
  fun H locs ls hP hD hS hl => lv_l2i C.2.1.1 C.2.1.2.1 hdg rfl (kk H locs ls hP hD hS hl)
theorem r_ladd (C : CC X G tc l cc own Ts nL R) {x y : Int64} (hdg : decode cc pc = .ok (.ladd, 1)) (kk : VV X ad N f k n (pc + 1) lv (.long (x + y) :: st)) : VV X ad N f k n pc lv (.long y :: .long x :: st) :=
  fun H locs ls hP hD hS hl => lv_ladd C.2.1.1 C.2.1.2.1 hdg (kk H locs ls hP hD hS hl)
theorem r_lmul (C : CC X G tc l cc own Ts nL R) {x y : Int64} (hdg : decode cc pc = .ok (.lmul, 1)) (kk : VV X ad N f k n (pc + 1) lv (.long (x * y) :: st)) : VV X ad N f k n pc lv (.long y :: .long x :: st) :=
  fun H locs ls hP hD hS hl => lv_lmul C.2.1.1 C.2.1.2.1 hdg (kk H locs ls hP hD hS hl)
theorem r_lrem (C : CC X G tc l cc own Ts nL R) {x y : Int64} (hdg : decode cc pc = .ok (.lrem, 1)) (hne : ¬ y = 0) (kk : VV X ad N f k n (pc + 1) lv (.long (x - x / y * y) :: st)) : VV X ad N f k n pc lv (.long y :: .long x :: st) :=
  fun H locs ls hP hD hS hl => lv_lrem C.2.1.1 C.2.1.2.1 hdg hne (kk H locs ls hP hD hS hl)
theorem r_land (C : CC X G tc l cc own Ts nL R) {x y : Int64} (hdg : decode cc pc = .ok (.land, 1)) (kk : VV X ad N f k n (pc + 1) lv (.long (x &&& y) :: st)) : VV X ad N f k n pc lv (.long y :: .long x :: st) :=
  fun H locs ls hP hD hS hl => lv_land C.2.1.1 C.2.1.2.1 hdg (kk H locs ls hP hD hS hl)
theorem r_lor (C : CC X G tc l cc own Ts nL R) {x y : Int64} (hdg : decode cc pc = .ok (.lor, 1)) (kk : VV X ad N f k n (pc + 1) lv (.long (x ||| y) :: st)) : VV X ad N f k n pc lv (.long y :: .long x :: st) :=
  fun H locs ls hP hD hS hl => lv_lor C.2.1.1 C.2.1.2.1 hdg (kk H locs ls hP hD hS hl)
theorem r_lshl (C : CC X G tc l cc own Ts nL R) {x : Int64} {y : Int32} (hdg : decode cc pc = .ok (.lshl, 1)) (kk : VV X ad N f k n (pc + 1) lv (.long (x <<< (y.toInt64 &&& 63)) :: st)) : VV X ad N f k n pc lv (.int y :: .long x :: st) :=
  fun H locs ls hP hD hS hl => lv_lshl C.2.1.1 C.2.1.2.1 hdg rfl (kk H locs ls hP hD hS hl)
theorem r_lshr (C : CC X G tc l cc own Ts nL R) {x : Int64} {y : Int32} (hdg : decode cc pc = .ok (.lshr, 1)) (kk : VV X ad N f k n (pc + 1) lv (.long (x >>> (y.toInt64 &&& 63)) :: st)) : VV X ad N f k n pc lv (.int y :: .long x :: st) :=
  fun H locs ls hP hD hS hl => lv_lshr C.2.1.1 C.2.1.2.1 hdg rfl (kk H locs ls hP hD hS hl)
theorem r_lushr (C : CC X G tc l cc own Ts nL R) {x : Int64} {y : Int32} (hdg : decode cc pc = .ok (.lushr, 1)) (kk : VV X ad N f k n (pc + 1) lv (.long ((x.toUInt64 >>> (y.toInt64.toUInt64 &&& Int64.toUInt64 63)).toInt64) :: st)) : VV X ad N f k n pc lv (.int y :: .long x :: st) :=
  fun H locs ls hP hD hS hl => lv_lushr C.2.1.1 C.2.1.2.1 hdg rfl (kk H locs ls hP hD hS hl)
theorem r_dup (C : CC X G tc l cc own Ts nL R) {v : Value} (hdg : decode cc pc = .ok (.dup, 1)) (hv : v.category = 1) (kk : VV X ad N f k n (pc + 1) lv (v :: v :: st)) : VV X ad N f k n pc lv (v :: st) :=
  fun H locs ls hP hD hS hl => lv_dup C.2.1.1 C.2.1.2.1 hdg hv (kk H locs ls hP hD hS hl)
theorem r_dup2 (C : CC X G tc l cc own Ts nL R) {v w : Value} (hdg : decode cc pc = .ok (.dup2, 1)) (hv : v.category = 1) (hw : w.category = 1) (kk : VV X ad N f k n (pc + 1) lv (v :: w :: v :: w :: st)) : VV X ad N f k n pc lv (v :: w :: st) :=
  fun H locs ls hP hD hS hl => lv_dup2_11 C.2.1.1 C.2.1.2.1 hdg hv hw (kk H locs ls hP hD hS hl)
theorem r_goto (C : CC X G tc l cc own Ts nL R) {off : Int} {tgt : Nat} (hdg : decode cc pc = .ok (.goto off, 3)) (ht : (pc : Int) + off = (tgt : Int)) (kk : VV X ad N f k n tgt lv st) : VV X ad N f k n pc lv st :=
  fun H locs ls hP hD hS hl => lv_goto C.2.1.1 C.2.1.2.1 hdg ht (kk H locs ls hP hD hS hl)
theorem r_sub {ks : List Nat} (hs : lv_pick lv ks = lv') (kk : VV X ad N f k n pc lv' st) : VV X ad N f k n pc lv st :=
  fun H locs ls hP hD hS hl => kk H locs ls hP hD hS (lv_sub hl ks hs)
theorem r_if_eq (C : CC X G tc l cc own Ts nL R) {z off : Int} {tgt : Nat} (hz : inR z) (hdg : decode cc pc = .ok (.ifCond .eq off, 3)) (ht : (pc : Int) + off = (tgt : Int)) (kt : z = 0 → VV X ad N f k n tgt lv st) (kf : ¬ z = 0 → VV X ad N f k n (pc + 3) lv st) : VV X ad N f k n pc lv (.int (iI z) :: st) := by
  intro H locs ls hP hD hS hl
  have q0 : inR 0 := ⟨by decide, by decide⟩
  refine lv_if_eq C.2.1.1 C.2.1.2.1 hdg ht (fun h => kt ?_ H locs ls hP hD hS hl) (fun h => kf ?_ H locs ls hP hD hS hl)
  · rw [← iI_0, iI_eq hz q0] at h
    exact h
  · rw [← iI_0, iI_eq hz q0] at h
    exact h
theorem r_icmp_eq (C : CC X G tc l cc own Ts nL R) {a b off : Int} {tgt : Nat} (ha : inR a) (hb : inR b) (hdg : decode cc pc = .ok (.if_icmp .eq off, 3)) (ht : (pc : Int) + off = (tgt : Int)) (kt : a = b → VV X ad N f k n tgt lv st) (kf : ¬ a = b → VV X ad N f k n (pc + 3) lv st) : VV X ad N f k n pc lv (.int (iI b) :: .int (iI a) :: st) := by
  intro H locs ls hP hD hS hl
  refine lv_icmp_eq C.2.1.1 C.2.1.2.1 hdg ht (fun h => kt ?_ H locs ls hP hD hS hl) (fun h => kf ?_ H locs ls hP hD hS hl)
  · rw [iI_eq ha hb] at h
    exact h
  · rw [iI_eq ha hb] at h
    exact h
theorem r_if_ne (C : CC X G tc l cc own Ts nL R) {z off : Int} {tgt : Nat} (hz : inR z) (hdg : decode cc pc = .ok (.ifCond .ne off, 3)) (ht : (pc : Int) + off = (tgt : Int)) (kt : ¬ z = 0 → VV X ad N f k n tgt lv st) (kf : z = 0 → VV X ad N f k n (pc + 3) lv st) : VV X ad N f k n pc lv (.int (iI z) :: st) := by
  intro H locs ls hP hD hS hl
  have q0 : inR 0 := ⟨by decide, by decide⟩
  refine lv_if_ne C.2.1.1 C.2.1.2.1 hdg ht (fun h => kt ?_ H locs ls hP hD hS hl) (fun h => kf ?_ H locs ls hP hD hS hl)
  · rw [← iI_0, iI_eq hz q0] at h
    exact h
  · rw [← iI_0, iI_eq hz q0] at h
    exact h
theorem r_icmp_ne (C : CC X G tc l cc own Ts nL R) {a b off : Int} {tgt : Nat} (ha : inR a) (hb : inR b) (hdg : decode cc pc = .ok (.if_icmp .ne off, 3)) (ht : (pc : Int) + off = (tgt : Int)) (kt : ¬ a = b → VV X ad N f k n tgt lv st) (kf : a = b → VV X ad N f k n (pc + 3) lv st) : VV X ad N f k n pc lv (.int (iI b) :: .int (iI a) :: st) := by
  intro H locs ls hP hD hS hl
  refine lv_icmp_ne C.2.1.1 C.2.1.2.1 hdg ht (fun h => kt ?_ H locs ls hP hD hS hl) (fun h => kf ?_ H locs ls hP hD hS hl)
  · rw [iI_eq ha hb] at h
    exact h
  · rw [iI_eq ha hb] at h
    exact h
theorem r_if_lt (C : CC X G tc l cc own Ts nL R) {z off : Int} {tgt : Nat} (hz : inR z) (hdg : decode cc pc = .ok (.ifCond .lt off, 3)) (ht : (pc : Int) + off = (tgt : Int)) (kt : z < 0 → VV X ad N f k n tgt lv st) (kf : ¬ z < 0 → VV X ad N f k n (pc + 3) lv st) : VV X ad N f k n pc lv (.int (iI z) :: st) := by
  intro H locs ls hP hD hS hl
  have q0 : inR 0 := ⟨by decide, by decide⟩
  refine lv_if_lt C.2.1.1 C.2.1.2.1 hdg ht (fun h => kt ?_ H locs ls hP hD hS hl) (fun h => kf ?_ H locs ls hP hD hS hl)
  · rw [← iI_0, iI_lt hz q0] at h
    exact h
  · rw [← iI_0, iI_lt hz q0] at h
    exact h
theorem r_icmp_lt (C : CC X G tc l cc own Ts nL R) {a b off : Int} {tgt : Nat} (ha : inR a) (hb : inR b) (hdg : decode cc pc = .ok (.if_icmp .lt off, 3)) (ht : (pc : Int) + off = (tgt : Int)) (kt : a < b → VV X ad N f k n tgt lv st) (kf : ¬ a < b → VV X ad N f k n (pc + 3) lv st) : VV X ad N f k n pc lv (.int (iI b) :: .int (iI a) :: st) := by
  intro H locs ls hP hD hS hl
  refine lv_icmp_lt C.2.1.1 C.2.1.2.1 hdg ht (fun h => kt ?_ H locs ls hP hD hS hl) (fun h => kf ?_ H locs ls hP hD hS hl)
  · rw [iI_lt ha hb] at h
    exact h
  · rw [iI_lt ha hb] at h
    exact h
theorem r_if_ge (C : CC X G tc l cc own Ts nL R) {z off : Int} {tgt : Nat} (hz : inR z) (hdg : decode cc pc = .ok (.ifCond .ge off, 3)) (ht : (pc : Int) + off = (tgt : Int)) (kt : 0 ≤ z → VV X ad N f k n tgt lv st) (kf : ¬ 0 ≤ z → VV X ad N f k n (pc + 3) lv st) : VV X ad N f k n pc lv (.int (iI z) :: st) := by
  intro H locs ls hP hD hS hl
  have q0 : inR 0 := ⟨by decide, by decide⟩
  refine lv_if_ge C.2.1.1 C.2.1.2.1 hdg ht (fun h => kt ?_ H locs ls hP hD hS hl) (fun h => kf ?_ H locs ls hP hD hS hl)
  · rw [← iI_0, iI_le q0 hz] at h
    exact h
  · rw [← iI_0, iI_le q0 hz] at h
    exact h
theorem r_icmp_ge (C : CC X G tc l cc own Ts nL R) {a b off : Int} {tgt : Nat} (ha : inR a) (hb : inR b) (hdg : decode cc pc = .ok (.if_icmp .ge off, 3)) (ht : (pc : Int) + off = (tgt : Int)) (kt : b ≤ a → VV X ad N f k n tgt lv st) (kf : ¬ b ≤ a → VV X ad N f k n (pc + 3) lv st) : VV X ad N f k n pc lv (.int (iI b) :: .int (iI a) :: st) := by
  intro H locs ls hP hD hS hl
  refine lv_icmp_ge C.2.1.1 C.2.1.2.1 hdg ht (fun h => kt ?_ H locs ls hP hD hS hl) (fun h => kf ?_ H locs ls hP hD hS hl)
  · rw [iI_le hb ha] at h
    exact h
  · rw [iI_le hb ha] at h
    exact h
theorem r_if_gt (C : CC X G tc l cc own Ts nL R) {z off : Int} {tgt : Nat} (hz : inR z) (hdg : decode cc pc = .ok (.ifCond .gt off, 3)) (ht : (pc : Int) + off = (tgt : Int)) (kt : 0 < z → VV X ad N f k n tgt lv st) (kf : ¬ 0 < z → VV X ad N f k n (pc + 3) lv st) : VV X ad N f k n pc lv (.int (iI z) :: st) := by
  intro H locs ls hP hD hS hl
  have q0 : inR 0 := ⟨by decide, by decide⟩
  refine lv_if_gt C.2.1.1 C.2.1.2.1 hdg ht (fun h => kt ?_ H locs ls hP hD hS hl) (fun h => kf ?_ H locs ls hP hD hS hl)
  · rw [← iI_0, iI_lt q0 hz] at h
    exact h
  · rw [← iI_0, iI_lt q0 hz] at h
    exact h
theorem r_icmp_gt (C : CC X G tc l cc own Ts nL R) {a b off : Int} {tgt : Nat} (ha : inR a) (hb : inR b) (hdg : decode cc pc = .ok (.if_icmp .gt off, 3)) (ht : (pc : Int) + off = (tgt : Int)) (kt : b < a → VV X ad N f k n tgt lv st) (kf : ¬ b < a → VV X ad N f k n (pc + 3) lv st) : VV X ad N f k n pc lv (.int (iI b) :: .int (iI a) :: st) := by
  intro H locs ls hP hD hS hl
  refine lv_icmp_gt C.2.1.1 C.2.1.2.1 hdg ht (fun h => kt ?_ H locs ls hP hD hS hl) (fun h => kf ?_ H locs ls hP hD hS hl)
  · rw [iI_lt hb ha] at h
    exact h
  · rw [iI_lt hb ha] at h
    exact h
theorem r_if_le (C : CC X G tc l cc own Ts nL R) {z off : Int} {tgt : Nat} (hz : inR z) (hdg : decode cc pc = .ok (.ifCond .le off, 3)) (ht : (pc : Int) + off = (tgt : Int)) (kt : z ≤ 0 → VV X ad N f k n tgt lv st) (kf : ¬ z ≤ 0 → VV X ad N f k n (pc + 3) lv st) : VV X ad N f k n pc lv (.int (iI z) :: st) := by
  intro H locs ls hP hD hS hl
  have q0 : inR 0 := ⟨by decide, by decide⟩
  refine lv_if_le C.2.1.1 C.2.1.2.1 hdg ht (fun h => kt ?_ H locs ls hP hD hS hl) (fun h => kf ?_ H locs ls hP hD hS hl)
  · rw [← iI_0, iI_le hz q0] at h
    exact h
  · rw [← iI_0, iI_le hz q0] at h
    exact h
theorem r_icmp_le (C : CC X G tc l cc own Ts nL R) {a b off : Int} {tgt : Nat} (ha : inR a) (hb : inR b) (hdg : decode cc pc = .ok (.if_icmp .le off, 3)) (ht : (pc : Int) + off = (tgt : Int)) (kt : a ≤ b → VV X ad N f k n tgt lv st) (kf : ¬ a ≤ b → VV X ad N f k n (pc + 3) lv st) : VV X ad N f k n pc lv (.int (iI b) :: .int (iI a) :: st) := by
  intro H locs ls hP hD hS hl
  refine lv_icmp_le C.2.1.1 C.2.1.2.1 hdg ht (fun h => kt ?_ H locs ls hP hD hS hl) (fun h => kf ?_ H locs ls hP hD hS hl)
  · rw [iI_le ha hb] at h
    exact h
  · rw [iI_le ha hb] at h
    exact h
theorem r_tin (C : CC X G tc l cc own Ts nL R) {dflt lo hi off z : Int} {offs : Array Int} {len tgt : Nat} (hz : inR z) (hdg : decode cc pc = .ok (.tableswitch dflt lo hi offs, len)) (h1 : ¬ z < lo) (h2 : ¬ hi < z) (ho : offs[(z - lo).toNat]? = some off) (ht : (pc : Int) + off = (tgt : Int)) (kk : VV X ad N f k n tgt lv st) : VV X ad N f k n pc lv (.int (iI z) :: st) :=
  fun H locs ls hP hD hS hl => lv_tableIn C.2.1.1 C.2.1.2.1 hdg (by rw [iI_toInt hz]; exact h1) (by rw [iI_toInt hz]; exact h2) (by rw [iI_toInt hz]; exact ho) ht (kk H locs ls hP hD hS hl)
theorem r_tout (C : CC X G tc l cc own Ts nL R) {dflt lo hi z : Int} {offs : Array Int} {len tgt : Nat} (hz : inR z) (hdg : decode cc pc = .ok (.tableswitch dflt lo hi offs, len)) (h : z < lo ∨ hi < z) (ht : (pc : Int) + dflt = (tgt : Int)) (kk : VV X ad N f k n tgt lv st) : VV X ad N f k n pc lv (.int (iI z) :: st) :=
  fun H locs ls hP hD hS hl => lv_tableOut C.2.1.1 C.2.1.2.1 hdg (by rw [iI_toInt hz]; exact h) ht (kk H locs ls hP hD hS hl)
/-- another world that no one can tell apart -/
theorem r_conv {f' : Nat → va_E} (h : ∀ i, i < N → ceq (f i) (f' i)) (kk : VV X ad N f' k n pc lv st) : VV X ad N f k n pc lv st := by
  intro H locs ls hP hD hS hl
  refine kk H locs ls ?_ ?_ hS hl
  · intro j q hq
    obtain ⟨hj, rfl⟩ := hw_some hq
    exact (h j hj).at (hP j (ad j, f j) (hw_get hj))
  · refine ⟨fun i j x y hi hj hxy => ?_, fun j q hq => ?_⟩
    · obtain ⟨h1, rfl⟩ := hw_some hi
      obtain ⟨h2, rfl⟩ := hw_some hj
      exact hD.1 i j _ _ (hw_get h1) (hw_get h2) hxy
    · obtain ⟨h1, rfl⟩ := hw_some hq
      exact hD.2 j (ad j, f j) (hw_get h1)
theorem r_wide {k' n' : Nat} (h1 : k ≤ k') (h2 : n ≤ n') (kk : VV X ad N f k' n' pc lv st) : VV X ad N f k n pc lv st :=
  fun H locs ls hP hD hS hl => W.widen h1 h2 (kk H locs ls hP hD hS hl)
theorem r_get (C : CC X G tc l cc own Ts nL R) {i ci index nf : Nat} {fs : List Value} {Cn ref : String} {T : u_T} {v : Value} (hi : i < N) (hf : f i = eO ci fs) (hc : vwCl[ci]? = some (Cn, T, nf)) (hin : ∀ w ∈ u_ws Cn T nf, w ∈ Ts) (j : Nat) (hj : j < nf) (hlink : (Cond.fieldLink own index ref (T j).2.1 (T j).2.2.1) ∈ Ts) (hr : (T j).1 = ref) (hv : fs[j]? = some v) (hdg : decode cc pc = .ok (.getfield index, 3)) (kk : VV X ad N f k n (pc + 3) lv (v :: st)) : VV X ad N f k n pc lv (.ref (ad i) :: st) := by
  intro H locs ls hP hD hS hl
  exact va_get C.2.1.1 C.2.1.2.1 C.2.1.2.2.2.2 hin C.2.1.2.2.2.1 C.2.2.1 hP i (by rw [hw_get hi, hf]) hc j hj (C.2.1.2.2.2.2 _ hlink) (fun x h => by rw [← hr]; exact h) hv hdg (kk H locs ls hP hD hS hl)
theorem r_put (C : CC X G tc l cc own Ts nL R) {i ci index nf : Nat} {fs : List Value} {Cn ref : String} {T : u_T} {v : Value} {ty : FieldType} {ty0 : Nat → FieldType} (hi : i < N) (hf : f i = eO ci fs) (hc : vwCl[ci]? = some (Cn, T, nf)) (hin : ∀ w ∈ u_ws Cn T nf, w ∈ Ts) (hty : ∀ k, k < nf → parseFieldDescriptor (T k).2.2.1 = some (ty0 k)) (hnm : ∀ a, a < nf → ∀ b, b < nf → a ≠ b → (T a).2.1 ≠ (T b).2.1) (j : Nat) (hj : j < nf) (hlink : (Cond.fieldLink own index ref (T j).2.1 (T j).2.2.1) ∈ Ts) (hr : (T j).1 = ref) (hfin : (T j).2.2.2 = false) (hd : parseFieldDescriptor (T j).2.2.1 = some ty) (hn : narrow ty v = v) (hfit : fits ty v = true) (hl' : j < fs.length) (hdg : decode cc pc = .ok (.putfield index, 3)) (kk : ∀ f', f' i = eO ci (fs.set j v) → (∀ q, q ≠ i → f' q = f q) → VV X ad N f' k n (pc + 3) lv st) : VV X ad N f k n pc lv (v :: .ref (ad i) :: st) := by
  intro H locs ls hP hD hS hl
  refine va_put C.2.1.1 C.2.1.2.1 C.2.1.2.2.2.2 hin ty0 hty hnm C.2.1.2.2.2.1 C.2.2.1 hP hD hS i (by rw [hw_get hi, hf]) hc j hj (C.2.1.2.2.2.2 _ hlink) (fun x h => by rw [← hr]; exact h) hfin hd hn hfit hl' hdg (fun H1 locs1 hP hD hS => ?_)
  rw [hw_set hi] at hP hD
  exact kk _ (by simp [va_up]) (fun q hq => by simp [va_up, hq]) H1 locs1 ls hP hD hS hl
theorem r_putF (C : CC X G tc l cc own Ts nL R) {i ci index nf : Nat} {fs : List Value} {Cn ref : String} {T : u_T} {v : Value} {ty : FieldType} {ty0 : Nat → FieldType} (hi : i < N) (hf : f i = eO ci fs) (hc : vwCl[ci]? = some (Cn, T, nf)) (hin : ∀ w ∈ u_ws Cn T nf, w ∈ Ts) (hty : ∀ k, k < nf → parseFieldDescriptor (T k).2.2.1 = some (ty0 k)) (hnm : ∀ a, a < nf → ∀ b, b < nf → a ≠ b → (T a).2.1 ≠ (T b).2.1) (j : Nat) (hj : j < nf) (hlink : (Cond.fieldLink own index ref (T j).2.1 (T j).2.2.1) ∈ Ts) (hr : (T j).1 = ref) (hfin : (T j).2.2.2 = true) (hin2 : X.2.2.1.2.1.name = "<init>") (hdecl : (T j).1 = own) (hd : parseFieldDescriptor (T j).2.2.1 = some ty) (hn : narrow ty v = v) (hfit : fits ty v = true) (hl' : j < fs.length) (hdg : decode cc pc = .ok (.putfield index, 3)) (kk : ∀ f', f' i = eO ci (fs.set j v) → (∀ q, q ≠ i → f' q = f q) → VV X ad N f' k n (pc + 3) lv st) : VV X ad N f k n pc lv (v :: .ref (ad i) :: st) := by
  intro H locs ls hP hD hS hl
  refine va_putF C.2.1.1 C.2.1.2.1 C.2.1.2.2.2.2 hin ty0 hty hnm C.2.1.2.2.2.1 C.2.2.1 hP hD hS i (by rw [hw_get hi, hf]) hc j hj (C.2.1.2.2.2.2 _ hlink) (fun x h => by rw [← hr]; exact h) hfin hin2 hdecl hd hn hfit hl' hdg (fun H1 locs1 hP hD hS => ?_)
  rw [hw_set hi] at hP hD
  exact kk _ (by simp [va_up]) (fun q hq => by simp [va_up, hq]) H1 locs1 ls hP hD hS hl
theorem r_iald (C : CC X G tc l cc own Ts nL R) {i len : Nat} {g : Nat → Int32} {z : Int} (hi : i < N) (hf : f i = eI tc len g) (j : Nat) (hz : z = (j : Int)) (hj : j < len) (hlen : len ≤ 2147483647) {x : Int32} (hx : g j = x) (hdg : decode cc pc = .ok (.iaload, 1)) (kk : VV X ad N f k n (pc + 1) lv (.int x :: st)) : VV X ad N f k n pc lv (.int (iI z) :: .ref (ad i) :: st) := by
  intro H locs ls hP hD hS hl
  have hK := C.2.2.1
  obtain ⟨⟨-, rfl, -⟩, C1, -⟩ := C
  refine va_iald C1.1 C1.2.1 hK hP i 0 (by rw [hw_get hi, hf]) rfl (iI_vin hz hj hlen) hdg ?_
  rw [iI_ix hz (by omega), hx]
  exact kk H locs ls hP hD hS hl
theorem r_iast (C : CC X G tc l cc own Ts nL R) {i len : Nat} {g : Nat → Int32} {x : Int32} {z : Int} (hi : i < N) (hf : f i = eI tc len g) (j : Nat) (hz : z = (j : Int)) (hj : j < len) (hlen : len ≤ 2147483647) (hdg : decode cc pc = .ok (.iastore, 1)) (kk : ∀ f', f' i = eI tc len (upd g j x) → (∀ q, q ≠ i → f' q = f q) → VV X ad N f' k n (pc + 1) lv st) : VV X ad N f k n pc lv (.int x :: .int (iI z) :: .ref (ad i) :: st) := by
  intro H locs ls hP hD hS hl
  have hK := C.2.2.1
  obtain ⟨⟨-, rfl, -⟩, C1, -⟩ := C
  refine va_iast C1.1 C1.2.1 hK hP hD hS i 0 (by rw [hw_get hi, hf]) rfl (iI_vin hz hj hlen) hdg (fun H1 locs1 hP hD hS => ?_)
  rw [iI_ix hz (by omega), hw_set hi] at hP hD
  exact kk _ (by simp [va_up]) (fun q hq => by simp [va_up, hq]) H1 locs1 ls hP hD hS hl
theorem r_zald (C : CC X G tc l cc own Ts nL R) {i len : Nat} {g : Nat → Int32} {z : Int} (hi : i < N) (hf : f i = eB tc len g) (j : Nat) (hz : z = (j : Int)) (hj : j < len) (hlen : len ≤ 2147483647) {x : Int32} (hx : g j = x) (hdg : decode cc pc = .ok (.baload, 1)) (kk : VV X ad N f k n (pc + 1) lv (.int x :: st)) : VV X ad N f k n pc lv (.int (iI z) :: .ref (ad i) :: st) := by
  intro H locs ls hP hD hS hl
  have hK := C.2.2.1
  obtain ⟨⟨-, rfl, -⟩, C1, -⟩ := C
  refine va_zald C1.1 C1.2.1 hK hP i 1 (by rw [hw_get hi, hf]) rfl (iI_vin hz hj hlen) hdg ?_
  rw [iI_ix hz (by omega), hx]
  exact kk H locs ls hP hD hS hl
theorem r_zast (C : CC X G tc l cc own Ts nL R) {i len : Nat} {g : Nat → Int32} {x : Int32} {z : Int} (hi : i < N) (hf : f i = eB tc len g) (j : Nat) (hz : z = (j : Int)) (hj : j < len) (hlen : len ≤ 2147483647) (hx : vp_nar .boolean x = x) (hdg : decode cc pc = .ok (.bastore, 1)) (kk : ∀ f', f' i = eB tc len (upd g j x) → (∀ q, q ≠ i → f' q = f q) → VV X ad N f' k n (pc + 1) lv st) : VV X ad N f k n pc lv (.int x :: .int (iI z) :: .ref (ad i) :: st) := by
  intro H locs ls hP hD hS hl
  have hK := C.2.2.1
  obtain ⟨⟨-, rfl, -⟩, C1, -⟩ := C
  refine va_zast C1.1 C1.2.1 hK hP hD hS i 1 (by rw [hw_get hi, hf]) rfl (iI_vin hz hj hlen) hdg (fun H1 locs1 hP hD hS => ?_)
  rw [iI_ix hz (by omega), hx, hw_set hi] at hP hD
  exact kk _ (by simp [va_up]) (fun q hq => by simp [va_up, hq]) H1 locs1 ls hP hD hS hl
theorem r_aaldS (C : CC X G tc l cc own Ts nL R) {i len a : Nat} {g : Nat → Option Nat} {z : Int} (hi : i < N) (hf : f i = eS tc len g) (j : Nat) (hz : z = (j : Int)) (hj : j < len) (hlen : len ≤ 2147483647) (hg : g j = some a) (hdg : decode cc pc = .ok (.aaload, 1)) (kk : VV X ad N f k n (pc + 1) lv (.ref a :: st)) : VV X ad N f k n pc lv (.int (iI z) :: .ref (ad i) :: st) := by
  intro H locs ls hP hD hS hl
  have hK := C.2.2.1
  obtain ⟨⟨-, rfl, -⟩, C1, -⟩ := C
  refine va_aldq C1.1 C1.2.1 hK hP i 2 (by rw [hw_get hi, hf]) rfl (iI_vin hz hj hlen) hdg ?_
  rw [iI_ix hz (by omega), hg]
  exact kk H locs ls hP hD hS hl
theorem r_aaldW (C : CC X G tc l cc own Ts nL R) {i len a : Nat} {g : Nat → Option Nat} {z : Int} (hi : i < N) (hf : f i = eW tc len g) (j : Nat) (hz : z = (j : Int)) (hj : j < len) (hlen : len ≤ 2147483647) (hg : g j = some a) (hdg : decode cc pc = .ok (.aaload, 1)) (kk : VV X ad N f k n (pc + 1) lv (.ref a :: st)) : VV X ad N f k n pc lv (.int (iI z) :: .ref (ad i) :: st) := by
  intro H locs ls hP hD hS hl
  have hK := C.2.2.1
  obtain ⟨⟨-, rfl, -⟩, C1, -⟩ := C
  refine va_aldq C1.1 C1.2.1 hK hP i 3 (by rw [hw_get hi, hf]) rfl (iI_vin hz hj hlen) hdg ?_
  rw [iI_ix hz (by omega), hg]
  exact kk H locs ls hP hD hS hl
theorem r_aastS (C : CC X G tc l cc own Ts nL R) {i q len : Nat} {fs : List Value} {g : Nat → Option Nat} {z : Int} (hi : i < N) (hf : f i = eS tc len g) (hq : q < N) (hfq : f q = eO 1 fs) (j : Nat) (hz : z = (j : Int)) (hj : j < len) (hlen : len ≤ 2147483647) (hdg : decode cc pc = .ok (.aastore, 1)) (kk : ∀ f', f' i = eS tc len (va_up g j (some (ad q))) → (∀ x, x ≠ i → f' x = f x) → VV X ad N f' k n (pc + 1) lv st) : VV X ad N f k n pc lv (.ref (ad q) :: .int (iI z) :: .ref (ad i) :: st) := by
  intro H locs ls hP hD hS hl
  have hK := C.2.2.1
  obtain ⟨⟨-, rfl, -⟩, C1, -⟩ := C
  refine va_astq C1.1 C1.2.1 hK hP hD hS i 2 q 1 (r := (RX1, TX1, 4)) (by rw [hw_get hi, hf]) rfl (by rw [hw_get hq, hfq]) rfl (iI_vin hz hj hlen) hdg (fun H1 locs1 hP hD hS => ?_)
  rw [iI_ix hz (by omega), hw_set hi] at hP hD
  exact kk _ (by simp [va_up]) (fun x hx => by simp [va_up, hx]) H1 locs1 ls hP hD hS hl
theorem r_aastW (C : CC X G tc l cc own Ts nL R) {i q len : Nat} {fs : List Value} {g : Nat → Option Nat} {z : Int} (hi : i < N) (hf : f i = eW tc len g) (hq : q < N) (hfq : f q = eO 2 fs) (j : Nat) (hz : z = (j : Int)) (hj : j < len) (hlen : len ≤ 2147483647) (hdg : decode cc pc = .ok (.aastore, 1)) (kk : ∀ f', f' i = eW tc len (va_up g j (some (ad q))) → (∀ x, x ≠ i → f' x = f x) → VV X ad N f' k n (pc + 1) lv st) : VV X ad N f k n pc lv (.ref (ad q) :: .int (iI z) :: .ref (ad i) :: st) := by
  intro H locs ls hP hD hS hl
  have hK := C.2.2.1
  obtain ⟨⟨-, rfl, -⟩, C1, -⟩ := C
  refine va_astq C1.1 C1.2.1 hK hP hD hS i 3 q 2 (r := (RX2, TX2, 4)) (by rw [hw_get hi, hf]) rfl (by rw [hw_get hq, hfq]) rfl (iI_vin hz hj hlen) hdg (fun H1 locs1 hP hD hS => ?_)
  rw [iI_ix hz (by omega), hw_set hi] at hP hD
  exact kk _ (by simp [va_up]) (fun x hx => by simp [va_up, hx]) H1 locs1 ls hP hD hS hl
end LYR2
section LYR3
theorem st_T.go {nm : String} {g : Nat → Int} {A B : Nat → Prop} {s U : State} {H : Heap} {locs : List Loc} (h : st_T nm g A s s.heap) (hS : va_S A s.heap H locs) (hAB : ∀ q, B q → A q) (hW : s.vm.Alike U.vm) : st_T nm g B U H := by
  obtain ⟨t, h1, h2, h3, h4⟩ := h
  exact ⟨t, ((h1.moved hW).kept hS.2.1).narrow hAB, (va_X.moved hW h2).kept (hS.2.1 t h3 h4), Nat.lt_of_lt_of_le h3 hS.1, fun z => h4 (hAB t z)⟩
theorem SS.go {A B : Nat → Prop} {s U : State} {H : Heap} {locs : List Loc} (h : SS A s s.heap) (hS : va_S A s.heap H locs) (hAB : ∀ q, B q → A q) (hW : s.WarmedH U.vm) : SS B U H :=
  ⟨⟨h.1.1.go hS hAB hW.alike, h.1.2.1.go hS hAB hW.alike, h.1.2.2.go hS hAB hW.alike⟩, h.2.1.warmM hW, h.2.2.1.warmM hW, h.2.2.2.1.warmF hW, va_AO.moved hW.alike h.2.2.2.2.1, va_AO.moved hW.alike h.2.2.2.2.2⟩
theorem st_T.same {nm : String} {g : Nat → Int} {A : Nat → Prop} {u U : State} {H : Heap} (hvm : u.vm.Alike U.vm) (h : st_T nm g A u H) : st_T nm g A U H := by
  obtain ⟨t, h1, h2, h3, h4⟩ := h
  exact ⟨t, h1.moved hvm, va_X.moved hvm h2, h3, h4⟩
theorem SS.same {A : Nat → Prop} {u U : State} {H : Heap} (hvm : u.vm = U.vm) (h : SS A u H) : SS A U H := by
  have ha : u.vm.Alike U.vm := by rw [← hvm]; exact Vm.Alike.refl u.vm
  exact ⟨⟨h.1.1.same ha, h.1.2.1.same ha, h.1.2.2.same ha⟩, va_Nw.same rfl hvm h.2.1, va_Nw.same rfl hvm h.2.2.1, va_Nw.same rfl hvm h.2.2.2.1, va_AO.moved ha h.2.2.2.2.1, va_AO.moved ha h.2.2.2.2.2⟩
/-- a method's start: the world f, and nothing asked of the heap beside it but the class's own tables -/
def PreB (G : va_G) (tc : Nat → ClassId) (ad : Nat → Nat) (N : Nat) (f : Nat → va_E) (sz : Nat) : State → Prop := fun U =>
  U.heap.size = sz ∧ va_P G vwCl (hw ad f N) U.heap ∧ va_K G vwCl (tyL tc) U ∧ va_D (fun _ => True) (hw ad f N) ∧ SS (va_A (hw ad f N) sz) U U.heap
def Qo (G : va_G) (post : Option Value → (Nat → Nat) → Nat → (Nat → va_E) → Prop) (A : Nat → Prop) : Array Value → State → Outcome → State → Prop := fun _ st oc t =>
  (∃ (v : Option Value) (ad' : Nat → Nat) (N' : Nat) (f' : Nat → va_E), oc = .returned v ∧ post v ad' N' f' ∧ va_P G vwCl (hw ad' f' N') t.heap ∧ va_D A (hw ad' f' N')) ∧ va_F A st t
/-- the contract of a method at these arguments and this world -/
def Ct (G : va_G) (tc : Nat → ClassId) (l : Launch) (y : MethodName) (ws : List Cond) (rm : Room) (mc ms : Nat) (av : List Value) (ad : Nat → Nat) (N : Nat) (f : Nat → va_E) (post : Option Value → (Nat → Nat) → Nat → (Nat → va_E) → Prop) : Prop :=
  ∀ sz : Nat, Met l y ws rm (va_Pc av (PreB G tc ad N f sz)) (Qo G post (va_A (hw ad f N) sz)) mc ms (va_A (hw ad f N) sz)
theorem pre_blind {G : va_G} {tc : Nat → ClassId} {ad : Nat → Nat} {N : Nat} {f : Nat → va_E} {sz : Nat} {av : List Value} : FrameBlind (va_Pc av (PreB G tc ad N f sz)) :=
  fun a U g mk q => ⟨q.1, q.2.1, q.2.2.1, va_K.moved (u := U) (U := U.calling g mk a) (Vm.Alike.refl U.vm) q.2.2.2.1, q.2.2.2.2.1, SS.same (u := U) (U := U.calling g mk a) rfl q.2.2.2.2.2⟩
variable {X : XT} {G : va_G} {tc : Nat → ClassId} {l : Launch} {cc : ByteArray} {own : String} {Ts : List Cond} {nL : Nat} {R : Room} {ad : Nat → Nat} {N : Nat} {f : Nat → va_E} {k n pc : Nat} {lv lv' : List (Nat × Value)} {st rest : List Value}
theorem cc_free (C : CC X G tc l cc own Ts nL R) {H : Heap} {locs : List Loc} (hD : va_D X.2.2.2.1 (hw ad f N)) (hS : va_S X.2.2.2.1 X.2.1.2.2.2.1.heap H locs) : ∀ q, va_A (hw ad f N) H.size q → X.2.2.2.1 q := by
  intro q h
  rcases h with ⟨j, e, h⟩ | h
  · exact hD.2 j _ h
  · exact C.2.2.2.2.1 q (Nat.le_trans hS.1 h)
theorem cc_pre (C : CC X G tc l cc own Ts nL R) {H : Heap} {locs : List Loc} (hP : va_P X.1.1 vwCl (hw ad f N) H) (hD : va_D X.2.2.2.1 (hw ad f N)) (hS : va_S X.2.2.2.1 X.2.1.2.2.2.1.heap H locs) {U : State} (hU : U.heap = H) (hW : X.2.1.2.2.2.1.WarmedH U.vm) : PreB G tc ad N f H.size U := by
  have hF := cc_free C hD hS
  obtain ⟨⟨rfl, rfl, -⟩, C1, hK, hSS, -, -⟩ := C
  exact ⟨by rw [hU], by rw [hU]; exact hP, va_K.moved hW.alike hK, hD.weaken (fun _ _ _ _ => trivial), by rw [hU]; exact hSS.go hS hF hW⟩
theorem r_after (C : CC X G tc l cc own Ts nL R) {post : Option Value → (Nat → Nat) → Nat → (Nat → va_E) → Prop} {mc ms : Nat} {a : Array Value} {H : Heap} {locs : List Loc} {ls : Array Slot} {st0 : List Value}
    (hr : va_Run X.2.1.1 X.2.1.2.1 X.2.1.2.2.1 X.2.2.1.2.2.2.1 X.2.1.2.2.2.1 X.2.1.2.2.2.2.1 X.2.1.2.2.2.2.2 X.2.2.1.1 X.2.2.1.2.1 X.2.2.1.2.2.1 H locs k n mc ms (F0 X.2.1.2.2.2.2.1 pc ls st0) rest (Qo G post (va_A (hw ad f N) H.size) a) (va_A (hw ad f N) H.size))
    (hD : va_D X.2.2.2.1 (hw ad f N)) (hS : va_S X.2.2.2.1 X.2.1.2.2.2.1.heap H locs) (hl : lv_has ls X.2.2.1.2.2.2.2 lv)
    (kk : ∀ v ad' N' f', post v ad' N' f' → VV X ad' N' f' (k + mc) (n + ms) (pc + 3) lv (v.toList ++ rest)) :
    W X.2.1.1 X.2.1.2.1 X.2.1.2.2.1 X.2.2.1.2.2.2.1 X.2.1.2.2.2.1 X.2.1.2.2.2.2.1 X.2.1.2.2.2.2.2 X.2.2.1.1 X.2.2.1.2.1 X.2.2.1.2.2.1 H locs k n X.2.2.2.2 (F0 X.2.1.2.2.2.2.1 pc ls st0) := by
  have hF := cc_free C hD hS
  obtain ⟨⟨rfl, rfl, -⟩, C1, hK, hSS, -, -⟩ := C
  intro T hT Y
  obtain ⟨v, st₀, t, T', L, h0, X', hL, e1, e2, ⟨⟨v', ad', N', f', hv, hp, hPt, hDt⟩, hz, hk⟩, st⟩ := hr T hT Y
  cases hv
  rw [h0] at hz hk
  obtain ⟨t2, a1, b1⟩ := kk v ad' N' f' hp T'.heap (locs ++ L) ls (by rw [e1]; exact hPt) (hDt.weaken (fun _ q _ h => hF q.1 h))
    ⟨Nat.le_trans hS.1 (by rw [e1]; exact hz), fun q h1 h2 => by rw [e1, hk q (Nat.lt_of_lt_of_le h1 hS.1) (fun z => h2 (hF q z))]; exact hS.2.1 q h1 h2, fun q hq => by
      rcases List.mem_append.mp hq with h | h
      · exact hS.2.2 q h
      · exact hF _ (hL q h)⟩ hl T' rfl X'
  exact ⟨t2, st t2 a1, b1⟩
theorem r_callV (C : CC X G tc l cc own Ts nL R) {y : MethodName} {bytes : ByteArray} {maxL mc ms na index i ci nf : Nat} {ret : Option FieldType} {ws ws' : List Cond} {rm : Room} {As : List Value} {post : Option Value → (Nat → Nat) → Nat → (Nat → va_E) → Prop} {Cn : String} {T : u_T} {fs : List Value}
    (hM : Ct G tc l y ws rm mc ms (.ref (ad i) :: As) ad N f post) (hG : GoodIn Ts (wsV own index Cn y ws)) (hw' : ws = Cond.code y bytes maxL ret :: ws') (hrc : rm.cells = mc) (hrs : rm.slots = ms)
    (hd : y.cls = Cn ∧ y.cls ≠ "java/lang/invoke/MethodHandle" ∧ y.cls ≠ "java/lang/invoke/VarHandle" ∧ (parseMethodDescriptor y.desc).map (fun d => d.parameters.length) = some na) (hR : rm.frames + 1 ≤ R.frames ∧ 8 + (maxL + 11) + rm.locals ≤ R.locals)
    (hi : i < N) (hf : f i = eO ci fs) (hc : vwCl[ci]? = some (Cn, T, nf)) (hn : As.length = na) (hst : st = As.reverse ++ .ref (ad i) :: rest) (hcat : (rest.map fun v => v.category).sum ≤ 8) (hdg : decode cc pc = .ok (.invokevirtual index, 3)) (hcs : k + mc ≤ R.cells ∧ n + ms ≤ R.slots)
    (kk : ∀ v ad' N' f', post v ad' N' f' → VV X ad' N' f' (k + mc) (n + ms) (pc + 3) lv (v.toList ++ rest)) : VV X ad N f k n pc lv st := by
  intro H locs ls hP hD hS hl
  subst hst
  have hR0 := C.1.2.2.2.1
  have hM' := hM H.size
  rw [← C.1.2.2.1] at hM'
  refine r_after C (va_runV (As := As) (rest := rest) (b := ad i) C.2.1 hM' (cwV na C.2.1.2.2.2.2 hG hw' hrc hrs hd (by rw [hR0]; exact hR)) ⟨pre_blind, va_recv C.2.2.1 hP hc (by rw [hw_get hi, hf]), fun U hU hW => ⟨rfl, cc_pre C hP hD hS hU hW⟩⟩ rfl hn (hl.1.trans C.1.2.2.2.2) rfl (lv_room hcat) hdg (by rw [hR0]; exact hcs)) hD hS hl kk
theorem r_callS (C : CC X G tc l cc own Ts nL R) {y : MethodName} {bytes : ByteArray} {maxL mc ms na index : Nat} {ret : Option FieldType} {ws ws' : List Cond} {rm : Room} {As : List Value} {post : Option Value → (Nat → Nat) → Nat → (Nat → va_E) → Prop}
    (hM : Ct G tc l y ws rm mc ms As ad N f post) (hG : GoodIn Ts (va_wsS own index y ws)) (hw' : ws = Cond.code y bytes maxL ret :: ws') (hrc : rm.cells = mc) (hrs : rm.slots = ms)
    (hd : y.cls ≠ "java/lang/invoke/MethodHandle" ∧ y.cls ≠ "java/lang/invoke/VarHandle" ∧ (parseMethodDescriptor y.desc).map (fun d => d.parameters.length) = some na) (hR : rm.frames + 1 ≤ R.frames ∧ 8 + (maxL + 11) + rm.locals ≤ R.locals)
    (hn : As.length = na) (hst : st = As.reverse ++ rest) (hcat : (rest.map fun v => v.category).sum ≤ 8) (hdg : decode cc pc = .ok (.invokestatic index, 3)) (hcs : k + mc ≤ R.cells ∧ n + ms ≤ R.slots)
    (kk : ∀ v ad' N' f', post v ad' N' f' → VV X ad' N' f' (k + mc) (n + ms) (pc + 3) lv (v.toList ++ rest)) : VV X ad N f k n pc lv st := by
  intro H locs ls hP hD hS hl
  subst hst
  have hR0 := C.1.2.2.2.1
  have hM' := hM H.size
  rw [← C.1.2.2.1] at hM'
  refine r_after C (va_runS (As := As) (rest := rest) C.2.1 hM' (va_cwS na C.2.1.2.2.2.2 hG hw' hrc hrs hd (by rw [hR0]; exact hR)) ⟨pre_blind, fun U hU hW => ⟨rfl, cc_pre C hP hD hS hU hW⟩⟩ rfl hn (hl.1.trans C.1.2.2.2.2) rfl (lv_room hcat) hdg (by rw [hR0]; exact hcs)) hD hS hl kk
theorem r_callSN (C : CC X G tc l cc own Ts nL R) {y : MethodName} {host : String} {bytes : ByteArray} {maxL mc ms na index : Nat} {ret : Option FieldType} {ws ws' : List Cond} {rm : Room} {As : List Value} {post : Option Value → (Nat → Nat) → Nat → (Nat → va_E) → Prop}
    (hM : Ct G tc l y ws rm mc ms As ad N f post) (hG : GoodIn Ts ws) (hw' : ws = Cond.code y bytes maxL ret :: ws') (hrc : rm.cells = mc) (hrs : rm.slots = ms) (hNw : va_Nw (.methodLinkNest own index y host) X.2.1.2.2.2.1) (hini : Cond.initialized y.cls ∈ Ts) (hstat : Cond.static y ∈ Ts)
    (hd : y.cls ≠ "java/lang/invoke/MethodHandle" ∧ y.cls ≠ "java/lang/invoke/VarHandle" ∧ (parseMethodDescriptor y.desc).map (fun d => d.parameters.length) = some na) (hR : rm.frames + 1 ≤ R.frames ∧ 8 + (maxL + 11) + rm.locals ≤ R.locals)
    (hn : As.length = na) (hst : st = As.reverse ++ rest) (hcat : (rest.map fun v => v.category).sum ≤ 8) (hdg : decode cc pc = .ok (.invokestatic index, 3)) (hcs : k + mc ≤ R.cells ∧ n + ms ≤ R.slots)
    (kk : ∀ v ad' N' f', post v ad' N' f' → VV X ad' N' f' (k + mc) (n + ms) (pc + 3) lv (v.toList ++ rest)) : VV X ad N f k n pc lv st := by
  intro H locs ls hP hD hS hl
  subst hst
  have hR0 := C.1.2.2.2.1
  have hM' := hM H.size
  rw [← C.1.2.2.1] at hM'
  refine r_after C (va_runSN (As := As) (rest := rest) C.2.1 hM' ⟨va_cnB na C.2.1.2.2.2.2 hG hw' hrc hrs hNw (C.2.1.2.2.2.2 _ hini) hd (by rw [hR0]; exact hR), C.2.1.2.2.2.2 _ hstat, trivial⟩ ⟨pre_blind, fun U hU hW => ⟨rfl, cc_pre C hP hD hS hU hW⟩⟩ rfl hn (hl.1.trans C.1.2.2.2.2) rfl (lv_room hcat) hdg (by rw [hR0]; exact hcs)) hD hS hl kk
theorem r_callI (C : CC X G tc l cc own Ts nL R) {y : MethodName} {bytes : ByteArray} {maxL mc ms na index i : Nat} {ws ws' : List Cond} {rm : Room} {As : List Value} {post : Option Value → (Nat → Nat) → Nat → (Nat → va_E) → Prop}
    (hM : Ct G tc l y ws rm mc ms (.ref (ad i) :: As) ad N f post) (hG : GoodIn Ts ws) (hw' : ws = Cond.code y bytes maxL none :: ws') (hrc : rm.cells = mc) (hrs : rm.slots = ms) (hini : Cond.initialized y.cls ∈ Ts) (hlk : Cond.methodLink own index y ∈ Ts) (hin : Cond.instanceMethod y ∈ Ts) (hy1 : y.name = "<init>")
    (hd : y.cls ≠ "java/lang/invoke/MethodHandle" ∧ y.cls ≠ "java/lang/invoke/VarHandle" ∧ (parseMethodDescriptor y.desc).map (fun d => d.parameters.length) = some na) (hR : rm.frames + 1 ≤ R.frames ∧ 8 + (maxL + 11) + rm.locals ≤ R.locals)
    (hn : As.length = na) (hst : st = As.reverse ++ .ref (ad i) :: rest) (hcat : (rest.map fun v => v.category).sum ≤ 8) (hdg : decode cc pc = .ok (.invokespecial index, 3)) (hcs : k + mc ≤ R.cells ∧ n + ms ≤ R.slots)
    (kk : ∀ v ad' N' f', post v ad' N' f' → VV X ad' N' f' (k + mc) (n + ms) (pc + 3) lv (v.toList ++ rest)) : VV X ad N f k n pc lv st := by
  intro H locs ls hP hD hS hl
  subst hst
  have hR0 := C.1.2.2.2.1
  have hM' := hM H.size
  rw [← C.1.2.2.1] at hM'
  have hts := C.2.1.2.2.2.2
  refine r_after C (va_runI (As := As) (rest := rest) (b := ad i) C.2.1 hM' (cwI na hts hG hw' hrc hrs (hts _ hini) (hts _ hlk) (hts _ hin) hy1 hd (by rw [hR0]; exact hR)) ⟨pre_blind, fun U hU hW => ⟨rfl, cc_pre C hP hD hS hU hW⟩⟩ rfl hn (hl.1.trans C.1.2.2.2.2) rfl (lv_room hcat) hdg (by rw [hR0]; exact hcs)) hD hS hl kk
theorem r_objInit (C : CC X G tc l cc own Ts nL R) {index a : Nat} (hlk : Cond.methodLink own index objectInit ∈ Ts) (hin : Cond.instanceMethod objectInit ∈ Ts) (hcd : Cond.code objectInit ⟨#[0xb1]⟩ 1 none ∈ Ts) (hf : 1 ≤ R.frames) (hlo : (st.map fun v => v.category).sum + 12 ≤ R.locals) (hdg : decode cc pc = .ok (.invokespecial index, 3)) (kk : VV X ad N f k n (pc + 3) lv st) : VV X ad N f k n pc lv (.ref a :: st) := by
  intro H locs ls hP hD hS hl
  have hR0 := C.1.2.2.2.1
  have hts := C.2.1.2.2.2.2
  refine W.objInit C.2.1.1 C.2.1.2.1 C.2.1.2.2.2.1 (hts _ hlk) (hts _ hin) (hts _ hcd) rfl (by rw [C.2.1.2.2.1]; exact hl.1.trans C.1.2.2.2.2) rfl hdg (by rw [hR0]; exact hf) (by rw [hR0]; show 2 * 0 + _ + 12 ≤ _; omega) ?_
  exact kk H locs ls hP hD hS hl
theorem r_min (C : CC X G tc l cc own Ts nL R) {index : Nat} {a b : Int} (hw : Cond.methodLink own index Lib.Math.min.name ∈ Ts ∧ Cond.static Lib.Math.min.name ∈ Ts ∧ Cond.initialized "java/lang/Math" ∈ Ts ∧ Cond.code Lib.Math.min.name Lib.Math.min.code 2 (some .int) ∈ Ts) (hfr : 1 ≤ R.frames) (hlo : (st.map fun v => v.category).sum + 13 ≤ R.locals) (hcs : k ≤ R.cells ∧ n ≤ R.slots) (ha : inR a) (hb : inR b) (hdg : decode cc pc = .ok (.invokestatic index, 3)) (kk : VV X ad N f k n (pc + 3) lv (.int (iI (min a b)) :: st)) : VV X ad N f k n pc lv (.int (iI b) :: .int (iI a) :: st) := by
  intro H locs ls hP hD hS hl
  have hR0 := C.1.2.2.2.1
  have hts := C.2.1.2.2.2.2
  refine va_mmin C.2.1.1 C.2.1.2.1 (by rw [C.2.1.2.2.1]; exact (hl.1.trans C.1.2.2.2.2).symm) C.2.1.2.2.2.1 (hts _ hw.1) (hts _ hw.2.1) (hts _ hw.2.2.1) (hts _ hw.2.2.2) (by rw [hR0]; exact hfr) (by rw [hR0]; exact hlo) (by rw [hR0]; exact hcs.1) (by rw [hR0]; exact hcs.2) hdg ?_
  rw [show (if iI b < iI a then iI b else iI a) = iI (min a b) from by
    by_cases h : b < a
    · rw [if_pos ((iI_lt hb ha).mpr h), Int.min_eq_right (by omega)]
    · rw [if_neg (fun q => h ((iI_lt hb ha).mp q)), Int.min_eq_left (by omega)]]
  exact kk H locs ls hP hD hS hl
theorem r_max (C : CC X G tc l cc own Ts nL R) {index : Nat} {a b : Int} (hw : Cond.methodLink own index Lib.Math.max.name ∈ Ts ∧ Cond.static Lib.Math.max.name ∈ Ts ∧ Cond.initialized "java/lang/Math" ∈ Ts ∧ Cond.code Lib.Math.max.name Lib.Math.max.code 2 (some .int) ∈ Ts) (hfr : 1 ≤ R.frames) (hlo : (st.map fun v => v.category).sum + 13 ≤ R.locals) (hcs : k ≤ R.cells ∧ n ≤ R.slots) (ha : inR a) (hb : inR b) (hdg : decode cc pc = .ok (.invokestatic index, 3)) (kk : VV X ad N f k n (pc + 3) lv (.int (iI (max a b)) :: st)) : VV X ad N f k n pc lv (.int (iI b) :: .int (iI a) :: st) := by
  intro H locs ls hP hD hS hl
  have hR0 := C.1.2.2.2.1
  have hts := C.2.1.2.2.2.2
  refine va_mmax C.2.1.1 C.2.1.2.1 (by rw [C.2.1.2.2.1]; exact (hl.1.trans C.1.2.2.2.2).symm) C.2.1.2.2.2.1 (hts _ hw.1) (hts _ hw.2.1) (hts _ hw.2.2.1) (hts _ hw.2.2.2) (by rw [hR0]; exact hfr) (by rw [hR0]; exact hlo) (by rw [hR0]; exact hcs.1) (by rw [hR0]; exact hcs.2) hdg ?_
  rw [show (if iI a < iI b then iI b else iI a) = iI (max a b) from by
    by_cases h : a < b
    · rw [if_pos ((iI_lt ha hb).mpr h), Int.max_eq_right (by omega)]
    · rw [if_neg (fun q => h ((iI_lt ha hb).mp q)), Int.max_eq_left (by omega)]]
  exact kk H locs ls hP hD hS hl
theorem r_abs (C : CC X G tc l cc own Ts nL R) {index : Nat} {a : Int} (hw : Cond.methodLink own index Lib.Math.abs.name ∈ Ts ∧ Cond.static Lib.Math.abs.name ∈ Ts ∧ Cond.initialized "java/lang/Math" ∈ Ts ∧ Cond.code Lib.Math.abs.name Lib.Math.abs.code 1 (some .int) ∈ Ts) (hfr : 1 ≤ R.frames) (hlo : (st.map fun v => v.category).sum + 13 ≤ R.locals) (hcs : k ≤ R.cells ∧ n ≤ R.slots) (ha : inR a) (hdg : decode cc pc = .ok (.invokestatic index, 3)) (kk : VV X ad N f k n (pc + 3) lv (.int (iI (if 0 ≤ a then a else -a)) :: st)) : VV X ad N f k n pc lv (.int (iI a) :: st) := by
  intro H locs ls hP hD hS hl
  have hR0 := C.1.2.2.2.1
  have hts := C.2.1.2.2.2.2
  refine va_mabs C.2.1.1 C.2.1.2.1 (by rw [C.2.1.2.2.1]; exact (hl.1.trans C.1.2.2.2.2).symm) C.2.1.2.2.2.1 (hts _ hw.1) (hts _ hw.2.1) (hts _ hw.2.2.1) (hts _ hw.2.2.2) (by rw [hR0]; exact hfr) (by rw [hR0]; exact hlo) (by rw [hR0]; exact hcs.1) (by rw [hR0]; exact hcs.2) hdg ?_
  have h0 : inR 0 := ⟨by decide, by decide⟩
  rw [show (if 0 ≤ iI a then iI a else 0 - iI a) = iI (if 0 ≤ a then a else -a) from by
    by_cases h : 0 ≤ a
    · rw [if_pos h, if_pos (by rw [← iI_0, iI_le h0 ha]; exact h)]
    · rw [if_neg h, if_neg (by rw [← iI_0, iI_le h0 ha]; exact h), ← iI_0, iI_sub, Int.zero_sub]]
  exact kk H locs ls hP hD hS hl
theorem r_acp (C : CC X G tc l cc own Ts nL R) {index i i2 n0 n1 : Nat} {g g2 : Nat → Int32} {zs zd zn : Int} (hw : Cond.methodLink own index arraycopyName ∈ Ts ∧ Cond.native arraycopyName ∈ Ts ∧ Cond.static arraycopyName ∈ Ts ∧ Cond.initialized "java/lang/System" ∈ Ts) (hfr : 1 ≤ R.frames) (hlo : (st.map fun v => v.category).sum + (nativeFrameWords "java/lang/System" "arraycopy" 5 + 11) ≤ R.locals)
    (hi : i < N) (hf : f i = eI tc n0 g) (hi2 : i2 < N) (hf2 : f i2 = eI tc n1 g2) (sp dp cn : Nat) (hzs : zs = (sp : Int)) (hzd : zd = (dp : Int)) (hzn : zn = (cn : Int)) (h4 : sp + cn ≤ n0) (h5 : dp + cn ≤ n1) (h6 : n0 ≤ 2147483647) (h7 : n1 ≤ 2147483647) (hdg : decode cc pc = .ok (.invokestatic index, 3))
    (kk : ∀ f', f' i2 = eI tc n1 (va_cpy g g2 sp dp cn) → (∀ q, q ≠ i2 → f' q = f q) → VV X ad N f' k n (pc + 3) lv st) : VV X ad N f k n pc lv (.int (iI zn) :: .int (iI zd) :: .ref (ad i2) :: .int (iI zs) :: .ref (ad i) :: st) := by
  intro H locs ls hP hD hS hl
  have hR0 := C.1.2.2.2.1
  have hts := C.2.1.2.2.2.2
  have hK := C.2.2.1
  obtain ⟨⟨-, rfl, -, -, hnL⟩, C1, -⟩ := C
  have es := iI_ix hzs (by omega)
  have ed := iI_ix hzd (by omega)
  have en := iI_ix hzn (by omega)
  have nn : ∀ {z : Int} {m : Nat}, z = (m : Int) → m ≤ 2147483647 → ¬ iI z < 0 := fun {z} {m} h1 h2 => by
    rw [← iI_0, iI_lt ⟨by omega, by omega⟩ ⟨by decide, by decide⟩]
    omega
  refine va_copyi C1.1 C1.2.1 (by rw [C1.2.2.1]; exact (hl.1.trans hnL).symm) C1.2.2.2.1 (hts _ hw.1) (hts _ hw.2.1) (hts _ hw.2.2.1) (hts _ hw.2.2.2) hK hP hD hS i i2 0 0 (by rw [hw_get hi, hf]) (by rw [hw_get hi2, hf2]) rfl rfl rfl (nn hzs (by omega)) (nn hzd (by omega)) (nn hzn (by omega)) (by rw [es, en]; exact h4) (by rw [ed, en]; exact h5) (fun _ _ => rfl) (by rw [hR0]; exact hfr) (by rw [hR0]; exact hlo) hdg (fun H1 locs1 hP hD hS => ?_)
  rw [es, ed, en, hw_set hi2] at hP hD
  exact kk _ (by simp [va_up]) (fun q hq => by simp [va_up, hq]) H1 locs1 ls hP hD hS hl
end LYR3
section LYR4
variable {G : va_G} {tc : Nat → ClassId} {l : Launch} {y : MethodName} {ws ws' : List Cond} {rm : Room} {mc ms maxL : Nat} {av : List Value} {ad : Nat → Nat} {N : Nat} {f : Nat → va_E} {post : Option Value → (Nat → Nat) → Nat → (Nat → va_E) → Prop} {cc : ByteArray} {lv : List (Nat × Value)}
theorem Ct.ofI (hy : plainName y.cls = true) (hw' : ws = Cond.code y cc maxL (some .int) :: ws') (hn : (lg_sl av).length ≤ maxL) (hlv : lv_args 0 av = lv)
    (body : ∀ X : XT, CC X G tc l cc y.cls ws maxL rm → (∀ ad' N' f' (v : Int32) pc lv', decode cc pc = .ok (.ireturn, 1) → post (some (.int v)) ad' N' f' → VV X ad' N' f' mc ms pc lv' [.int v]) → VV X ad N f 0 0 0 lv []) : Ct G tc l y ws rm mc ms av ad N f post := by
  intro sz
  refine Met.ofW (cc := cc) (maxL := maxL) (ret := some .int) hy hw' ?_
  intro p e s m args below meth c s₁ B hml hv
  obtain ⟨rfl, hsz, hP, hK, hD0, hSS⟩ := hv
  have hlocks := B.notSynchronized
  subst hsz
  have hD := hD0.self (sz := s.heap.size)
  have hl := lv_entry av (n := maxL) hn
  rw [lg_entry_eq]
  rw [hlv] at hl
  refine body ((G, tc), (p, l, e, s, m, av.toArray), (below, meth, c, rm, maxL), va_A (hw ad f N) s.heap.size, _) ⟨⟨rfl, rfl, rfl, rfl, rfl⟩, ⟨B.exec, B.bytes, hml, findClass_of_methodNamed B.named, atoms_spec (ws := ws) B.pre⟩, hK, hSS, fun q h => Or.inr h, hlocks⟩ ?_ s.heap [] _ hP hD va_S.rf hl
  intro ad' N' f' v pc lv' hd hp H locs ls hP hD hS hl
  exact W.iret B.exec B.bytes B.returns (fun t ht hW => ⟨⟨_, ad', N', f', rfl, hp, by rw [ht]; exact hP, hD⟩, hS.F ht⟩) hS.2.2 hd
theorem Ct.ofZ (hy : plainName y.cls = true) (hw' : ws = Cond.code y cc maxL (some .boolean) :: ws') (hn : (lg_sl av).length ≤ maxL) (hlv : lv_args 0 av = lv)
    (body : ∀ X : XT, CC X G tc l cc y.cls ws maxL rm → (∀ ad' N' f' (v : Int32) pc lv', decode cc pc = .ok (.ireturn, 1) → narrow .boolean (.int v) = .int v → post (some (.int v)) ad' N' f' → VV X ad' N' f' mc ms pc lv' [.int v]) → VV X ad N f 0 0 0 lv []) : Ct G tc l y ws rm mc ms av ad N f post := by
  intro sz
  refine Met.ofW (cc := cc) (maxL := maxL) (ret := some .boolean) hy hw' ?_
  intro p e s m args below meth c s₁ B hml hv
  obtain ⟨rfl, hsz, hP, hK, hD0, hSS⟩ := hv
  have hlocks := B.notSynchronized
  subst hsz
  have hD := hD0.self (sz := s.heap.size)
  have hl := lv_entry av (n := maxL) hn
  rw [lg_entry_eq]
  rw [hlv] at hl
  refine body ((G, tc), (p, l, e, s, m, av.toArray), (below, meth, c, rm, maxL), va_A (hw ad f N) s.heap.size, _) ⟨⟨rfl, rfl, rfl, rfl, rfl⟩, ⟨B.exec, B.bytes, hml, findClass_of_methodNamed B.named, atoms_spec (ws := ws) B.pre⟩, hK, hSS, fun q h => Or.inr h, hlocks⟩ ?_ s.heap [] _ hP hD va_S.rf hl
  intro ad' N' f' v pc lv' hd hnv hp H locs ls hP hD hS hl
  exact W.zret B.exec B.bytes B.returns hnv (fun t ht hW => ⟨⟨_, ad', N', f', rfl, hp, by rw [ht]; exact hP, hD⟩, hS.F ht⟩) hS.2.2 hd
theorem Ct.ofV (hy : plainName y.cls = true) (hw' : ws = Cond.code y cc maxL none :: ws') (hn : (lg_sl av).length ≤ maxL) (hlv : lv_args 0 av = lv)
    (body : ∀ X : XT, CC X G tc l cc y.cls ws maxL rm → X.2.2.1.2.1.name = y.name → (∀ ad' N' f' pc lv', decode cc pc = .ok (.return_, 1) → post none ad' N' f' → VV X ad' N' f' mc ms pc lv' []) → VV X ad N f 0 0 0 lv []) : Ct G tc l y ws rm mc ms av ad N f post := by
  intro sz
  refine Met.ofW (cc := cc) (maxL := maxL) (ret := none) hy hw' ?_
  intro p e s m args below meth c s₁ B hml hv
  obtain ⟨rfl, hsz, hP, hK, hD0, hSS⟩ := hv
  have hlocks := B.notSynchronized
  subst hsz
  have hD := hD0.self (sz := s.heap.size)
  have hl := lv_entry av (n := maxL) hn
  rw [lg_entry_eq]
  rw [hlv] at hl
  refine body ((G, tc), (p, l, e, s, m, av.toArray), (below, meth, c, rm, maxL), va_A (hw ad f N) s.heap.size, _) ⟨⟨rfl, rfl, rfl, rfl, rfl⟩, ⟨B.exec, B.bytes, hml, findClass_of_methodNamed B.named, atoms_spec (ws := ws) B.pre⟩, hK, hSS, fun q h => Or.inr h, hlocks⟩ (name_of_methodNamed B.named B.method).1 ?_ s.heap [] _ hP hD va_S.rf hl
  intro ad' N' f' pc lv' hd hp H locs ls hP hD hS hl
  exact W.vret B.exec B.bytes B.returns (fun t ht hW => ⟨⟨_, ad', N', f', rfl, hp, by rw [ht]; exact hP, hD⟩, hS.F ht⟩) hS.2.2 hd
theorem Ct.ofR {rt : String} (hy : plainName y.cls = true) (hw' : ws = Cond.code y cc maxL (some (.object rt)) :: ws') (hn : (lg_sl av).length ≤ maxL) (hlv : lv_args 0 av = lv)
    (body : ∀ X : XT, CC X G tc l cc y.cls ws maxL rm → (∀ ad' N' f' (a : Nat) pc lv', decode cc pc = .ok (.areturn, 1) → post (some (.ref a)) ad' N' f' → VV X ad' N' f' mc ms pc lv' [.ref a]) → VV X ad N f 0 0 0 lv []) : Ct G tc l y ws rm mc ms av ad N f post := by
  intro sz
  refine Met.ofW (cc := cc) (maxL := maxL) (ret := some (.object rt)) hy hw' ?_
  intro p e s m args below meth c s₁ B hml hv
  obtain ⟨rfl, hsz, hP, hK, hD0, hSS⟩ := hv
  have hlocks := B.notSynchronized
  subst hsz
  have hD := hD0.self (sz := s.heap.size)
  have hl := lv_entry av (n := maxL) hn
  rw [lg_entry_eq]
  rw [hlv] at hl
  refine body ((G, tc), (p, l, e, s, m, av.toArray), (below, meth, c, rm, maxL), va_A (hw ad f N) s.heap.size, _) ⟨⟨rfl, rfl, rfl, rfl, rfl⟩, ⟨B.exec, B.bytes, hml, findClass_of_methodNamed B.named, atoms_spec (ws := ws) B.pre⟩, hK, hSS, fun q h => Or.inr h, hlocks⟩ ?_ s.heap [] _ hP hD va_S.rf hl
  intro ad' N' f' a pc lv' hd hp H locs ls hP hD hS hl
  exact W.aret B.exec B.bytes B.returns (Or.inl ⟨_, rfl⟩) (Or.inr ⟨_, rfl⟩) (fun t ht hW => ⟨⟨_, ad', N', f', rfl, hp, by rw [ht]; exact hP, hD⟩, hS.F ht⟩) hS.2.2 hd
theorem Ct.ofL (hy : plainName y.cls = true) (hw' : ws = Cond.code y cc maxL (some .long) :: ws') (hn : (lg_sl av).length ≤ maxL) (hlv : lv_args 0 av = lv)
    (body : ∀ X : XT, CC X G tc l cc y.cls ws maxL rm → (∀ ad' N' f' (v : Int64) pc lv', decode cc pc = .ok (.lreturn, 1) → post (some (.long v)) ad' N' f' → VV X ad' N' f' mc ms pc lv' [.long v]) → VV X ad N f 0 0 0 lv []) : Ct G tc l y ws rm mc ms av ad N f post := by
  intro sz
  refine Met.ofW (cc := cc) (maxL := maxL) (ret := some .long) hy hw' ?_
  intro p e s m args below meth c s₁ B hml hv
  obtain ⟨rfl, hsz, hP, hK, hD0, hSS⟩ := hv
  have hlocks := B.notSynchronized
  subst hsz
  have hD := hD0.self (sz := s.heap.size)
  have hl := lv_entry av (n := maxL) hn
  rw [lg_entry_eq]
  rw [hlv] at hl
  refine body ((G, tc), (p, l, e, s, m, av.toArray), (below, meth, c, rm, maxL), va_A (hw ad f N) s.heap.size, _) ⟨⟨rfl, rfl, rfl, rfl, rfl⟩, ⟨B.exec, B.bytes, hml, findClass_of_methodNamed B.named, atoms_spec (ws := ws) B.pre⟩, hK, hSS, fun q h => Or.inr h, hlocks⟩ ?_ s.heap [] _ hP hD va_S.rf hl
  intro ad' N' f' v pc lv' hd hp H locs ls hP hD hS hl
  exact W.lret B.exec B.bytes B.returns (fun t ht hW => ⟨⟨_, ad', N', f', rfl, hp, by rw [ht]; exact hP, hD⟩, hS.F ht⟩) hS.2.2 hd
end LYR4
section LYR5
/-- the two common shapes: nothing is made; an int is answered, or nothing -/
def poI (ad : Nat → Nat) (N : Nat) (E : Int) (F : (Nat → va_E) → Prop) : Option Value → (Nat → Nat) → Nat → (Nat → va_E) → Prop := fun v ad' N' f' => ad' = ad ∧ N' = N ∧ v = some (.int (iI E)) ∧ F f'
def poA (ad : Nat → Nat) (N : Nat) (a : Nat) (F : (Nat → va_E) → Prop) : Option Value → (Nat → Nat) → Nat → (Nat → va_E) → Prop := fun v ad' N' f' => ad' = ad ∧ N' = N ∧ v = some (.ref a) ∧ F f'
def poJ (ad : Nat → Nat) (N : Nat) (P : Int64 → Prop) (F : (Nat → va_E) → Prop) : Option Value → (Nat → Nat) → Nat → (Nat → va_E) → Prop := fun v ad' N' f' => ad' = ad ∧ N' = N ∧ (∃ x, v = some (.long x) ∧ P x) ∧ F f'
def poV (ad : Nat → Nat) (N : Nat) (F : (Nat → va_E) → Prop) : Option Value → (Nat → Nat) → Nat → (Nat → va_E) → Prop := fun v ad' N' f' => ad' = ad ∧ N' = N ∧ v = none ∧ F f'
variable {X : XT} {G : va_G} {tc : Nat → ClassId} {l : Launch} {ad : Nat → Nat} {N : Nat} {f : Nat → va_E} {k n pc : Nat} {lv : List (Nat × Value)} {rest : List Value}
theorem aft_I {E : Int} {F : (Nat → va_E) → Prop} {pc' : Nat} (kk : ∀ f', F f' → VV X ad N f' k n pc' lv (.int (iI E) :: rest)) : ∀ v ad' N' f', poI ad N E F v ad' N' f' → VV X ad' N' f' k n pc' lv (v.toList ++ rest) := by
  rintro v ad' N' f' ⟨rfl, rfl, rfl, h⟩
  exact kk f' h
theorem aft_A {a : Nat} {F : (Nat → va_E) → Prop} {pc' : Nat} (kk : ∀ f', F f' → VV X ad N f' k n pc' lv (.ref a :: rest)) : ∀ v ad' N' f', poA ad N a F v ad' N' f' → VV X ad' N' f' k n pc' lv (v.toList ++ rest) := by
  rintro v ad' N' f' ⟨rfl, rfl, rfl, h⟩
  exact kk f' h
theorem aft_J {P : Int64 → Prop} {F : (Nat → va_E) → Prop} {pc' : Nat} (kk : ∀ f' x, F f' → P x → VV X ad N f' k n pc' lv (.long x :: rest)) : ∀ v ad' N' f', poJ ad N P F v ad' N' f' → VV X ad' N' f' k n pc' lv (v.toList ++ rest) := by
  rintro v ad' N' f' ⟨rfl, rfl, ⟨x, rfl, hx⟩, h⟩
  exact kk f' x h hx
theorem aft_V {F : (Nat → va_E) → Prop} {pc' : Nat} (kk : ∀ f', F f' → VV X ad N f' k n pc' lv rest) : ∀ v ad' N' f', poV ad N F v ad' N' f' → VV X ad' N' f' k n pc' lv (v.toList ++ rest) := by
  rintro v ad' N' f' ⟨rfl, rfl, rfl, h⟩
  exact kk f' h
variable {y : MethodName} {ws ws' : List Cond} {rm : Room} {maxL : Nat} {av : List Value} {cc : ByteArray}
theorem stI {E : Int} {F : (Nat → va_E) → Prop} (hy : plainName y.cls = true) (hw' : ws = Cond.code y cc maxL (some .int) :: ws') (hn : (lg_sl av).length ≤ maxL) (hlv : lv_args 0 av = lv)
    (body : ∀ X : XT, CC X G tc l cc y.cls ws maxL rm → (∀ f' (z : Int) pc lv', decode cc pc = .ok (.ireturn, 1) → z = E → F f' → VV X ad N f' 0 0 pc lv' [.int (iI z)]) → VV X ad N f 0 0 0 lv []) : Ct G tc l y ws rm 0 0 av ad N f (poI ad N E F) :=
  Ct.ofI hy hw' hn hlv (fun X C hr => body X C (fun f' z pc lv' hd hz hF => hr ad N f' (iI z) pc lv' hd ⟨rfl, rfl, by rw [hz], hF⟩))
theorem stZ {E : Int} {F : (Nat → va_E) → Prop} (hE : E = 0 ∨ E = 1) (hy : plainName y.cls = true) (hw' : ws = Cond.code y cc maxL (some .boolean) :: ws') (hn : (lg_sl av).length ≤ maxL) (hlv : lv_args 0 av = lv)
    (body : ∀ X : XT, CC X G tc l cc y.cls ws maxL rm → (∀ f' (z : Int) pc lv', decode cc pc = .ok (.ireturn, 1) → z = E → F f' → VV X ad N f' 0 0 pc lv' [.int (iI z)]) → VV X ad N f 0 0 0 lv []) : Ct G tc l y ws rm 0 0 av ad N f (poI ad N E F) :=
  Ct.ofZ hy hw' hn hlv (fun X C hr => body X C (fun f' z pc lv' hd hz hF => hr ad N f' (iI z) pc lv' hd (by rw [hz]; rcases hE with rfl | rfl <;> rfl) ⟨rfl, rfl, by rw [hz], hF⟩))
theorem stV {F : (Nat → va_E) → Prop} (hy : plainName y.cls = true) (hw' : ws = Cond.code y cc maxL none :: ws') (hn : (lg_sl av).length ≤ maxL) (hlv : lv_args 0 av = lv)
    (body : ∀ X : XT, CC X G tc l cc y.cls ws maxL rm → (∀ f' pc lv', decode cc pc = .ok (.return_, 1) → F f' → VV X ad N f' 0 0 pc lv' []) → VV X ad N f 0 0 0 lv []) : Ct G tc l y ws rm 0 0 av ad N f (poV ad N F) :=
  Ct.ofV hy hw' hn hlv (fun X C _ hr => body X C (fun f' pc lv' hd hF => hr ad N f' pc lv' hd ⟨rfl, rfl, rfl, hF⟩))
theorem stA {rt : String} {a : Nat} {F : (Nat → va_E) → Prop} (hy : plainName y.cls = true) (hw' : ws = Cond.code y cc maxL (some (.object rt)) :: ws') (hn : (lg_sl av).length ≤ maxL) (hlv : lv_args 0 av = lv)
    (body : ∀ X : XT, CC X G tc l cc y.cls ws maxL rm → (∀ f' pc lv', decode cc pc = .ok (.areturn, 1) → F f' → VV X ad N f' 0 0 pc lv' [.ref a]) → VV X ad N f 0 0 0 lv []) : Ct G tc l y ws rm 0 0 av ad N f (poA ad N a F) :=
  Ct.ofR hy hw' hn hlv (fun X C hr => body X C (fun f' pc lv' hd hF => hr ad N f' a pc lv' hd ⟨rfl, rfl, rfl, hF⟩))
theorem stJ {P : Int64 → Prop} {F : (Nat → va_E) → Prop} (hy : plainName y.cls = true) (hw' : ws = Cond.code y cc maxL (some .long) :: ws') (hn : (lg_sl av).length ≤ maxL) (hlv : lv_args 0 av = lv)
    (body : ∀ X : XT, CC X G tc l cc y.cls ws maxL rm → (∀ f' x pc lv', decode cc pc = .ok (.lreturn, 1) → P x → F f' → VV X ad N f' 0 0 pc lv' [.long x]) → VV X ad N f 0 0 0 lv []) : Ct G tc l y ws rm 0 0 av ad N f (poJ ad N P F) :=
  Ct.ofL hy hw' hn hlv (fun X C hr => body X C (fun f' x pc lv' hd hP hF => hr ad N f' x pc lv' hd ⟨rfl, rfl, ⟨x, rfl, hP⟩, hF⟩))
end LYR5
end
section
/-! WHAT A STATE IS: the pure value, and how the class and the reference hold it -/
section STT
/-- settings, lengths, signs, rows -/
abbrev NS : Type := (Nat → Nat) × (Nat → Nat) × (Nat → Nat) × Nat
def okN (n : NS) : Prop := (1 ≤ n.1 0 ∧ n.1 0 ≤ 4) ∧ (1 ≤ n.1 1 ∧ n.1 1 ≤ 32) ∧ (1 ≤ n.1 2 ∧ n.1 2 ≤ 1000002) ∧ n.1 3 ≤ 1000002 ∧ n.2.2.2 ≤ 10 ∧ (∀ r, r < 10 → n.2.1 r ≤ 64) ∧ ∀ j, j < 640 → n.2.2.1 j ≤ 26
/-- the words of a row: how many; values, codes, how often -/
abbrev WW : Type := Nat × (Nat → Nat) × (Nat → Nat) × (Nat → Nat)
def cod (g : Nat → Nat) (st : Nat) : Nat → Nat
  | 0 => 0
  | k + 1 => cod g st k * 27 + g (st + k)
def vlu (F O c : Nat) : Nat := (c * F + O) % 1000003
def posn (v : Nat → Nat) (x : Nat) : Nat → Nat
  | 0 => 0
  | n + 1 => if posn v x n < n then posn v x n else if v n < x then n + 1 else n
def insF (a : Nat → Nat) (n k x : Nat) : Nat → Nat := fun j => if j < k then a j else if j = k then x else if j ≤ n then a (j - 1) else a j
def ins (w : WW) (x c : Nat) : WW :=
  if posn w.2.1 x w.1 < w.1 ∧ w.2.1 (posn w.2.1 x w.1) = x then (w.1, w.2.1, w.2.2.1, fun j => if j = posn w.2.1 x w.1 then w.2.2.2 j + 1 else w.2.2.2 j)
  else (w.1 + 1, insF w.2.1 w.1 (posn w.2.1 x w.1) x, insF w.2.2.1 w.1 (posn w.2.1 x w.1) c, insF w.2.2.2 w.1 (posn w.2.1 x w.1) 1)
def gth (n : NS) (r : Nat) : Nat → WW
  | 0 => (0, fun _ => 0, fun _ => 0, fun _ => 0)
  | p + 1 => ins (gth n r p) (vlu (n.1 2) (n.1 3) (cod n.2.2.1 (r * 64 + p) (n.1 0))) (cod n.2.2.1 (r * 64 + p) (n.1 0))
/-- the words of row r -/
def wds (n : NS) (r : Nat) : WW := gth n r (n.2.1 r + 1 - n.1 0)
/-- the whole: now, history, how many of it, slots, which are saved, pad, its length -/
abbrev SG : Type := NS × (Nat → NS) × Nat × (Nat → NS) × (Nat → Bool) × (Nat → Nat) × Nat
abbrev cur (s : SG) : NS := s.1
abbrev hst (s : SG) : Nat → NS := s.2.1
abbrev kno (s : SG) : Nat := s.2.2.1
abbrev slo (s : SG) : Nat → NS := s.2.2.2.1
abbrev sav (s : SG) : Nat → Bool := s.2.2.2.2.1
abbrev pad (s : SG) : Nat → Nat := s.2.2.2.2.2.1
abbrev pln (s : SG) : Nat := s.2.2.2.2.2.2
def okS (s : SG) : Prop := okN (cur s) ∧ kno s ≤ 6 ∧ (∀ k, k < kno s → okN (hst s k)) ∧ (∀ k, k < 2 → sav s k = true → okN (slo s k)) ∧ pln s ≤ 64 ∧ ∀ j, j < 64 → pad s j ≤ 126
/-! the class's cells: 0 the object; 1 now; 5 history, 6.. its States; 30 slots, 31.. its States; 39 saved; 40 pad; 41 words, 42.. its Words; 82 gathered; 83 pair; 87 heads -/
abbrev oX (ad : Nat → Nat) (kn pl : Nat) : va_E := eO 3 [.ref (ad (1)), .ref (ad (5)), .int (iI ((kn : Nat) : Int)), .ref (ad (30)), .ref (ad (39)), .ref (ad (40)), .int (iI ((pl : Nat) : Int)), .ref (ad (41)), .ref (ad (82)), .ref (ad (83)), .ref (ad (87))]
abbrev oS (ad : Nat → Nat) (i R : Nat) : va_E := eO 1 [.ref (ad (i + 1)), .ref (ad (i + 2)), .ref (ad (i + 3)), .int (iI ((R : Nat) : Int))]
abbrev oW (ad : Nat → Nat) (i n : Nat) : va_E := eO 2 [.ref (ad (i + 1)), .ref (ad (i + 2)), .ref (ad (i + 3)), .int (iI ((n : Nat) : Int))]
def isSt (tc : Nat → ClassId) (ad : Nat → Nat) (f : Nat → va_E) (i : Nat) (n : NS) : Prop :=
  f i = oS ad i n.2.2.2 ∧ f (i + 1) = eI tc 4 (fun j => iI ((n.1 j : Nat) : Int)) ∧ f (i + 2) = eI tc 10 (fun j => iI ((n.2.1 j : Nat) : Int)) ∧ f (i + 3) = eI tc 640 (fun j => iI ((n.2.2.1 j : Nat) : Int))
def iHis (tc : Nat → ClassId) (ad : Nat → Nat) (f : Nat → va_E) (kn : Nat) (h : Nat → NS) : Prop := ∃ (pi : Nat → Nat) (hs : Nat → NS),
  f 5 = eS tc 6 (fun k => some (ad (6 + 4 * pi k))) ∧ (∀ k, k < 6 → pi k < 6) ∧ (∀ j k, j < 6 → k < 6 → pi j = pi k → j = k) ∧ (∀ k, k < 6 → isSt tc ad f (6 + 4 * k) (hs k)) ∧ ∀ k, k < kn → hs (pi k) = h k
def iSlo (tc : Nat → ClassId) (ad : Nat → Nat) (f : Nat → va_E) (sl : Nat → NS) (sv : Nat → Bool) : Prop := ∃ ss : Nat → NS,
  f 30 = eS tc 2 (fun k => some (ad (31 + 4 * k))) ∧ (∀ k, k < 2 → isSt tc ad f (31 + 4 * k) (ss k)) ∧ (∃ g : Nat → Int32, f 39 = eB tc 2 g ∧ ∀ k, k < 2 → g k = iI (((if sv k = true then 1 else 0) : Nat) : Int)) ∧ ∀ k, k < 2 → sv k = true → ss k = sl k
def iPad (tc : Nat → ClassId) (f : Nat → va_E) (p : Nat → Nat) : Prop := f 40 = eI tc 64 (fun j => iI ((p j : Nat) : Int))
def isWd (tc : Nat → ClassId) (ad : Nat → Nat) (f : Nat → va_E) (i : Nat) (w : WW) : Prop := ∃ v c t : Nat → Int32,
  f i = oW ad i w.1 ∧ f (i + 1) = eI tc 64 v ∧ f (i + 2) = eI tc 64 c ∧ f (i + 3) = eI tc 64 t ∧ ∀ j, j < w.1 → v j = iI ((w.2.1 j : Nat) : Int) ∧ c j = iI ((w.2.2.1 j : Nat) : Int) ∧ t j = iI ((w.2.2.2 j : Nat) : Int)
def iWds (tc : Nat → ClassId) (ad : Nat → Nat) (f : Nat → va_E) (n : NS) : Prop := ∃ (gt : Nat → Int32) (wd : Nat → WW),
  f 41 = eW tc 10 (fun k => some (ad (42 + 4 * k))) ∧ f 82 = eB tc 10 gt ∧ (∀ k, k < 10 → isWd tc ad f (42 + 4 * k) (wd k)) ∧ ∀ k, k < 10 → gt k = iI ((0 : Nat) : Int) ∨ (gt k = iI ((1 : Nat) : Int) ∧ wd k = wds n k)
def iPr (tc : Nat → ClassId) (ad : Nat → Nat) (f : Nat → va_E) : Prop := ∃ (x1 x2 x3 x4 : Int32) (b1 b2 b3 : Nat → Int32),
  f 83 = eO 0 [.ref (ad (84)), .ref (ad (85)), .ref (ad (86)), .int (x1), .int (x2), .int (x3), .int (x4)] ∧ f 84 = eI tc 33 b1 ∧ f 85 = eI tc 33 b2 ∧ f 86 = eI tc 33 b3 ∧ b1 0 = iI ((0 : Nat) : Int) ∧ b2 0 = iI ((0 : Nat) : Int) ∧ b3 0 = iI ((0 : Nat) : Int)
def iHd (tc : Nat → ClassId) (f : Nat → va_E) : Prop := ∃ h : Nat → Int32, f 87 = eI tc 10 h
def XI (tc : Nat → ClassId) (ad : Nat → Nat) (f : Nat → va_E) (s : SG) : Prop :=
  f 0 = oX ad (kno s) (pln s) ∧ isSt tc ad f 1 (cur s) ∧ iHis tc ad f (kno s) (hst s) ∧ iSlo tc ad f (slo s) (sav s) ∧ iPad tc f (pad s) ∧ iWds tc ad f (cur s) ∧ iPr tc ad f ∧ iHd tc f
/-! the reference's cells: 88 the object; 89 now; 90 before; 91 stored; 92 isStored; 93 pad; 94 codes; 95 values; 96 often; 97 words -/
def nwF (n : NS) : Nat → Nat := fun j => if j < 4 then n.1 j else if j = 4 then n.2.2.2 else if j < 15 then n.2.1 (j - 5) else n.2.2.1 (j - 15)
abbrev oM (ad : Nat → Nat) (kn pl : Nat) (x1 x2 x3 x4 : Int32) : va_E := eO 4 [.ref (ad (89)), .ref (ad (90)), .int (iI ((kn : Nat) : Int)), .ref (ad (91)), .ref (ad (92)), .ref (ad (93)), .int (iI ((pl : Nat) : Int)), .ref (ad (94)), .ref (ad (95)), .ref (ad (96)), .ref (ad (97)), .int (x1), .int (x2), .int (x3), .int (x4)]
def mBf (tc : Nat → ClassId) (f : Nat → va_E) (kn : Nat) (h : Nat → NS) : Prop := ∃ b : Nat → Int32, f 90 = eI tc 3930 b ∧ ∀ k, k < kn → ∀ j, j < 655 → b (655 * k + j) = iI ((nwF (h k) j : Nat) : Int)
def mSt (tc : Nat → ClassId) (f : Nat → va_E) (sl : Nat → NS) (sv : Nat → Bool) : Prop := ∃ b : Nat → Int32, f 91 = eI tc 1310 b ∧ ∀ k, k < 2 → sv k = true → ∀ j, j < 655 → b (655 * k + j) = iI ((nwF (sl k) j : Nat) : Int)
def mSc (tc : Nat → ClassId) (f : Nat → va_E) : Prop := ∃ c v o w : Nat → Int32, f 94 = eI tc 128 c ∧ f 95 = eI tc 128 v ∧ f 96 = eI tc 128 o ∧ f 97 = eI tc 2 w
def MI (tc : Nat → ClassId) (ad : Nat → Nat) (f : Nat → va_E) (s : SG) : Prop :=
  (∃ x1 x2 x3 x4 : Int32, f 88 = oM ad (kno s) (pln s) x1 x2 x3 x4) ∧ f 89 = eI tc 655 (fun j => iI ((nwF (cur s) j : Nat) : Int)) ∧ mBf tc f (kno s) (hst s) ∧ mSt tc f (slo s) (sav s) ∧ (∃ g : Nat → Int32, f 92 = eB tc 2 g ∧ ∀ k, k < 2 → g k = iI (((if sav s k = true then 1 else 0) : Nat) : Int)) ∧ f 93 = eI tc 64 (fun j => iI ((pad s j : Nat) : Int)) ∧ mSc tc f
variable {tc : Nat → ClassId} {ad : Nat → Nat} {f f' : Nat → va_E}
theorem isSt.fr {i : Nat} {n : NS} (h : isSt tc ad f i n) (hq : ∀ q, i ≤ q → q < i + 4 → f' q = f q) : isSt tc ad f' i n :=
  ⟨(hq _ (by omega) (by omega)).trans h.1, (hq _ (by omega) (by omega)).trans h.2.1, (hq _ (by omega) (by omega)).trans h.2.2.1, (hq _ (by omega) (by omega)).trans h.2.2.2⟩
theorem isWd.fr {i : Nat} {w : WW} (h : isWd tc ad f i w) (hq : ∀ q, i ≤ q → q < i + 4 → f' q = f q) : isWd tc ad f' i w := by
  obtain ⟨v, c, t, h1, h2, h3, h4, h5⟩ := h
  exact ⟨v, c, t, (hq _ (by omega) (by omega)).trans h1, (hq _ (by omega) (by omega)).trans h2, (hq _ (by omega) (by omega)).trans h3, (hq _ (by omega) (by omega)).trans h4, h5⟩
theorem iHis.fr {kn : Nat} {h : Nat → NS} (hh : iHis tc ad f kn h) (hq : ∀ q, 5 ≤ q → q < 30 → f' q = f q) : iHis tc ad f' kn h := by
  obtain ⟨p, hs, h1, h2, h3, h4, h5⟩ := hh
  exact ⟨p, hs, (hq _ (by omega) (by omega)).trans h1, h2, h3, fun k hk => (h4 k hk).fr (fun q g1 g2 => hq q (by omega) (by omega)), h5⟩
theorem iSlo.fr {sl : Nat → NS} {sv : Nat → Bool} (h : iSlo tc ad f sl sv) (hq : ∀ q, 30 ≤ q → q < 40 → f' q = f q) : iSlo tc ad f' sl sv := by
  obtain ⟨ss, h1, h2, ⟨g, h3, h5⟩, h4⟩ := h
  exact ⟨ss, (hq _ (by omega) (by omega)).trans h1, fun k hk => (h2 k hk).fr (fun q g1 g2 => hq q (by omega) (by omega)), ⟨g, (hq _ (by omega) (by omega)).trans h3, h5⟩, h4⟩
theorem iPad.fr {p : Nat → Nat} (h : iPad tc f p) (hq : f' 40 = f 40) : iPad tc f' p := hq.trans h
theorem iWds.fr {n : NS} (h : iWds tc ad f n) (hq : ∀ q, 41 ≤ q → q < 83 → f' q = f q) : iWds tc ad f' n := by
  obtain ⟨gt, wd, h1, h2, h3, h4⟩ := h
  exact ⟨gt, wd, (hq _ (by omega) (by omega)).trans h1, (hq _ (by omega) (by omega)).trans h2, fun k hk => (h3 k hk).fr (fun q g1 g2 => hq q (by omega) (by omega)), h4⟩
theorem iPr.fr (h : iPr tc ad f) (hq : ∀ q, 83 ≤ q → q < 87 → f' q = f q) : iPr tc ad f' := by
  obtain ⟨x1, x2, x3, x4, b1, b2, b3, h1, h2, h3, h4, h5⟩ := h
  exact ⟨x1, x2, x3, x4, b1, b2, b3, (hq _ (by omega) (by omega)).trans h1, (hq _ (by omega) (by omega)).trans h2, (hq _ (by omega) (by omega)).trans h3, (hq _ (by omega) (by omega)).trans h4, h5⟩
theorem iHd.fr (h : iHd tc f) (hq : f' 87 = f 87) : iHd tc f' := by
  obtain ⟨x, h1⟩ := h
  exact ⟨x, hq.trans h1⟩
theorem XI.fr {s : SG} (h : XI tc ad f s) (hq : ∀ q, q < 88 → f' q = f q) : XI tc ad f' s :=
  ⟨(hq _ (by omega)).trans h.1, h.2.1.fr (fun q _ g => hq q (by omega)), h.2.2.1.fr (fun q _ g => hq q (by omega)), h.2.2.2.1.fr (fun q _ g => hq q (by omega)), h.2.2.2.2.1.fr (hq _ (by omega)), h.2.2.2.2.2.1.fr (fun q _ g => hq q (by omega)), h.2.2.2.2.2.2.1.fr (fun q _ g => hq q (by omega)), h.2.2.2.2.2.2.2.fr (hq _ (by omega))⟩
theorem mBf.fr {kn : Nat} {h : Nat → NS} (hh : mBf tc f kn h) (hq : f' 90 = f 90) : mBf tc f' kn h := by
  obtain ⟨b, h1, h2⟩ := hh
  exact ⟨b, hq.trans h1, h2⟩
theorem mSt.fr {sl : Nat → NS} {sv : Nat → Bool} (hh : mSt tc f sl sv) (hq : f' 91 = f 91) : mSt tc f' sl sv := by
  obtain ⟨b, h1, h2⟩ := hh
  exact ⟨b, hq.trans h1, h2⟩
theorem mSc.fr (h : mSc tc f) (hq : ∀ q, 94 ≤ q → q < 98 → f' q = f q) : mSc tc f' := by
  obtain ⟨c, v, o, w, h1, h2, h3, h4⟩ := h
  exact ⟨c, v, o, w, (hq _ (by omega) (by omega)).trans h1, (hq _ (by omega) (by omega)).trans h2, (hq _ (by omega) (by omega)).trans h3, (hq _ (by omega) (by omega)).trans h4⟩
theorem MI.fr {s : SG} (h : MI tc ad f s) (hq : ∀ q, 88 ≤ q → q < 98 → f' q = f q) : MI tc ad f' s := by
  obtain ⟨⟨x1, x2, x3, x4, h1⟩, h2, h3, h4, ⟨g, h5, h5'⟩, h6, h7⟩ := h
  exact ⟨⟨x1, x2, x3, x4, (hq _ (by omega) (by omega)).trans h1⟩, (hq _ (by omega) (by omega)).trans h2, h3.fr (hq _ (by omega) (by omega)), h4.fr (hq _ (by omega) (by omega)), ⟨g, (hq _ (by omega) (by omega)).trans h5, h5'⟩, (hq _ (by omega) (by omega)).trans h6, h7.fr (fun q g1 g2 => hq q (by omega) (by omega))⟩
theorem posn_le (v : Nat → Nat) (x : Nat) : ∀ n, posn v x n ≤ n
  | 0 => Nat.le_refl _
  | n + 1 => by
    have h := posn_le v x n
    unfold posn
    split
    · omega
    · split <;> omega
theorem posn_lt (v : Nat → Nat) (x : Nat) : ∀ n j, j < posn v x n → v j < x
  | 0, j, h => absurd h (Nat.not_lt_zero _)
  | n + 1, j, h => by
    have h0 := posn_le v x n
    unfold posn at h
    split at h
    · exact posn_lt v x n j h
    · rename_i h1
      split at h
      · rename_i h2
        rcases Nat.lt_or_ge j n with q | q
        · exact posn_lt v x n j (by omega)
        · have : j = n := by omega
          subst this
          exact h2
      · exact posn_lt v x n j (by omega)
theorem posn_ge (v : Nat → Nat) (x : Nat) : ∀ n, posn v x n < n → ¬ v (posn v x n) < x
  | 0, h => absurd h (Nat.not_lt_zero _)
  | n + 1, h => by
    have h0 := posn_le v x n
    unfold posn at h ⊢
    split at h
    · rename_i h1
      rw [if_pos h1]
      exact posn_ge v x n h1
    · rename_i h1
      rw [if_neg h1]
      split at h
      · omega
      · rename_i h2
        rw [if_neg h2]
        exact h2
theorem posn_eq {v : Nat → Nat} {x n k : Nat} (h1 : k ≤ n) (h2 : ∀ j, j < k → v j < x) (h3 : k < n → ¬ v k < x) : posn v x n = k := by
  have a := posn_le v x n
  rcases Nat.lt_trichotomy (posn v x n) k with h | h | h
  · exact absurd (h2 _ h) (posn_ge v x n (by omega))
  · exact h
  · exact absurd (posn_lt v x n k h) (h3 (by omega))
end STT
end
section
section PUR
/-! pure operations on the state -/
def upN (a : Nat → Nat) (i v : Nat) : Nat → Nat := fun j => if j = i then v else a j
theorem updN (a : Nat → Nat) (k v : Nat) : upd (fun j => iI ((a j : Nat) : Int)) k (iI ((v : Nat) : Int)) = fun j => iI ((upN a k v j : Nat) : Int) := by
  funext j
  unfold upd upN
  split <;> rfl
def frst (b : Nat → Bool) : Nat → Nat
  | 0 => 0
  | n + 1 => if frst b n < n then frst b n else if b n = true then n else n + 1
theorem frst_le (b : Nat → Bool) : ∀ n, frst b n ≤ n
  | 0 => Nat.le_refl _
  | n + 1 => by
    have h := frst_le b n
    unfold frst
    split
    · omega
    · split <;> omega
theorem frst_no (b : Nat → Bool) : ∀ n j, j < frst b n → b j = false
  | 0, j, h => absurd h (Nat.not_lt_zero _)
  | n + 1, j, h => by
    have h0 := frst_le b n
    unfold frst at h
    split at h
    · exact frst_no b n j h
    · rename_i h1
      split at h
      · exact frst_no b n j (by omega)
      · rename_i h2
        rcases Nat.lt_or_ge j n with q | q
        · exact frst_no b n j (by omega)
        · have : j = n := by omega
          subst this
          simpa using h2
theorem frst_yes (b : Nat → Bool) : ∀ n, frst b n < n → b (frst b n) = true
  | 0, h => absurd h (Nat.lt_irrefl _)
  | n + 1, h => by
    have h0 := frst_le b n
    unfold frst at h ⊢
    split at h
    · rename_i h1
      rw [if_pos h1]
      exact frst_yes b n h1
    · rename_i h1
      rw [if_neg h1]
      split at h
      · rename_i h2
        rw [if_pos h2]
        exact h2
      · omega
theorem frst_eq {b : Nat → Bool} {n k : Nat} (h1 : k ≤ n) (h2 : ∀ j, j < k → b j = false) (h3 : k < n → b k = true) : frst b n = k := by
  have a := frst_le b n
  rcases Nat.lt_trichotomy (frst b n) k with h | h | h
  · have := frst_yes b n (by omega)
    rw [h2 _ h] at this
    cases this
  · exact h
  · have := frst_no b n k h
    rw [h3 (by omega)] at this
    cases this
/-- a sign's number, for a character that is one -/
def okc (c : Nat) : Bool := decide (c = 46 ∨ (97 ≤ c ∧ c ≤ 122))
def sgn (c : Nat) : Nat := if c = 46 then 26 else c - 97
def sgnI (c : Int) : Int := if c = 46 then 26 else if 97 ≤ c ∧ c ≤ 122 then c - 97 else -6
theorem sgnI_ok {c : Nat} (h : okc c = true) : sgnI (c : Int) = ((sgn c : Nat) : Int) := by
  simp only [okc, decide_eq_true_eq] at h
  unfold sgnI sgn
  split
  · rw [if_pos (by omega)]; rfl
  · rw [if_pos (by omega), if_neg (by omega)]; omega
theorem sgnI_no {c : Nat} (h : okc c = false) : sgnI (c : Int) = -6 := by
  simp only [okc, decide_eq_false_iff_not] at h
  unfold sgnI
  rw [if_neg (by omega), if_neg (by omega)]
theorem sgn_le {c : Nat} (h : okc c = true) : sgn c ≤ 26 := by
  simp only [okc, decide_eq_true_eq] at h
  unfold sgn
  split <;> omega
def faN (p : Nat → Nat) (n : Nat) : Nat := frst (fun j => !okc (p j)) n
def fau (p : Nat → Nat) (n : Nat) : Int := if n = 0 then 0 else if faN p n < n then ((faN p n : Nat) : Int) else -6
theorem fau_ok {p : Nat → Nat} {n : Nat} (h : fau p n = -6) : 0 < n ∧ ∀ j, j < n → okc (p j) = true := by
  unfold fau at h
  split at h
  · omega
  · split at h
    · omega
    · refine ⟨by omega, fun j hj => ?_⟩
      have h0 := frst_le (fun j => !okc (p j)) n
      have h1 : faN p n = n := by unfold faN at *; omega
      have := frst_no (fun j => !okc (p j)) n j (by unfold faN at h1; omega)
      simpa using this
def powr (g : Nat → Nat) (st : Nat) (p : Nat → Nat) (k : Nat) : Nat → Nat := fun j => if st ≤ j ∧ j < st + k then sgn (p (j - st)) else g j
theorem powr_0 (g : Nat → Nat) (st : Nat) (p : Nat → Nat) : powr g st p 0 = g := by
  funext j
  unfold powr
  rw [if_neg (by omega)]
theorem powr_s (g : Nat → Nat) (st : Nat) (p : Nat → Nat) (k : Nat) : upN (powr g st p k) (st + k) (sgn (p k)) = powr g st p (k + 1) := by
  funext j
  unfold upN powr
  by_cases h : j = st + k
  · rw [if_pos h, if_pos (by omega), h, Nat.add_sub_cancel_left]
  · rw [if_neg h]
    by_cases h2 : st ≤ j ∧ j < st + k
    · rw [if_pos h2, if_pos (by omega)]
    · rw [if_neg h2, if_neg (by omega)]
/-- the pad goes behind a row -/
def pour (n : NS) (r : Nat) (p : Nat → Nat) (k : Nat) : NS := (n.1, upN n.2.1 r (n.2.1 r + k), powr n.2.2.1 (r * 64 + n.2.1 r) p k, n.2.2.2)
/-- one more state is known -/
def hpush (h : Nat → NS) (kn : Nat) (n : NS) : Nat → NS := if kn < 6 then (fun k => if k = kn then n else h k) else (fun k => if k = 5 then n else h (k + 1))
def kpush (kn : Nat) : Nat := if kn < 6 then kn + 1 else 6
def knowS (s : SG) : SG := (cur s, hpush (hst s) (kno s) (cur s), kpush (kno s), slo s, sav s, pad s, pln s)
def setC (s : SG) (n : NS) : SG := (n, s.2)
def setP (s : SG) (p : Nat → Nat) (k : Nat) : SG := (cur s, hst s, kno s, slo s, sav s, p, k)
variable {X : XT} {G : va_G} {tc : Nat → ClassId} {l : Launch} {cc : ByteArray} {own : String} {Ts : List Cond} {nL : Nat} {R : Room} {ad : Nat → Nat} {N : Nat} {f : Nat → va_E} {k n pc : Nat} {lv lv' : List (Nat × Value)} {st : List Value}
theorem r_cv1 {i len : Nat} {c : ClassId} {g : Nat → Int32} (hf : f i = .inl (c, len, .inl g)) (h : Nat → Int32) (he : ∀ j, j < len → g j = h j) (kk : ∀ f', f' i = .inl (c, len, .inl h) → (∀ q, q ≠ i → f' q = f q) → VV X ad N f' k n pc lv st) : VV X ad N f k n pc lv st := by
  refine r_conv (f' := va_up f i (.inl (c, len, .inl h))) (fun q _ => ?_) (kk _ (by simp [va_up]) (fun q hq => by simp [va_up, hq]))
  by_cases hq : q = i
  · subst hq
    exact Or.inr ⟨c, len, g, h, hf, by simp [va_up], he⟩
  · exact Or.inl (by simp [va_up, hq])
def rot (p : Nat → Nat) (c : Nat) : Nat → Nat := fun k => if k + 1 < c then p (k + 1) else p k
def rotF (p : Nat → Nat) : Nat → Nat := fun k => if k < 5 then p (k + 1) else if k = 5 then p 0 else p k
theorem rot_1 (p : Nat → Nat) : rot p 1 = p := by
  funext k
  unfold rot
  rw [if_neg (by omega)]
theorem rot_s (p : Nat → Nat) {c : Nat} (hc : 1 ≤ c) (ad : Nat → Nat) : va_up (fun k => some (ad (6 + 4 * rot p c k))) (c - 1) (some (ad (6 + 4 * rot p c c))) = fun k => some (ad (6 + 4 * rot p (c + 1) k)) := by
  funext k
  unfold va_up
  by_cases h : k = c - 1
  · rw [if_pos h]
    unfold rot
    rw [if_neg (by omega), if_pos (by omega), h, show c - 1 + 1 = c from by omega]
  · rw [if_neg h]
    unfold rot
    dsimp only
    by_cases h2 : k + 1 < c
    · rw [if_pos h2, if_pos (by omega)]
    · rw [if_neg h2, if_neg (by omega)]
theorem rot_e (p : Nat → Nat) (ad : Nat → Nat) : va_up (fun k => some (ad (6 + 4 * rot p 6 k))) 5 (some (ad (6 + 4 * p 0))) = fun k => some (ad (6 + 4 * rotF p k)) := by
  funext k
  unfold va_up rot rotF
  dsimp only
  by_cases h : k = 5
  · rw [if_pos h, if_neg (by omega), if_pos h]
  · rw [if_neg h]
    by_cases h2 : k < 5
    · rw [if_pos (by omega), if_pos h2]
    · rw [if_neg (by omega), if_neg h2, if_neg h]
theorem rotF_lt {p : Nat → Nat} (h : ∀ k, k < 6 → p k < 6) : ∀ k, k < 6 → rotF p k < 6 := by
  intro k hk
  unfold rotF
  split
  · exact h _ (by omega)
  · split
    · exact h _ (by omega)
    · exact h _ hk
theorem rotF_inj {p : Nat → Nat} (h : ∀ j k, j < 6 → k < 6 → p j = p k → j = k) : ∀ j k, j < 6 → k < 6 → rotF p j = rotF p k → j = k := by
  intro j k hj hk e
  unfold rotF at e
  by_cases h1 : j < 5 <;> by_cases h2 : k < 5
  · rw [if_pos h1, if_pos h2] at e
    have := h _ _ (by omega) (by omega) e
    omega
  · rw [if_pos h1, if_neg h2, if_pos (by omega)] at e
    have := h _ _ (by omega) (by omega) e
    omega
  · rw [if_neg h1, if_pos h2, if_pos (by omega)] at e
    have := h _ _ (by omega) (by omega) e
    omega
  · omega
/-- the world of the class when no words are gathered -/
def XJ (tc : Nat → ClassId) (ad : Nat → Nat) (f : Nat → va_E) (s : SG) : Prop :=
  f 0 = oX ad (kno s) (pln s) ∧ isSt tc ad f 1 (cur s) ∧ iHis tc ad f (kno s) (hst s) ∧ iSlo tc ad f (slo s) (sav s) ∧ iPad tc f (pad s) ∧ (∀ n, iWds tc ad f n) ∧ iPr tc ad f ∧ iHd tc f
theorem XJ.XI {s : SG} (h : XJ tc ad f s) : XI tc ad f s := ⟨h.1, h.2.1, h.2.2.1, h.2.2.2.1, h.2.2.2.2.1, h.2.2.2.2.2.1 _, h.2.2.2.2.2.2⟩
theorem his_upd {f f' : Nat → va_E} {kn : Nat} {h : Nat → NS} {n : NS} {pi : Nat → Nat} {hs : Nat → NS} (h5 : f' 5 = eS tc 6 (fun k => some (ad (6 + 4 * pi k)))) (hp : ∀ k, k < 6 → pi k < 6) (hj : ∀ j k, j < 6 → k < 6 → pi j = pi k → j = k) (hst : ∀ k, k < 6 → isSt tc ad f (6 + 4 * k) (hs k)) (hv : ∀ k, k < kn → hs (pi k) = h k) (hk : kn < 6) (hc : isSt tc ad f' (6 + 4 * pi kn) n) (hfr : ∀ q, 6 ≤ q → q < 30 → (q < 6 + 4 * pi kn ∨ 6 + 4 * pi kn + 4 ≤ q) → f' q = f q) : iHis tc ad f' (kn + 1) (fun k => if k = kn then n else h k) := by
  refine ⟨pi, fun k => if k = pi kn then n else hs k, h5, hp, hj, fun k hk6 => ?_, fun k hkk => ?_⟩
  · dsimp only
    by_cases e : k = pi kn
    · rw [if_pos e, e]
      exact hc
    · rw [if_neg e]
      exact (hst k hk6).fr (fun q g1 g2 => hfr q (by omega) (by omega) (by omega))
  · dsimp only
    by_cases e : k = kn
    · rw [if_pos (by rw [e]), if_pos e]
    · rw [if_neg (fun e2 => e (hj _ _ (by omega) hk e2)), if_neg e]
      exact hv k (by omega)
end PUR
end
section
section XS1
theorem sgnI_rng (c : Int) : -6 ≤ sgnI c ∧ sgnI c ≤ 26 := by
  unfold sgnI
  omega
theorem ok_step {p : Nat → Nat} {k : Nat} (hb : ∀ j, j < k → okc (p j) = true) (h : ¬ sgnI ((p k : Nat) : Int) = -6) : ∀ j, j < k + 1 → okc (p j) = true := by
  intro j hj
  rcases Nat.lt_or_ge j k with q | q
  · exact hb j q
  · have e : j = k := by omega
    subst e
    cases h1 : okc (p j)
    · exact absurd (sgnI_no h1) h
    · rfl
theorem fau_hit {p : Nat → Nat} {n k : Nat} (hk : k < n) (hb : ∀ j, j < k → okc (p j) = true) (h : sgnI ((p k : Nat) : Int) = -6) : fau p n = ((k : Nat) : Int) := by
  have h1 : okc (p k) = false := by
    cases h1 : okc (p k)
    · rfl
    · rw [sgnI_ok h1] at h
      omega
  have e : faN p n = k := frst_eq (by omega) (fun j hj => by simp [hb j hj]) (fun _ => by simp [h1])
  unfold fau
  rw [if_neg (by omega), if_pos (by omega), e]
theorem fau_end {p : Nat → Nat} {n : Nat} (hn : 0 < n) (hb : ∀ j, j < n → okc (p j) = true) : fau p n = -6 := by
  have e : faN p n = n := frst_eq (Nat.le_refl _) (fun j hj => by simp [hb j hj]) (fun h => absurd h (Nat.lt_irrefl _))
  unfold fau
  rw [if_neg (by omega), if_neg (by omega)]
set_option maxHeartbeats 4000000 in
set_option maxRecDepth 100000 in
/-- noRow(z): 0 if z is a row -/
theorem c_X3_noRow (G : va_G) (tc : Nat → ClassId) (l : Launch) (ad : Nat → Nat) (N : Nat) (f : Nat → va_E) (s : SG) (hX : XI tc ad f s) (ho : okS s) (hN : 98 ≤ N) (z : Int) (hz : inR z)   : Ct G tc l yX3_noRow wsX3_noRow { frames := 0, cells := 0, slots := 0, locals := 0 } 0 0 [.ref (ad (0)), .int (iI (z))] ad N f (poI ad N (if 0 ≤ z ∧ z < (((cur s).2.2.2 : Nat) : Int) then 0 else 1) (fun f' => f' = f)) := by
  obtain ⟨h0, ⟨h1, h2, h3, h4⟩, hHis, hSlo, h40, hWds, hPr, hHd⟩ := id hX
  obtain ⟨⟨⟨a1, a2⟩, ⟨a3, a4⟩, ⟨a5, a6⟩, a7, a8, a9, a10⟩, o2, o3, o4, o5, o6⟩ := id ho
  refine stZ (by omega) (cc := cX3_noRow) (maxL := 2) (lv := [(0, .ref (ad (0))), (1, .int (iI (z)))]) (by decide) rfl (Nat.le_of_ble_eq_true rfl) rfl (fun X C hret => ?_)
  have m0 : Cond.fieldLink RX3 10 "WordSamples" "now" "LWordSamples$State;" ∈ wsX3_noRow := by decide +kernel
  have m1 : ∀ w ∈ wsX30, w ∈ wsX3_noRow := by decide +kernel
  have m2 : Cond.fieldLink RX3 74 "WordSamples$State" "rows" "I" ∈ wsX3_noRow := by decide +kernel
  have m3 : ∀ w ∈ wsX10, w ∈ wsX3_noRow := by decide +kernel
  refine r_iload_n C dX3_noRow_0 rfl rfl ?_
  refine r_if_lt (tgt := 15) C ⟨by omega, by omega⟩ dX3_noRow_1 (by decide) (fun b1 => ?_) (fun b1 => ?_)
  · refine r_iconst C ((1 : Nat) : Int) (by decide) dX3_noRow_15 ?_
    refine r_goto (tgt := 20) C dX3_noRow_16 (by decide) ?_
    exact hret f ((1 : Nat) : Int) _ _ dX3_noRow_20 (by omega) rfl
  · refine r_iload_n C dX3_noRow_4 rfl rfl ?_
    refine r_aload_n C dX3_noRow_5 rfl rfl ?_
    refine r_get (v := .ref (ad (1))) C (by omega) h0 (show vwCl[3]? = some (RX3, TX3, 11) from rfl) m1 0 (by decide) m0 rfl rfl dX3_noRow_6 ?_
    refine r_get (v := .int (iI (((cur s).2.2.2 : Nat) : Int))) C (by omega) h1 (show vwCl[1]? = some (RX1, TX1, 4) from rfl) m3 3 (by decide) m2 rfl rfl dX3_noRow_9 ?_
    refine r_icmp_lt (tgt := 19) C ⟨by omega, by omega⟩ ⟨by omega, by omega⟩ dX3_noRow_12 (by decide) (fun b2 => ?_) (fun b2 => ?_)
    · refine r_iconst C ((0 : Nat) : Int) (by decide) dX3_noRow_19 ?_
      exact hret f ((0 : Nat) : Int) _ _ dX3_noRow_20 (by omega) rfl
    · refine r_iconst C ((1 : Nat) : Int) (by decide) dX3_noRow_15 ?_
      refine r_goto (tgt := 20) C dX3_noRow_16 (by decide) ?_
      exact hret f ((1 : Nat) : Int) _ _ dX3_noRow_20 (by omega) rfl
set_option maxHeartbeats 4000000 in
set_option maxRecDepth 100000 in
/-- noPlace(z, p): 0 if p is a place of row z -/
theorem c_X3_noPlace (G : va_G) (tc : Nat → ClassId) (l : Launch) (ad : Nat → Nat) (N : Nat) (f : Nat → va_E) (s : SG) (hX : XI tc ad f s) (ho : okS s) (hN : 98 ≤ N) (z p : Int) (hz : inR z) (hp : inR p)   : Ct G tc l yX3_noPlace wsX3_noPlace { frames := 1, cells := 0, slots := 0, locals := 21 } 0 0 [.ref (ad (0)), .int (iI (z)), .int (iI (p))] ad N f (poI ad N (if 0 ≤ z ∧ z < (((cur s).2.2.2 : Nat) : Int) ∧ 0 ≤ p ∧ p < (((cur s).2.1 z.toNat : Nat) : Int) then 0 else 1) (fun f' => f' = f)) := by
  obtain ⟨h0, ⟨h1, h2, h3, h4⟩, hHis, hSlo, h40, hWds, hPr, hHd⟩ := id hX
  obtain ⟨⟨⟨a1, a2⟩, ⟨a3, a4⟩, ⟨a5, a6⟩, a7, a8, a9, a10⟩, o2, o3, o4, o5, o6⟩ := id ho
  refine stZ (by omega) (cc := cX3_noPlace) (maxL := 3) (lv := [(0, .ref (ad (0))), (1, .int (iI (z))), (2, .int (iI (p)))]) (by decide) rfl (Nat.le_of_ble_eq_true rfl) rfl (fun X C hret => ?_)
  have m0 : Cond.fieldLink RX3 10 "WordSamples" "now" "LWordSamples$State;" ∈ wsX3_noPlace := by decide +kernel
  have m1 : ∀ w ∈ wsX30, w ∈ wsX3_noPlace := by decide +kernel
  have m2 : Cond.fieldLink RX3 77 "WordSamples$State" "lengths" "[I" ∈ wsX3_noPlace := by decide +kernel
  have m3 : ∀ w ∈ wsX10, w ∈ wsX3_noPlace := by decide +kernel
  refine r_aload_n C dX3_noPlace_0 rfl rfl ?_
  refine r_iload_n C dX3_noPlace_1 rfl rfl ?_
  refine r_callV (As := [.int (iI (z))]) (rest := []) (na := 1) C (c_X3_noRow G tc l ad N f s hX ho hN z hz) gX3_noPlace_X3_noRow rfl rfl rfl (by decide +kernel) ⟨Nat.le_of_ble_eq_true rfl, Nat.le_of_ble_eq_true rfl⟩ (by omega) h0 (show vwCl[3]? = some (RX3, TX3, 11) from rfl) rfl rfl (Nat.le_of_ble_eq_true rfl) dX3_noPlace_2 ⟨Nat.le_of_ble_eq_true rfl, Nat.le_of_ble_eq_true rfl⟩ (aft_I (fun f1 hF2 => ?_))
  rw [hF2]
  refine r_if_ne (tgt := 25) C ⟨by omega, by omega⟩ dX3_noPlace_5 (by decide) (fun b3 => ?_) (fun b3 => ?_)
  · refine r_iconst C ((1 : Nat) : Int) (by decide) dX3_noPlace_25 ?_
    refine r_goto (tgt := 30) C dX3_noPlace_26 (by decide) ?_
    exact hret f ((1 : Nat) : Int) _ _ dX3_noPlace_30 (by omega) rfl
  · refine r_iload_n C dX3_noPlace_8 rfl rfl ?_
    refine r_if_lt (tgt := 25) C ⟨by omega, by omega⟩ dX3_noPlace_9 (by decide) (fun b4 => ?_) (fun b4 => ?_)
    · refine r_iconst C ((1 : Nat) : Int) (by decide) dX3_noPlace_25 ?_
      refine r_goto (tgt := 30) C dX3_noPlace_26 (by decide) ?_
      exact hret f ((1 : Nat) : Int) _ _ dX3_noPlace_30 (by omega) rfl
    · refine r_iload_n C dX3_noPlace_12 rfl rfl ?_
      refine r_aload_n C dX3_noPlace_13 rfl rfl ?_
      refine r_get (v := .ref (ad (1))) C (by omega) h0 (show vwCl[3]? = some (RX3, TX3, 11) from rfl) m1 0 (by decide) m0 rfl rfl dX3_noPlace_14 ?_
      refine r_get (v := .ref (ad (3))) C (by omega) h1 (show vwCl[1]? = some (RX1, TX1, 4) from rfl) m3 1 (by decide) m2 rfl rfl dX3_noPlace_17 ?_
      have q1 := a9 z.toNat (by omega)
      refine r_iload_n C dX3_noPlace_20 rfl rfl ?_
      have q1 := a9 z.toNat (by omega)
      refine r_iald (x := (iI (((cur s).2.1 z.toNat : Nat) : Int))) C (by omega) h3 (z.toNat) (by omega) (by omega) (Nat.le_of_ble_eq_true rfl) (rfl) dX3_noPlace_21 ?_
      refine r_icmp_lt (tgt := 29) C ⟨by omega, by omega⟩ ⟨by omega, by omega⟩ dX3_noPlace_22 (by decide) (fun b5 => ?_) (fun b5 => ?_)
      · refine r_iconst C ((0 : Nat) : Int) (by decide) dX3_noPlace_29 ?_
        exact hret f ((0 : Nat) : Int) _ _ dX3_noPlace_30 (by omega) rfl
      · refine r_iconst C ((1 : Nat) : Int) (by decide) dX3_noPlace_25 ?_
        refine r_goto (tgt := 30) C dX3_noPlace_26 (by decide) ?_
        exact hret f ((1 : Nat) : Int) _ _ dX3_noPlace_30 (by omega) rfl
set_option maxHeartbeats 4000000 in
set_option maxRecDepth 100000 in
/-- signOf(c) -/
theorem c_X3_signOf (G : va_G) (tc : Nat → ClassId) (l : Launch) (ad : Nat → Nat) (N : Nat) (f : Nat → va_E) (c : Int) (hc : inR c)   : Ct G tc l yX3_signOf wsX3_signOf { frames := 0, cells := 0, slots := 0, locals := 0 } 0 0 [.int (iI (c))] ad N f (poI ad N (sgnI c) (fun f' => f' = f)) := by
  refine stI (cc := cX3_signOf) (maxL := 1) (lv := [(0, .int (iI (c)))]) (by decide) rfl (Nat.le_of_ble_eq_true rfl) rfl (fun X C hret => ?_)
  refine r_iload_n C dX3_signOf_0 rfl rfl ?_
  refine r_bipush C ((46 : Nat) : Int) (by decide) dX3_signOf_1 ?_
  refine r_icmp_ne (tgt := 9) C ⟨by omega, by omega⟩ ⟨by omega, by omega⟩ dX3_signOf_3 (by decide) (fun b1 => ?_) (fun b1 => ?_)
  · refine r_iload_n C dX3_signOf_9 rfl rfl ?_
    refine r_bipush C ((97 : Nat) : Int) (by decide) dX3_signOf_10 ?_
    refine r_icmp_lt (tgt := 28) C ⟨by omega, by omega⟩ ⟨by omega, by omega⟩ dX3_signOf_12 (by decide) (fun b2 => ?_) (fun b2 => ?_)
    · refine r_bipush C ((-6)) (by decide) dX3_signOf_28 ?_
      exact hret f ((-6)) _ _ dX3_signOf_30 (by unfold sgnI; omega) rfl
    · refine r_iload_n C dX3_signOf_15 rfl rfl ?_
      refine r_bipush C ((122 : Nat) : Int) (by decide) dX3_signOf_16 ?_
      refine r_icmp_gt (tgt := 28) C ⟨by omega, by omega⟩ ⟨by omega, by omega⟩ dX3_signOf_18 (by decide) (fun b3 => ?_) (fun b3 => ?_)
      · refine r_bipush C ((-6)) (by decide) dX3_signOf_28 ?_
        exact hret f ((-6)) _ _ dX3_signOf_30 (by unfold sgnI; omega) rfl
      · refine r_iload_n C dX3_signOf_21 rfl rfl ?_
        refine r_bipush C ((97 : Nat) : Int) (by decide) dX3_signOf_22 ?_
        refine r_isub C ((c) - ((97 : Nat) : Int)) rfl dX3_signOf_24 ?_
        refine r_goto (tgt := 30) C dX3_signOf_25 (by decide) ?_
        exact hret f ((c) - ((97 : Nat) : Int)) _ _ dX3_signOf_30 (by unfold sgnI; omega) rfl
  · refine r_bipush C ((26 : Nat) : Int) (by decide) dX3_signOf_6 ?_
    exact hret f ((26 : Nat) : Int) _ _ dX3_signOf_8 (by unfold sgnI; omega) rfl
set_option maxHeartbeats 4000000 in
set_option maxRecDepth 100000 in
/-- padFault() -/
theorem c_X3_padFault (G : va_G) (tc : Nat → ClassId) (l : Launch) (ad : Nat → Nat) (N : Nat) (f : Nat → va_E) (s : SG) (hX : XI tc ad f s) (ho : okS s) (hN : 98 ≤ N)    : Ct G tc l yX3_padFault wsX3_padFault { frames := 1, cells := 0, slots := 0, locals := 20 } 0 0 [.ref (ad (0))] ad N f (poI ad N (fau (pad s) (pln s)) (fun f' => f' = f)) := by
  obtain ⟨h0, ⟨h1, h2, h3, h4⟩, hHis, hSlo, h40, hWds, hPr, hHd⟩ := id hX
  obtain ⟨⟨⟨a1, a2⟩, ⟨a3, a4⟩, ⟨a5, a6⟩, a7, a8, a9, a10⟩, o2, o3, o4, o5, o6⟩ := id ho
  refine stI (cc := cX3_padFault) (maxL := 2) (lv := [(0, .ref (ad (0)))]) (by decide) rfl (Nat.le_of_ble_eq_true rfl) rfl (fun X C hret => ?_)
  have m0 : Cond.fieldLink RX3 35 "WordSamples" "padLength" "I" ∈ wsX3_padFault := by decide +kernel
  have m1 : ∀ w ∈ wsX30, w ∈ wsX3_padFault := by decide +kernel
  have m2 : Cond.fieldLink RX3 31 "WordSamples" "pad" "[I" ∈ wsX3_padFault := by decide +kernel
  refine r_aload_n C dX3_padFault_0 rfl rfl ?_
  refine r_get (v := .int (iI ((pln s : Nat) : Int))) C (by omega) h0 (show vwCl[3]? = some (RX3, TX3, 11) from rfl) m1 6 (by decide) m0 rfl rfl dX3_padFault_1 ?_
  refine r_if_ne (tgt := 9) C ⟨by omega, by omega⟩ dX3_padFault_4 (by decide) (fun b_n0 => ?_) (fun b_n0 => ?_)
  · refine r_iconst C ((0 : Nat) : Int) (by decide) dX3_padFault_9 ?_
    refine r_istore_n (lv' := [(0, .ref (ad (0))), (1, .int (iI ((0 : Nat) : Int)))]) C dX3_padFault_10 rfl (by decide) rfl ?_
    have hL1 : ∀ (m_2 : Nat) (k : Nat) (hk : k ≤ pln s) (hb : ∀ j, j < k → okc (pad s j) = true), pln s - k < m_2 → VV X ad N f 0 0 11 [(0, .ref (ad (0))), (1, .int (iI ((k : Nat) : Int)))] [] := by
      intro m_2
      induction m_2 with
      | zero => intros; omega
      | succ m_2 ih3 =>
        intro k hk hb hm4
        refine r_iload_n C dX3_padFault_11 rfl rfl ?_
        refine r_aload_n C dX3_padFault_12 rfl rfl ?_
        refine r_get (v := .int (iI ((pln s : Nat) : Int))) C (by omega) h0 (show vwCl[3]? = some (RX3, TX3, 11) from rfl) m1 6 (by decide) m0 rfl rfl dX3_padFault_13 ?_
        refine r_icmp_ge (tgt := 41) C ⟨by omega, by omega⟩ ⟨by omega, by omega⟩ dX3_padFault_16 (by decide) (fun b_k => ?_) (fun b_k => ?_)
        · refine r_bipush C ((-6)) (by decide) dX3_padFault_41 ?_
          exact hret f ((-6)) _ _ dX3_padFault_43 (fau_end (by omega) (fun j hj => hb j (by omega))).symm rfl
        · refine r_aload_n C dX3_padFault_19 rfl rfl ?_
          refine r_get (v := .ref (ad (40))) C (by omega) h0 (show vwCl[3]? = some (RX3, TX3, 11) from rfl) m1 5 (by decide) m2 rfl rfl dX3_padFault_20 ?_
          refine r_iload_n C dX3_padFault_23 rfl rfl ?_
          have q1 := o6 k (by omega)
          refine r_iald (x := (iI ((pad s k : Nat) : Int))) C (by omega) h40 (k) rfl (by omega) (Nat.le_of_ble_eq_true rfl) (rfl) dX3_padFault_24 ?_
          refine r_callS (As := [.int (iI ((pad s k : Nat) : Int))]) (rest := []) (na := 1) C (c_X3_signOf G tc l ad N _ ((pad s k : Nat) : Int) ⟨by omega, by omega⟩) gX3_padFault_X3_signOf rfl rfl rfl (by decide +kernel) ⟨Nat.le_of_ble_eq_true rfl, Nat.le_of_ble_eq_true rfl⟩ rfl rfl (Nat.le_of_ble_eq_true rfl) dX3_padFault_25 ⟨Nat.le_of_ble_eq_true rfl, Nat.le_of_ble_eq_true rfl⟩ (aft_I (fun f5 hF6 => ?_))
          rw [hF6]
          have q2 := sgnI_rng ((pad s k : Nat) : Int)
          refine r_bipush C ((-6)) (by decide) dX3_padFault_28 ?_
          refine r_icmp_ne (tgt := 35) C ⟨by omega, by omega⟩ ⟨by omega, by omega⟩ dX3_padFault_30 (by decide) (fun b_ne => ?_) (fun b_ne => ?_)
          · refine r_iinc (lv' := [(0, .ref (ad (0))), (1, .int (iI ((k + 1 : Nat) : Int)))]) C ((k + 1 : Nat) : Int) (by omega) dX3_padFault_35 rfl (by decide) rfl ?_
            refine r_goto (tgt := 11) C dX3_padFault_38 (by decide) ?_
            exact ih3 (k + 1) (by omega) (ok_step hb b_ne) (by omega)
          · refine r_iload_n C dX3_padFault_33 rfl rfl ?_
            exact hret f ((k : Nat) : Int) _ _ dX3_padFault_34 (fau_hit (by omega) hb b_ne).symm rfl
    exact hL1 _ 0 (by omega) (fun j hj => absurd hj (Nat.not_lt_zero _)) (Nat.lt_succ_self _)
  · refine r_iconst C ((0 : Nat) : Int) (by decide) dX3_padFault_7 ?_
    exact hret f ((0 : Nat) : Int) _ _ dX3_padFault_8 (by unfold fau; rw [if_pos (by omega)]; rfl) rfl
set_option maxHeartbeats 4000000 in
set_option maxRecDepth 100000 in
/-- movePadTo(r) -/
theorem c_X3_movePadTo (G : va_G) (tc : Nat → ClassId) (l : Launch) (ad : Nat → Nat) (N : Nat) (f : Nat → va_E) (kn pl R0 r : Nat) (L gs p : Nat → Nat) (hN : 98 ≤ N) (hr : r < 10) (hl : L r + pl ≤ 64) (hp : ∀ j, j < pl → okc (p j) = true ∧ p j ≤ 126) (h0 : f (0) = eO 3 [.ref (ad (1)), .ref (ad (5)), .int (iI ((kn : Nat) : Int)), .ref (ad (30)), .ref (ad (39)), .ref (ad (40)), .int (iI ((pl : Nat) : Int)), .ref (ad (41)), .ref (ad (82)), .ref (ad (83)), .ref (ad (87))]) (h1 : f (1) = eO 1 [.ref (ad (2)), .ref (ad (3)), .ref (ad (4)), .int (iI ((R0 : Nat) : Int))]) (h3 : f (3) = eI tc 10 (fun j => iI ((L j : Nat) : Int))) (h4 : f (4) = eI tc 640 (fun j => iI ((gs j : Nat) : Int))) (h40 : f (40) = eI tc 64 (fun j => iI ((p j : Nat) : Int)))  : Ct G tc l yX3_movePadTo wsX3_movePadTo { frames := 1, cells := 0, slots := 0, locals := 20 } 0 0 [.ref (ad (0)), .int (iI ((r : Nat) : Int))] ad N f (poV ad N (fun f' => f' 0 = oX ad kn 0 ∧ f' 3 = eI tc 10 (fun j => iI ((upN L r (L r + pl) j : Nat) : Int)) ∧ f' 4 = eI tc 640 (fun j => iI ((powr gs (r * 64 + L r) p pl j : Nat) : Int)) ∧ ∀ q, (q ≠ 0 ∧ q ≠ 3 ∧ q ≠ 4) → f' q = f q)) := by
  refine stV (cc := cX3_movePadTo) (maxL := 4) (lv := [(0, .ref (ad (0))), (1, .int (iI ((r : Nat) : Int)))]) (by decide) rfl (Nat.le_of_ble_eq_true rfl) rfl (fun X C hret => ?_)
  have m0 : Cond.fieldLink RX3 10 "WordSamples" "now" "LWordSamples$State;" ∈ wsX3_movePadTo := by decide +kernel
  have m1 : ∀ w ∈ wsX30, w ∈ wsX3_movePadTo := by decide +kernel
  have m2 : Cond.fieldLink RX3 77 "WordSamples$State" "lengths" "[I" ∈ wsX3_movePadTo := by decide +kernel
  have m3 : ∀ w ∈ wsX10, w ∈ wsX3_movePadTo := by decide +kernel
  have m4 : Cond.fieldLink RX3 35 "WordSamples" "padLength" "I" ∈ wsX3_movePadTo := by decide +kernel
  have m5 : Cond.fieldLink RX3 92 "WordSamples$State" "signs" "[I" ∈ wsX3_movePadTo := by decide +kernel
  have m6 : Cond.fieldLink RX3 31 "WordSamples" "pad" "[I" ∈ wsX3_movePadTo := by decide +kernel
  refine r_iload_n C dX3_movePadTo_0 rfl rfl ?_
  refine r_bipush C ((64 : Nat) : Int) (by decide) dX3_movePadTo_1 ?_
  refine r_imul C ((r * 64 : Nat) : Int) (by omega) dX3_movePadTo_3 ?_
  refine r_aload_n C dX3_movePadTo_4 rfl rfl ?_
  refine r_get (v := .ref (ad (1))) C (by omega) h0 (show vwCl[3]? = some (RX3, TX3, 11) from rfl) m1 0 (by decide) m0 rfl rfl dX3_movePadTo_5 ?_
  refine r_get (v := .ref (ad (3))) C (by omega) h1 (show vwCl[1]? = some (RX1, TX1, 4) from rfl) m3 1 (by decide) m2 rfl rfl dX3_movePadTo_8 ?_
  refine r_iload_n C dX3_movePadTo_11 rfl rfl ?_
  refine r_iald (x := (iI ((L r : Nat) : Int))) C (by omega) h3 (r) rfl (by omega) (Nat.le_of_ble_eq_true rfl) (rfl) dX3_movePadTo_12 ?_
  refine r_iadd C ((r * 64 + (L r) : Nat) : Int) (by omega) dX3_movePadTo_13 ?_
  refine r_istore_n (lv' := [(0, .ref (ad (0))), (1, .int (iI ((r : Nat) : Int))), (2, .int (iI ((r * 64 + (L r) : Nat) : Int)))]) C dX3_movePadTo_14 rfl (by decide) rfl ?_
  refine r_iconst C ((0 : Nat) : Int) (by decide) dX3_movePadTo_15 ?_
  refine r_istore_n (lv' := [(0, .ref (ad (0))), (1, .int (iI ((r : Nat) : Int))), (2, .int (iI ((r * 64 + (L r) : Nat) : Int))), (3, .int (iI ((0 : Nat) : Int)))]) C dX3_movePadTo_16 rfl (by decide) rfl ?_
  have hL4 : ∀ (m_5 : Nat) (k : Nat) (f1 : Nat → va_E) (hm2 : f1 (4) = eI tc 640 (fun j => iI (((powr gs (r * 64 + L r) p k) j : Nat) : Int))) (ho3 : ∀ q, q ≠ 4 → f1 q = f q) (hk : k ≤ pl), pl - k < m_5 → VV X ad N f1 0 0 17 [(0, .ref (ad (0))), (1, .int (iI ((r : Nat) : Int))), (2, .int (iI ((r * 64 + L r : Nat) : Int))), (3, .int (iI ((k : Nat) : Int)))] [] := by
    intro m_5
    induction m_5 with
    | zero => intros; omega
    | succ m_5 ih6 =>
      intro k f1 hm2 ho3 hk hm7
      refine r_iload_n C dX3_movePadTo_17 rfl rfl ?_
      refine r_aload_n C dX3_movePadTo_18 rfl rfl ?_
      have c8 : f1 (0) = eO 3 [.ref (ad (1)), .ref (ad (5)), .int (iI ((kn : Nat) : Int)), .ref (ad (30)), .ref (ad (39)), .ref (ad (40)), .int (iI ((pl : Nat) : Int)), .ref (ad (41)), .ref (ad (82)), .ref (ad (83)), .ref (ad (87))] := (ho3 _ (by omega)).trans h0
      refine r_get (v := .int (iI ((pl : Nat) : Int))) C (by omega) c8 (show vwCl[3]? = some (RX3, TX3, 11) from rfl) m1 6 (by decide) m4 rfl rfl dX3_movePadTo_19 ?_
      refine r_icmp_ge (tgt := 51) C ⟨by omega, by omega⟩ ⟨by omega, by omega⟩ dX3_movePadTo_22 (by decide) (fun b9 => ?_) (fun b9 => ?_)
      · have hke : k = pl := by omega
        rw [hke] at hm2
        refine r_aload_n C dX3_movePadTo_51 rfl rfl ?_
        refine r_get (v := .ref (ad (1))) C (by omega) c8 (show vwCl[3]? = some (RX3, TX3, 11) from rfl) m1 0 (by decide) m0 rfl rfl dX3_movePadTo_52 ?_
        have c10 : f1 (1) = eO 1 [.ref (ad (2)), .ref (ad (3)), .ref (ad (4)), .int (iI ((R0 : Nat) : Int))] := (ho3 _ (by omega)).trans h1
        refine r_get (v := .ref (ad (3))) C (by omega) c10 (show vwCl[1]? = some (RX1, TX1, 4) from rfl) m3 1 (by decide) m2 rfl rfl dX3_movePadTo_55 ?_
        refine r_iload_n C dX3_movePadTo_58 rfl rfl ?_
        refine r_dup2 C dX3_movePadTo_59 rfl rfl ?_
        have c11 : f1 (3) = eI tc 10 (fun j => iI ((L j : Nat) : Int)) := (ho3 _ (by omega)).trans h3
        refine r_iald (x := (iI ((L r : Nat) : Int))) C (by omega) c11 (r) rfl (by omega) (Nat.le_of_ble_eq_true rfl) (rfl) dX3_movePadTo_60 ?_
        refine r_aload_n C dX3_movePadTo_61 rfl rfl ?_
        refine r_get (v := .int (iI ((pl : Nat) : Int))) C (by omega) c8 (show vwCl[3]? = some (RX3, TX3, 11) from rfl) m1 6 (by decide) m4 rfl rfl dX3_movePadTo_62 ?_
        refine r_iadd C ((L r + pl : Nat) : Int) (by omega) dX3_movePadTo_65 ?_
        refine r_iast C (by omega) c11 (r) rfl (by omega) (Nat.le_of_ble_eq_true rfl) dX3_movePadTo_66 (fun f12 hs13 ho14 => ?_)
        have c15 : f12 (3) = eI tc 10 (fun j => iI (((upN L (r) (L r + pl)) j : Nat) : Int)) := hs13.trans (congrArg (fun g => eI tc 10 g) (updN _ _ _))
        refine r_aload_n C dX3_movePadTo_67 rfl rfl ?_
        refine r_iconst C ((0 : Nat) : Int) (by decide) dX3_movePadTo_68 ?_
        have c16 : f12 (0) = eO 3 [.ref (ad (1)), .ref (ad (5)), .int (iI ((kn : Nat) : Int)), .ref (ad (30)), .ref (ad (39)), .ref (ad (40)), .int (iI ((pl : Nat) : Int)), .ref (ad (41)), .ref (ad (82)), .ref (ad (83)), .ref (ad (87))] := (ho14 _ (by omega)).trans c8
        refine r_put (ty := .int) C (by omega) c16 (show vwCl[3]? = some (RX3, TX3, 11) from rfl) m1 tyX3_ok nmX3 6 (by decide) m4 rfl rfl (by decide +kernel) rfl rfl (Nat.le_of_ble_eq_true rfl) dX3_movePadTo_69 (fun f17 hs18 ho19 => ?_)
        have c20 : f17 (0) = eO 3 [.ref (ad (1)), .ref (ad (5)), .int (iI ((kn : Nat) : Int)), .ref (ad (30)), .ref (ad (39)), .ref (ad (40)), .int (iI ((0 : Nat) : Int)), .ref (ad (41)), .ref (ad (82)), .ref (ad (83)), .ref (ad (87))] := hs18
        have c21 : f17 (3) = eI tc 10 (fun j => iI (((upN L (r) (L r + pl)) j : Nat) : Int)) := (ho19 _ (by omega)).trans c15
        have c22 : f12 (4) = eI tc 640 (fun j => iI (((powr gs (r * 64 + L r) p pl) j : Nat) : Int)) := (ho14 _ (by omega)).trans hm2
        have c23 : f17 (4) = eI tc 640 (fun j => iI (((powr gs (r * 64 + L r) p pl) j : Nat) : Int)) := (ho19 _ (by omega)).trans c22
        exact hret f17 _ _ dX3_movePadTo_72 (⟨c20, c21, c23, fun q hq => (((ho19 _ (by omega))).trans (ho14 _ (by omega))).trans (ho3 _ (by omega))⟩)
      · refine r_aload_n C dX3_movePadTo_25 rfl rfl ?_
        refine r_get (v := .ref (ad (1))) C (by omega) c8 (show vwCl[3]? = some (RX3, TX3, 11) from rfl) m1 0 (by decide) m0 rfl rfl dX3_movePadTo_26 ?_
        have c24 : f1 (1) = eO 1 [.ref (ad (2)), .ref (ad (3)), .ref (ad (4)), .int (iI ((R0 : Nat) : Int))] := (ho3 _ (by omega)).trans h1
        refine r_get (v := .ref (ad (4))) C (by omega) c24 (show vwCl[1]? = some (RX1, TX1, 4) from rfl) m3 2 (by decide) m5 rfl rfl dX3_movePadTo_29 ?_
        refine r_iload_n C dX3_movePadTo_32 rfl rfl ?_
        refine r_iload_n C dX3_movePadTo_33 rfl rfl ?_
        refine r_iadd C ((r * 64 + L r + k : Nat) : Int) (by omega) dX3_movePadTo_34 ?_
        refine r_aload_n C dX3_movePadTo_35 rfl rfl ?_
        refine r_get (v := .ref (ad (40))) C (by omega) c8 (show vwCl[3]? = some (RX3, TX3, 11) from rfl) m1 5 (by decide) m6 rfl rfl dX3_movePadTo_36 ?_
        have q1 := hp k (by omega)
        refine r_iload_n C dX3_movePadTo_39 rfl rfl ?_
        have c25 : f1 (40) = eI tc 64 (fun j => iI ((p j : Nat) : Int)) := (ho3 _ (by omega)).trans h40
        refine r_iald (x := (iI ((p k : Nat) : Int))) C (by omega) c25 (k) rfl (by omega) (Nat.le_of_ble_eq_true rfl) (rfl) dX3_movePadTo_40 ?_
        refine r_callS (As := [.int (iI ((p k : Nat) : Int))]) (rest := [.int (iI ((r * 64 + L r + k : Nat) : Int)), .ref (ad (4))]) (na := 1) C (c_X3_signOf G tc l ad N _ ((p k : Nat) : Int) ⟨by omega, by omega⟩) gX3_movePadTo_X3_signOf rfl rfl rfl (by decide +kernel) ⟨Nat.le_of_ble_eq_true rfl, Nat.le_of_ble_eq_true rfl⟩ rfl rfl (Nat.le_of_ble_eq_true rfl) dX3_movePadTo_41 ⟨Nat.le_of_ble_eq_true rfl, Nat.le_of_ble_eq_true rfl⟩ (aft_I (fun f26 hF27 => ?_))
        rw [hF27]
        rw [show (.int (iI (sgnI ((p k : Nat) : Int))) : Value) = .int (iI ((sgn (p k) : Nat) : Int)) from by rw [sgnI_ok q1.1]]
        refine r_iast C (by omega) hm2 (r * 64 + L r + k) rfl (by omega) (Nat.le_of_ble_eq_true rfl) dX3_movePadTo_44 (fun f28 hs29 ho30 => ?_)
        have c31 : f28 (4) = eI tc 640 (fun j => iI (((upN ((powr gs (r * 64 + L r) p k)) (r * 64 + L r + k) (sgn (p k))) j : Nat) : Int)) := hs29.trans (congrArg (fun g => eI tc 640 g) (updN _ _ _))
        refine r_iinc (lv' := [(0, .ref (ad (0))), (1, .int (iI ((r : Nat) : Int))), (2, .int (iI ((r * 64 + L r : Nat) : Int))), (3, .int (iI ((k + 1 : Nat) : Int)))]) C ((k + 1 : Nat) : Int) (by omega) dX3_movePadTo_45 rfl (by decide) rfl ?_
        refine r_goto (tgt := 17) C dX3_movePadTo_48 (by decide) ?_
        exact ih6 (k + 1) f28 (c31.trans (by rw [powr_s])) (fun q hq => ((ho30 _ (by omega))).trans (ho3 _ (by omega))) (by omega) (by omega)
  exact hL4 _ 0 f (by rw [powr_0]; exact h4) (fun _ _ => rfl) (by omega) (Nat.lt_succ_self _)
set_option maxHeartbeats 4000000 in
set_option maxRecDepth 100000 in
/-- copyFrom: all of a State is copied -/
theorem c_X1_copyFrom (G : va_G) (tc : Nat → ClassId) (l : Launch) (ad : Nat → Nat) (N : Nat) (f : Nat → va_E) (i j : Nat) (hi : i + 4 ≤ N) (hj : j + 4 ≤ N) (hij : i + 4 ≤ j ∨ j + 4 ≤ i) (n n' : NS) (hs1 : isSt tc ad f i n') (hs2 : isSt tc ad f j n)   : Ct G tc l yX1_copyFrom wsX1_copyFrom { frames := 1, cells := 0, slots := 0, locals := 20 } 0 0 [.ref (ad (i)), .ref (ad (j))] ad N f (poV ad N (fun f' => isSt tc ad f' i n ∧ ∀ q, (q < i ∨ i + 4 ≤ q) → f' q = f q)) := by
  obtain ⟨h0, h1, h2, h3⟩ := hs1
  obtain ⟨g0, g1, g2, g3⟩ := hs2
  refine stV (cc := cX1_copyFrom) (maxL := 2) (lv := [(0, .ref (ad (i))), (1, .ref (ad (j)))]) (by decide) rfl (Nat.le_of_ble_eq_true rfl) rfl (fun X C hret => ?_)
  have m0 : Cond.fieldLink RX1 9 "WordSamples$State" "settings" "[I" ∈ wsX1_copyFrom := by decide +kernel
  have m1 : ∀ w ∈ wsX10, w ∈ wsX1_copyFrom := by decide +kernel
  have m2 : Cond.methodLink RX1 28 arraycopyName ∈ wsX1_copyFrom := by decide +kernel
  have m3 : Cond.native arraycopyName ∈ wsX1_copyFrom := by decide +kernel
  have m4 : Cond.static arraycopyName ∈ wsX1_copyFrom := by decide +kernel
  have m5 : Cond.initialized "java/lang/System" ∈ wsX1_copyFrom := by decide +kernel
  have m6 : Cond.fieldLink RX1 15 "WordSamples$State" "lengths" "[I" ∈ wsX1_copyFrom := by decide +kernel
  have m7 : Cond.fieldLink RX1 18 "WordSamples$State" "signs" "[I" ∈ wsX1_copyFrom := by decide +kernel
  have m8 : Cond.fieldLink RX1 21 "WordSamples$State" "rows" "I" ∈ wsX1_copyFrom := by decide +kernel
  refine r_aload_n C dX1_copyFrom_0 rfl rfl ?_
  refine r_get (v := .ref (ad (j + 1))) C (by omega) g0 (show vwCl[1]? = some (RX1, TX1, 4) from rfl) m1 0 (by decide) m0 rfl rfl dX1_copyFrom_1 ?_
  refine r_iconst C ((0 : Nat) : Int) (by decide) dX1_copyFrom_4 ?_
  refine r_aload_n C dX1_copyFrom_5 rfl rfl ?_
  refine r_get (v := .ref (ad (i + 1))) C (by omega) h0 (show vwCl[1]? = some (RX1, TX1, 4) from rfl) m1 0 (by decide) m0 rfl rfl dX1_copyFrom_6 ?_
  refine r_iconst C ((0 : Nat) : Int) (by decide) dX1_copyFrom_9 ?_
  refine r_iconst C ((4 : Nat) : Int) (by decide) dX1_copyFrom_10 ?_
  refine r_acp C ⟨m2, m3, m4, m5⟩ (Nat.le_of_ble_eq_true rfl) (by decide) (by omega) g1 (by omega) h1 (0) (0) (4) rfl rfl rfl (by omega) (by omega) (Nat.le_of_ble_eq_true rfl) (Nat.le_of_ble_eq_true rfl) dX1_copyFrom_11 (fun f1 hs2 ho3 => ?_)
  refine r_cv1 hs2 (fun j => iI ((n.1 j : Nat) : Int)) (fun j hj => by unfold va_cpy; rw [if_pos (by omega), Nat.sub_zero, Nat.zero_add]) (fun f4 hs5 ho6 => ?_)
  refine r_aload_n C dX1_copyFrom_14 rfl rfl ?_
  have c7 : f1 (j) = eO 1 [.ref (ad (j + 1)), .ref (ad (j + 2)), .ref (ad (j + 3)), .int (iI ((n.2.2.2 : Nat) : Int))] := (ho3 _ (by omega)).trans g0
  have c8 : f4 (j) = eO 1 [.ref (ad (j + 1)), .ref (ad (j + 2)), .ref (ad (j + 3)), .int (iI ((n.2.2.2 : Nat) : Int))] := (ho6 _ (by omega)).trans c7
  refine r_get (v := .ref (ad (j + 2))) C (by omega) c8 (show vwCl[1]? = some (RX1, TX1, 4) from rfl) m1 1 (by decide) m6 rfl rfl dX1_copyFrom_15 ?_
  refine r_iconst C ((0 : Nat) : Int) (by decide) dX1_copyFrom_18 ?_
  refine r_aload_n C dX1_copyFrom_19 rfl rfl ?_
  have c9 : f1 (i) = eO 1 [.ref (ad (i + 1)), .ref (ad (i + 2)), .ref (ad (i + 3)), .int (iI ((n'.2.2.2 : Nat) : Int))] := (ho3 _ (by omega)).trans h0
  have c10 : f4 (i) = eO 1 [.ref (ad (i + 1)), .ref (ad (i + 2)), .ref (ad (i + 3)), .int (iI ((n'.2.2.2 : Nat) : Int))] := (ho6 _ (by omega)).trans c9
  refine r_get (v := .ref (ad (i + 2))) C (by omega) c10 (show vwCl[1]? = some (RX1, TX1, 4) from rfl) m1 1 (by decide) m6 rfl rfl dX1_copyFrom_20 ?_
  refine r_iconst C ((0 : Nat) : Int) (by decide) dX1_copyFrom_23 ?_
  refine r_bipush C ((10 : Nat) : Int) (by decide) dX1_copyFrom_24 ?_
  have c11 : f1 (j + 2) = eI tc 10 (fun j => iI ((n.2.1 j : Nat) : Int)) := (ho3 _ (by omega)).trans g2
  have c12 : f4 (j + 2) = eI tc 10 (fun j => iI ((n.2.1 j : Nat) : Int)) := (ho6 _ (by omega)).trans c11
  have c13 : f1 (i + 2) = eI tc 10 (fun j => iI ((n'.2.1 j : Nat) : Int)) := (ho3 _ (by omega)).trans h2
  have c14 : f4 (i + 2) = eI tc 10 (fun j => iI ((n'.2.1 j : Nat) : Int)) := (ho6 _ (by omega)).trans c13
  refine r_acp C ⟨m2, m3, m4, m5⟩ (Nat.le_of_ble_eq_true rfl) (by decide) (by omega) c12 (by omega) c14 (0) (0) (10) rfl rfl rfl (by omega) (by omega) (Nat.le_of_ble_eq_true rfl) (Nat.le_of_ble_eq_true rfl) dX1_copyFrom_26 (fun f15 hs16 ho17 => ?_)
  refine r_cv1 hs16 (fun j => iI ((n.2.1 j : Nat) : Int)) (fun j hj => by unfold va_cpy; rw [if_pos (by omega), Nat.sub_zero, Nat.zero_add]) (fun f18 hs19 ho20 => ?_)
  refine r_aload_n C dX1_copyFrom_29 rfl rfl ?_
  have c21 : f15 (j) = eO 1 [.ref (ad (j + 1)), .ref (ad (j + 2)), .ref (ad (j + 3)), .int (iI ((n.2.2.2 : Nat) : Int))] := (ho17 _ (by omega)).trans c8
  have c22 : f18 (j) = eO 1 [.ref (ad (j + 1)), .ref (ad (j + 2)), .ref (ad (j + 3)), .int (iI ((n.2.2.2 : Nat) : Int))] := (ho20 _ (by omega)).trans c21
  refine r_get (v := .ref (ad (j + 3))) C (by omega) c22 (show vwCl[1]? = some (RX1, TX1, 4) from rfl) m1 2 (by decide) m7 rfl rfl dX1_copyFrom_30 ?_
  refine r_iconst C ((0 : Nat) : Int) (by decide) dX1_copyFrom_33 ?_
  refine r_aload_n C dX1_copyFrom_34 rfl rfl ?_
  have c23 : f15 (i) = eO 1 [.ref (ad (i + 1)), .ref (ad (i + 2)), .ref (ad (i + 3)), .int (iI ((n'.2.2.2 : Nat) : Int))] := (ho17 _ (by omega)).trans c10
  have c24 : f18 (i) = eO 1 [.ref (ad (i + 1)), .ref (ad (i + 2)), .ref (ad (i + 3)), .int (iI ((n'.2.2.2 : Nat) : Int))] := (ho20 _ (by omega)).trans c23
  refine r_get (v := .ref (ad (i + 3))) C (by omega) c24 (show vwCl[1]? = some (RX1, TX1, 4) from rfl) m1 2 (by decide) m7 rfl rfl dX1_copyFrom_35 ?_
  refine r_iconst C ((0 : Nat) : Int) (by decide) dX1_copyFrom_38 ?_
  refine r_sipush C ((640 : Nat) : Int) (by decide) dX1_copyFrom_39 ?_
  have c25 : f1 (j + 3) = eI tc 640 (fun j => iI ((n.2.2.1 j : Nat) : Int)) := (ho3 _ (by omega)).trans g3
  have c26 : f4 (j + 3) = eI tc 640 (fun j => iI ((n.2.2.1 j : Nat) : Int)) := (ho6 _ (by omega)).trans c25
  have c27 : f15 (j + 3) = eI tc 640 (fun j => iI ((n.2.2.1 j : Nat) : Int)) := (ho17 _ (by omega)).trans c26
  have c28 : f18 (j + 3) = eI tc 640 (fun j => iI ((n.2.2.1 j : Nat) : Int)) := (ho20 _ (by omega)).trans c27
  have c29 : f1 (i + 3) = eI tc 640 (fun j => iI ((n'.2.2.1 j : Nat) : Int)) := (ho3 _ (by omega)).trans h3
  have c30 : f4 (i + 3) = eI tc 640 (fun j => iI ((n'.2.2.1 j : Nat) : Int)) := (ho6 _ (by omega)).trans c29
  have c31 : f15 (i + 3) = eI tc 640 (fun j => iI ((n'.2.2.1 j : Nat) : Int)) := (ho17 _ (by omega)).trans c30
  have c32 : f18 (i + 3) = eI tc 640 (fun j => iI ((n'.2.2.1 j : Nat) : Int)) := (ho20 _ (by omega)).trans c31
  refine r_acp C ⟨m2, m3, m4, m5⟩ (Nat.le_of_ble_eq_true rfl) (by decide) (by omega) c28 (by omega) c32 (0) (0) (640) rfl rfl rfl (by omega) (by omega) (Nat.le_of_ble_eq_true rfl) (Nat.le_of_ble_eq_true rfl) dX1_copyFrom_42 (fun f33 hs34 ho35 => ?_)
  refine r_cv1 hs34 (fun j => iI ((n.2.2.1 j : Nat) : Int)) (fun j hj => by unfold va_cpy; rw [if_pos (by omega), Nat.sub_zero, Nat.zero_add]) (fun f36 hs37 ho38 => ?_)
  refine r_aload_n C dX1_copyFrom_45 rfl rfl ?_
  refine r_aload_n C dX1_copyFrom_46 rfl rfl ?_
  have c39 : f33 (j) = eO 1 [.ref (ad (j + 1)), .ref (ad (j + 2)), .ref (ad (j + 3)), .int (iI ((n.2.2.2 : Nat) : Int))] := (ho35 _ (by omega)).trans c22
  have c40 : f36 (j) = eO 1 [.ref (ad (j + 1)), .ref (ad (j + 2)), .ref (ad (j + 3)), .int (iI ((n.2.2.2 : Nat) : Int))] := (ho38 _ (by omega)).trans c39
  refine r_get (v := .int (iI ((n.2.2.2 : Nat) : Int))) C (by omega) c40 (show vwCl[1]? = some (RX1, TX1, 4) from rfl) m1 3 (by decide) m8 rfl rfl dX1_copyFrom_47 ?_
  have c41 : f33 (i) = eO 1 [.ref (ad (i + 1)), .ref (ad (i + 2)), .ref (ad (i + 3)), .int (iI ((n'.2.2.2 : Nat) : Int))] := (ho35 _ (by omega)).trans c24
  have c42 : f36 (i) = eO 1 [.ref (ad (i + 1)), .ref (ad (i + 2)), .ref (ad (i + 3)), .int (iI ((n'.2.2.2 : Nat) : Int))] := (ho38 _ (by omega)).trans c41
  refine r_put (ty := .int) C (by omega) c42 (show vwCl[1]? = some (RX1, TX1, 4) from rfl) m1 tyX1_ok nmX1 3 (by decide) m8 rfl rfl (by decide +kernel) rfl rfl (Nat.le_of_ble_eq_true rfl) dX1_copyFrom_50 (fun f43 hs44 ho45 => ?_)
  have c46 : f43 (i) = eO 1 [.ref (ad (i + 1)), .ref (ad (i + 2)), .ref (ad (i + 3)), .int (iI ((n.2.2.2 : Nat) : Int))] := hs44
  have c47 : f15 (i + 1) = eI tc 4 (fun j => iI ((n.1 j : Nat) : Int)) := (ho17 _ (by omega)).trans hs5
  have c48 : f18 (i + 1) = eI tc 4 (fun j => iI ((n.1 j : Nat) : Int)) := (ho20 _ (by omega)).trans c47
  have c49 : f33 (i + 1) = eI tc 4 (fun j => iI ((n.1 j : Nat) : Int)) := (ho35 _ (by omega)).trans c48
  have c50 : f36 (i + 1) = eI tc 4 (fun j => iI ((n.1 j : Nat) : Int)) := (ho38 _ (by omega)).trans c49
  have c51 : f43 (i + 1) = eI tc 4 (fun j => iI ((n.1 j : Nat) : Int)) := (ho45 _ (by omega)).trans c50
  have c52 : f33 (i + 2) = eI tc 10 (fun j => iI ((n.2.1 j : Nat) : Int)) := (ho35 _ (by omega)).trans hs19
  have c53 : f36 (i + 2) = eI tc 10 (fun j => iI ((n.2.1 j : Nat) : Int)) := (ho38 _ (by omega)).trans c52
  have c54 : f43 (i + 2) = eI tc 10 (fun j => iI ((n.2.1 j : Nat) : Int)) := (ho45 _ (by omega)).trans c53
  have c55 : f43 (i + 3) = eI tc 640 (fun j => iI ((n.2.2.1 j : Nat) : Int)) := (ho45 _ (by omega)).trans hs37
  exact hret f43 _ _ dX1_copyFrom_53 (⟨⟨c46, c51, c54, c55⟩, fun q hq => (((((((ho45 _ (by omega))).trans (ho38 _ (by omega))).trans (ho35 _ (by omega))).trans (ho20 _ (by omega))).trans (ho17 _ (by omega))).trans (ho6 _ (by omega))).trans (ho3 _ (by omega))⟩)
set_option maxHeartbeats 4000000 in
set_option maxRecDepth 100000 in
/-- forgetWords() -/
theorem c_X3_forgetWords (G : va_G) (tc : Nat → ClassId) (l : Launch) (ad : Nat → Nat) (N : Nat) (f : Nat → va_E) (kn pl : Nat) (gt : Nat → Int32) (hN : 98 ≤ N) (h0 : f (0) = eO 3 [.ref (ad (1)), .ref (ad (5)), .int (iI ((kn : Nat) : Int)), .ref (ad (30)), .ref (ad (39)), .ref (ad (40)), .int (iI ((pl : Nat) : Int)), .ref (ad (41)), .ref (ad (82)), .ref (ad (83)), .ref (ad (87))]) (h82 : f (82) = eB tc 10 (gt))  : Ct G tc l yX3_forgetWords wsX3_forgetWords { frames := 0, cells := 0, slots := 0, locals := 0 } 0 0 [.ref (ad (0))] ad N f (poV ad N (fun f' => (∃ g : Nat → Int32, f' 82 = eB tc 10 g ∧ ∀ j, j < 10 → g j = iI ((0 : Nat) : Int)) ∧ ∀ q, q ≠ 82 → f' q = f q)) := by
  refine stV (cc := cX3_forgetWords) (maxL := 2) (lv := [(0, .ref (ad (0)))]) (by decide) rfl (Nat.le_of_ble_eq_true rfl) rfl (fun X C hret => ?_)
  have m0 : Cond.fieldLink RX3 44 "WordSamples" "gathered" "[Z" ∈ wsX3_forgetWords := by decide +kernel
  have m1 : ∀ w ∈ wsX30, w ∈ wsX3_forgetWords := by decide +kernel
  refine r_iconst C ((0 : Nat) : Int) (by decide) dX3_forgetWords_0 ?_
  refine r_istore_n (lv' := [(0, .ref (ad (0))), (1, .int (iI ((0 : Nat) : Int)))]) C dX3_forgetWords_1 rfl (by decide) rfl ?_
  have hL4 : ∀ (m_5 : Nat) (k : Nat) (g : Nat → Int32) (f1 : Nat → va_E) (hm2 : f1 (82) = eB tc 10 (g)) (ho3 : ∀ q, q ≠ 82 → f1 q = f q) (hk : k ≤ 10) (hg : ∀ j, j < k → g j = iI ((0 : Nat) : Int)), 10 - k < m_5 → VV X ad N f1 0 0 2 [(0, .ref (ad (0))), (1, .int (iI ((k : Nat) : Int)))] [] := by
    intro m_5
    induction m_5 with
    | zero => intros; omega
    | succ m_5 ih6 =>
      intro k g f1 hm2 ho3 hk hg hm7
      refine r_iload_n C dX3_forgetWords_2 rfl rfl ?_
      refine r_bipush C ((10 : Nat) : Int) (by decide) dX3_forgetWords_3 ?_
      refine r_icmp_ge (tgt := 21) C ⟨by omega, by omega⟩ ⟨by omega, by omega⟩ dX3_forgetWords_5 (by decide) (fun b8 => ?_) (fun b8 => ?_)
      · exact hret f1 _ _ dX3_forgetWords_21 (⟨⟨_, hm2, fun j hj => hg j (by omega)⟩, fun q hq => (ho3 _ (by omega))⟩)
      · refine r_aload_n C dX3_forgetWords_8 rfl rfl ?_
        have c9 : f1 (0) = eO 3 [.ref (ad (1)), .ref (ad (5)), .int (iI ((kn : Nat) : Int)), .ref (ad (30)), .ref (ad (39)), .ref (ad (40)), .int (iI ((pl : Nat) : Int)), .ref (ad (41)), .ref (ad (82)), .ref (ad (83)), .ref (ad (87))] := (ho3 _ (by omega)).trans h0
        refine r_get (v := .ref (ad (82))) C (by omega) c9 (show vwCl[3]? = some (RX3, TX3, 11) from rfl) m1 8 (by decide) m0 rfl rfl dX3_forgetWords_9 ?_
        refine r_iload_n C dX3_forgetWords_12 rfl rfl ?_
        refine r_iconst C ((0 : Nat) : Int) (by decide) dX3_forgetWords_13 ?_
        refine r_zast C (by omega) hm2 (k) rfl (by omega) (Nat.le_of_ble_eq_true rfl) rfl dX3_forgetWords_14 (fun f10 hs11 ho12 => ?_)
        refine r_iinc (lv' := [(0, .ref (ad (0))), (1, .int (iI ((k + 1 : Nat) : Int)))]) C ((k + 1 : Nat) : Int) (by omega) dX3_forgetWords_15 rfl (by decide) rfl ?_
        refine r_goto (tgt := 2) C dX3_forgetWords_18 (by decide) ?_
        exact ih6 (k + 1) (upd (g) (k) ((iI ((0 : Nat) : Int)))) f10 hs11 (fun q hq => ((ho12 _ (by omega))).trans (ho3 _ (by omega))) (by omega) (fun j hj => if h : j = k then (by unfold upd; rw [if_pos h]) else (by unfold upd; rw [if_neg h]; exact hg j (by omega))) (by omega)
  exact hL4 _ 0 gt f h82 (fun _ _ => rfl) (by omega) (fun j hj => absurd hj (Nat.not_lt_zero _)) (Nat.lt_succ_self _)
set_option maxHeartbeats 4000000 in
set_option maxRecDepth 100000 in
/-- dropOldestChange(): the oldest State comes last -/
theorem c_X3_dropOldestChange (G : va_G) (tc : Nat → ClassId) (l : Launch) (ad : Nat → Nat) (N : Nat) (f : Nat → va_E) (kn pl : Nat) (pi : Nat → Nat) (hs : Nat → NS) (hN : 98 ≤ N) (hpi : ∀ k, k < 6 → pi k < 6) (hst : ∀ k, k < 6 → isSt tc ad f (6 + 4 * k) (hs k)) (h0 : f (0) = eO 3 [.ref (ad (1)), .ref (ad (5)), .int (iI ((kn : Nat) : Int)), .ref (ad (30)), .ref (ad (39)), .ref (ad (40)), .int (iI ((pl : Nat) : Int)), .ref (ad (41)), .ref (ad (82)), .ref (ad (83)), .ref (ad (87))]) (h5 : f (5) = eS tc 6 (fun k => some (ad (6 + 4 * pi k))))  : Ct G tc l yX3_dropOldestChange wsX3_dropOldestChange { frames := 0, cells := 0, slots := 0, locals := 0 } 0 0 [.ref (ad (0))] ad N f (poV ad N (fun f' => f' 0 = oX ad 5 pl ∧ f' 5 = eS tc 6 (fun k => some (ad (6 + 4 * rotF pi k))) ∧ ∀ q, (q ≠ 0 ∧ q ≠ 5) → f' q = f q)) := by
  refine stV (cc := cX3_dropOldestChange) (maxL := 3) (lv := [(0, .ref (ad (0)))]) (by decide) rfl (Nat.le_of_ble_eq_true rfl) rfl (fun X C hret => ?_)
  have m0 : Cond.fieldLink RX3 16 "WordSamples" "history" "[LWordSamples$State;" ∈ wsX3_dropOldestChange := by decide +kernel
  have m1 : ∀ w ∈ wsX30, w ∈ wsX3_dropOldestChange := by decide +kernel
  have m2 : Cond.fieldLink RX3 20 "WordSamples" "undoable" "I" ∈ wsX3_dropOldestChange := by decide +kernel
  refine r_aload_n C dX3_dropOldestChange_0 rfl rfl ?_
  refine r_get (v := .ref (ad (5))) C (by omega) h0 (show vwCl[3]? = some (RX3, TX3, 11) from rfl) m1 1 (by decide) m0 rfl rfl dX3_dropOldestChange_1 ?_
  refine r_iconst C ((0 : Nat) : Int) (by decide) dX3_dropOldestChange_4 ?_
  refine r_aaldS (a := ad (6 + 4 * pi 0)) C (by omega) h5 (0) rfl (by omega) (Nat.le_of_ble_eq_true rfl) (rfl) dX3_dropOldestChange_5 ?_
  refine r_astore_n (lv' := [(0, .ref (ad (0))), (1, .ref (ad (6 + 4 * pi 0)))]) C dX3_dropOldestChange_6 rfl (by decide) rfl ?_
  refine r_iconst C ((1 : Nat) : Int) (by decide) dX3_dropOldestChange_7 ?_
  refine r_istore_n (lv' := [(0, .ref (ad (0))), (1, .ref (ad (6 + 4 * pi 0))), (2, .int (iI ((1 : Nat) : Int)))]) C dX3_dropOldestChange_8 rfl (by decide) rfl ?_
  have hL4 : ∀ (m_5 : Nat) (c : Nat) (f1 : Nat → va_E) (hm2 : f1 (5) = eS tc 6 (fun k => some (ad (6 + 4 * rot pi c k)))) (ho3 : ∀ q, q ≠ 5 → f1 q = f q) (hc1 : 1 ≤ c) (hc : c ≤ 6), 6 - c < m_5 → VV X ad N f1 0 0 9 [(0, .ref (ad (0))), (1, .ref (ad (6 + 4 * pi 0))), (2, .int (iI ((c : Nat) : Int)))] [] := by
    intro m_5
    induction m_5 with
    | zero => intros; omega
    | succ m_5 ih6 =>
      intro c f1 hm2 ho3 hc1 hc hm7
      refine r_iload_n C dX3_dropOldestChange_9 rfl rfl ?_
      refine r_bipush C ((6 : Nat) : Int) (by decide) dX3_dropOldestChange_10 ?_
      refine r_icmp_ge (tgt := 35) C ⟨by omega, by omega⟩ ⟨by omega, by omega⟩ dX3_dropOldestChange_12 (by decide) (fun b8 => ?_) (fun b8 => ?_)
      · have hce : c = 6 := by omega
        rw [hce] at hm2
        refine r_aload_n C dX3_dropOldestChange_35 rfl rfl ?_
        have c9 : f1 (0) = eO 3 [.ref (ad (1)), .ref (ad (5)), .int (iI ((kn : Nat) : Int)), .ref (ad (30)), .ref (ad (39)), .ref (ad (40)), .int (iI ((pl : Nat) : Int)), .ref (ad (41)), .ref (ad (82)), .ref (ad (83)), .ref (ad (87))] := (ho3 _ (by omega)).trans h0
        refine r_get (v := .ref (ad (5))) C (by omega) c9 (show vwCl[3]? = some (RX3, TX3, 11) from rfl) m1 1 (by decide) m0 rfl rfl dX3_dropOldestChange_36 ?_
        refine r_iconst C ((5 : Nat) : Int) (by decide) dX3_dropOldestChange_39 ?_
        refine r_aload_n C dX3_dropOldestChange_40 rfl rfl ?_
        have hq2 := hpi 0 (by omega)
        have c10 : f1 (6 + 4 * pi 0) = oS ad (6 + 4 * pi 0) (hs (pi 0)).2.2.2 := ((ho3 _ (by omega))).trans (hst _ hq2).1
        refine r_aastS C (by omega) hm2 (by omega) c10 (5) rfl (by omega) (Nat.le_of_ble_eq_true rfl) dX3_dropOldestChange_41 (fun f11 hs12 ho13 => ?_)
        have c14 : f11 (5) = eS tc 6 (fun k => some (ad (6 + 4 * rotF pi k))) := hs12.trans (congrArg (fun g => eS tc 6 g) (rot_e pi ad))
        refine r_aload_n C dX3_dropOldestChange_42 rfl rfl ?_
        refine r_iconst C ((5 : Nat) : Int) (by decide) dX3_dropOldestChange_43 ?_
        have c15 : f11 (0) = eO 3 [.ref (ad (1)), .ref (ad (5)), .int (iI ((kn : Nat) : Int)), .ref (ad (30)), .ref (ad (39)), .ref (ad (40)), .int (iI ((pl : Nat) : Int)), .ref (ad (41)), .ref (ad (82)), .ref (ad (83)), .ref (ad (87))] := (ho13 _ (by omega)).trans c9
        refine r_put (ty := .int) C (by omega) c15 (show vwCl[3]? = some (RX3, TX3, 11) from rfl) m1 tyX3_ok nmX3 2 (by decide) m2 rfl rfl (by decide +kernel) rfl rfl (Nat.le_of_ble_eq_true rfl) dX3_dropOldestChange_44 (fun f16 hs17 ho18 => ?_)
        have c19 : f16 (0) = eO 3 [.ref (ad (1)), .ref (ad (5)), .int (iI ((5 : Nat) : Int)), .ref (ad (30)), .ref (ad (39)), .ref (ad (40)), .int (iI ((pl : Nat) : Int)), .ref (ad (41)), .ref (ad (82)), .ref (ad (83)), .ref (ad (87))] := hs17
        have c20 : f16 (5) = eS tc 6 (fun k => some (ad (6 + 4 * rotF pi k))) := (ho18 _ (by omega)).trans c14
        exact hret f16 _ _ dX3_dropOldestChange_47 (⟨c19, c20, fun q hq => (((ho18 _ (by omega))).trans (ho13 _ (by omega))).trans (ho3 _ (by omega))⟩)
      · refine r_aload_n C dX3_dropOldestChange_15 rfl rfl ?_
        have c21 : f1 (0) = eO 3 [.ref (ad (1)), .ref (ad (5)), .int (iI ((kn : Nat) : Int)), .ref (ad (30)), .ref (ad (39)), .ref (ad (40)), .int (iI ((pl : Nat) : Int)), .ref (ad (41)), .ref (ad (82)), .ref (ad (83)), .ref (ad (87))] := (ho3 _ (by omega)).trans h0
        refine r_get (v := .ref (ad (5))) C (by omega) c21 (show vwCl[3]? = some (RX3, TX3, 11) from rfl) m1 1 (by decide) m0 rfl rfl dX3_dropOldestChange_16 ?_
        refine r_iload_n C dX3_dropOldestChange_19 rfl rfl ?_
        refine r_iconst C ((1 : Nat) : Int) (by decide) dX3_dropOldestChange_20 ?_
        refine r_isub C ((c - 1 : Nat) : Int) (by omega) dX3_dropOldestChange_21 ?_
        refine r_aload_n C dX3_dropOldestChange_22 rfl rfl ?_
        refine r_get (v := .ref (ad (5))) C (by omega) c21 (show vwCl[3]? = some (RX3, TX3, 11) from rfl) m1 1 (by decide) m0 rfl rfl dX3_dropOldestChange_23 ?_
        refine r_iload_n C dX3_dropOldestChange_26 rfl rfl ?_
        refine r_aaldS (a := ad (6 + 4 * rot pi c c)) C (by omega) hm2 (c) rfl (by omega) (Nat.le_of_ble_eq_true rfl) (rfl) dX3_dropOldestChange_27 ?_
        have hq1 : rot pi c c = pi c := by unfold rot; rw [if_neg (by omega)]
        have hq2 := hpi c (by omega)
        have c22 : f1 (6 + 4 * rot pi c c) = oS ad (6 + 4 * pi c) (hs (pi c)).2.2.2 := by rw [hq1]; exact ((ho3 _ (by omega))).trans (hst _ hq2).1
        refine r_aastS C (by omega) hm2 (by omega) c22 (c - 1) rfl (by omega) (Nat.le_of_ble_eq_true rfl) dX3_dropOldestChange_28 (fun f23 hs24 ho25 => ?_)
        have c26 : f23 (5) = eS tc 6 (fun k => some (ad (6 + 4 * rot pi (c + 1) k))) := hs24.trans (congrArg (fun g => eS tc 6 g) (rot_s pi hc1 ad))
        refine r_iinc (lv' := [(0, .ref (ad (0))), (1, .ref (ad (6 + 4 * pi 0))), (2, .int (iI ((c + 1 : Nat) : Int)))]) C ((c + 1 : Nat) : Int) (by omega) dX3_dropOldestChange_29 rfl (by decide) rfl ?_
        refine r_goto (tgt := 9) C dX3_dropOldestChange_32 (by decide) ?_
        exact ih6 (c + 1) f23 c26 (fun q hq => ((ho25 _ (by omega))).trans (ho3 _ (by omega))) (by omega) (by omega) (by omega)
  exact hL4 _ 1 f (by rw [rot_1]; exact h5) (fun _ _ => rfl) (by omega) (by omega) (Nat.lt_succ_self _)
end XS1
end
section
section OPS
/-! what each call on the state answers and leaves -/
abbrev isR (s : SG) (z : Int) : Prop := 0 ≤ z ∧ z < (((cur s).2.2.2 : Nat) : Int)
abbrev isP (s : SG) (z p : Int) : Prop := 0 ≤ z ∧ z < (((cur s).2.2.2 : Nat) : Int) ∧ 0 ≤ p ∧ p < (((cur s).2.1 z.toNat : Nat) : Int)
abbrev okSet (z v : Int) : Prop := (0 ≤ z ∧ z ≤ 3) ∧ lS z.toNat ≤ v ∧ v ≤ mS z.toNat
def aSet (s : SG) (z v : Int) : Int := if okSet z v then (((cur s).1 z.toNat : Nat) : Int) else -2
def nSet (s : SG) (z v : Int) : SG := if okSet z v then setC (knowS s) (upN (cur s).1 z.toNat v.toNat, (cur s).2) else s
def aAdd (s : SG) : Int := if fau (pad s) (pln s) = -6 then (if (cur s).2.2.2 < 10 then (((cur s).2.2.2 : Nat) : Int) else -4) else -3
def nAdd (s : SG) : SG := if fau (pad s) (pln s) = -6 ∧ (cur s).2.2.2 < 10 then
  setP (setC (knowS s) (pour ((cur s).1, upN (cur s).2.1 (cur s).2.2.2 0, (cur s).2.2.1, (cur s).2.2.2 + 1) (cur s).2.2.2 (pad s) (pln s))) (pad s) 0 else s
def aApp (s : SG) (z : Int) : Int := if isR s z then (if fau (pad s) (pln s) = -6 then (if (cur s).2.1 z.toNat + pln s ≤ 64 then (((cur s).2.1 z.toNat + pln s : Nat) : Int) else -4) else -3) else -1
def nApp (s : SG) (z : Int) : SG := if isR s z ∧ fau (pad s) (pln s) = -6 ∧ (cur s).2.1 z.toNat + pln s ≤ 64 then setP (setC (knowS s) (pour (cur s) z.toNat (pad s) (pln s))) (pad s) 0 else s
abbrev ok26 (v : Int) : Prop := 0 ≤ v ∧ v ≤ 26
def aChg (s : SG) (z p v : Int) : Int := if isP s z p then (if ok26 v then (((cur s).2.2.1 (z.toNat * 64 + p.toNat) : Nat) : Int) else -2) else -1
def nChg (s : SG) (z p v : Int) : SG := if isP s z p ∧ ok26 v then setC (knowS s) ((cur s).1, (cur s).2.1, upN (cur s).2.2.1 (z.toNat * 64 + p.toNat) v.toNat, (cur s).2.2.2) else s
def outL (L : Nat → Nat) (r R : Nat) : Nat → Nat := fun j => if r ≤ j ∧ j + 1 < R then L (j + 1) else L j
def outG (g : Nat → Nat) (r R : Nat) : Nat → Nat := fun j => if r * 64 ≤ j ∧ j + 64 < R * 64 then g (j + 64) else g j
def aRem (s : SG) (z : Int) : Int := if isR s z then (((cur s).2.2.2 - 1 : Nat) : Int) else -1
def nRem (s : SG) (z : Int) : SG := if isR s z then setC (knowS s) ((cur s).1, outL (cur s).2.1 z.toNat (cur s).2.2.2, outG (cur s).2.2.1 z.toNat (cur s).2.2.2, (cur s).2.2.2 - 1) else s
def aSgn (s : SG) (z p : Int) : Int := if isP s z p then (((cur s).2.2.1 (z.toNat * 64 + p.toNat) : Nat) : Int) else -1
def byt (x : Int64) (p : Nat) : Nat := (x.toBitVec.toNat / 2 ^ (8 * p)) % 256
def gap (x : Int64) : Nat := frst (fun j => decide (byt x j = 0)) 8
abbrev okCh (x : Int64) : Prop := ∀ j, j < 8 → (j < gap x → 33 ≤ byt x j ∧ byt x j ≤ 126) ∧ (¬ j < gap x → byt x j = 0)
def nch (x : Int64) : Nat := if okCh x then gap x else 0
def putF (p : Nat → Nat) (pl : Nat) (x : Int64) (n k : Nat) : Nat → Nat := fun j => if pl ≤ j ∧ j < pl + k then byt x (n - 1 - (j - pl)) else p j
def aPut (s : SG) (x : Int64) : Int := if nch x = 0 then -2 else if pln s + nch x ≤ 64 then ((pln s + nch x : Nat) : Int) else -4
def nPut (s : SG) (x : Int64) : SG := if nch x ≠ 0 ∧ pln s + nch x ≤ 64 then setP s (putF (pad s) (pln s) x (nch x) (nch x)) (pln s + nch x) else s
def nWip (s : SG) : SG := setP s (pad s) 0
def aUnd (s : SG) : Int := if 0 < kno s then ((kno s - 1 : Nat) : Int) else -5
def nUnd (s : SG) : SG := if 0 < kno s then (hst s (kno s - 1), hst s, kno s - 1, slo s, sav s, pad s, pln s) else s
abbrev ok2 (z : Int) : Prop := 0 ≤ z ∧ z ≤ 1
def aSav (s : SG) (z : Int) : Int := if ok2 z then (((cur s).2.2.2 : Nat) : Int) else -2
def nSav (s : SG) (z : Int) : SG := if ok2 z then (cur s, hst s, kno s, (fun k => if k = z.toNat then cur s else slo s k), (fun k => if k = z.toNat then true else sav s k), pad s, pln s) else s
def aRes (s : SG) (z : Int) : Int := if ok2 z then (if sav s z.toNat = true then (((slo s z.toNat).2.2.2 : Nat) : Int) else -5) else -2
def nRes (s : SG) (z : Int) : SG := if ok2 z ∧ sav s z.toNat = true then setC (knowS s) (slo s z.toNat) else s
/-! lemmas -/
theorem cpyL (L : Nat → Nat) {r R : Nat} (h : r < R) : va_cpy (fun j => iI ((L j : Nat) : Int)) (fun j => iI ((L j : Nat) : Int)) (r + 1) r (R - 1 - r) = fun j => iI ((outL L r R j : Nat) : Int) := by
  funext j
  unfold va_cpy outL
  by_cases h2 : r ≤ j ∧ j + 1 < R
  · rw [if_pos (by omega), if_pos h2, show r + 1 + (j - r) = j + 1 from by omega]
  · rw [if_neg (by omega), if_neg h2]
theorem cpyG (g : Nat → Nat) {r R : Nat} (h : r < R) : va_cpy (fun j => iI ((g j : Nat) : Int)) (fun j => iI ((g j : Nat) : Int)) ((r + 1) * 64) (r * 64) ((R - 1 - r) * 64) = fun j => iI ((outG g r R j : Nat) : Int) := by
  funext j
  unfold va_cpy outG
  by_cases h2 : r * 64 ≤ j ∧ j + 64 < R * 64
  · rw [if_pos (by omega), if_pos h2, show (r + 1) * 64 + (j - r * 64) = j + 64 from by omega]
  · rw [if_neg (by omega), if_neg h2]
theorem byt_lt (x : Int64) (p : Nat) : byt x p < 256 := Nat.mod_lt _ (by decide)
theorem iI_tb {m : Nat} (h : m < 2147483648) : (iI ((m : Nat) : Int)).toBitVec.toNat = m := by
  show (BitVec.ofInt 32 ((m : Nat) : Int)).toNat = m
  rw [BitVec.toNat_ofInt]
  omega
theorem and255 (n : Nat) : n &&& 255 = n % 256 := Nat.and_two_pow_sub_one_eq_mod n 8
theorem jI_255 : (jI 255).toBitVec = 255#64 := by decide
theorem byt_lo (y : BitVec 64) : ((Int64.ofBitVec (y &&& 255#64)).toInt32) = iI ((y.toNat % 256 : Nat) : Int) := by
  apply Int32.toBitVec.inj
  apply BitVec.eq_of_toNat_eq
  rw [iI_tb (by omega)]
  show ((y &&& 255#64).signExtend 32).toNat = _
  rw [BitVec.signExtend_eq_setWidth_of_le _ (by decide), BitVec.toNat_setWidth, BitVec.toNat_and]
  show (y.toNat &&& 255) % 2 ^ 32 = _
  rw [and255]
  omega
theorem sh_u : ∀ p, p < 8 → ((iI ((8 * p : Nat) : Int)).toInt64.toUInt64 &&& Int64.toUInt64 63) = UInt64.ofNat (8 * p) := by decide
theorem sh_s : ∀ p, p < 8 → ((iI ((8 * p : Nat) : Int)).toInt64 &&& 63) = Int64.ofNat (8 * p) := by decide
theorem byt_u (x : Int64) {p : Nat} (hp : p < 8) : ((x.toUInt64 >>> ((iI ((8 * p : Nat) : Int)).toInt64.toUInt64 &&& Int64.toUInt64 63)).toInt64 &&& jI 255).toInt32 = iI ((byt x p : Nat) : Int) := by
  rw [sh_u p hp]
  have e : ((x.toUInt64 >>> UInt64.ofNat (8 * p)).toInt64 &&& jI 255) = Int64.ofBitVec ((x.toBitVec >>> (8 * p)) &&& 255#64) := by
    apply Int64.toBitVec.inj
    show (x.toBitVec >>> ((BitVec.ofNat 64 (8 * p)).toNat % 64 : Nat)) &&& (jI 255).toBitVec = (x.toBitVec >>> (8 * p)) &&& 255#64
    rw [jI_255, BitVec.toNat_ofNat, show 8 * p % 2 ^ 64 % 64 = 8 * p from by omega]
  rw [e, byt_lo, BitVec.toNat_ushiftRight, Nat.shiftRight_eq_div_pow]
  rfl
theorem nch_le (x : Int64) : nch x ≤ 8 := by
  unfold nch
  split
  · exact frst_le _ _
  · omega
theorem nch_chr {x : Int64} {j : Nat} (h : j < nch x) : byt x j ≤ 126 := by
  unfold nch at h
  split at h
  · rename_i h1
    exact ((h1 j (by have := frst_le (fun j => decide (byt x j = 0)) 8; unfold gap at h; omega)).1 h).2
  · omega
theorem nch_bad1 {x : Int64} {n p : Nat} (hp : p < 8) (hn : n < p) (h1 : ∀ j, j < n → 33 ≤ byt x j ∧ byt x j ≤ 126) (h2 : ∀ j, n ≤ j → j < p → byt x j = 0) (h3 : ¬ byt x p = 0) : nch x = 0 := by
  have e : gap x = n := frst_eq (by omega) (fun j hj => by have := h1 j hj; simp; omega) (fun _ => by simp; exact h2 n (Nat.le_refl _) hn)
  unfold nch
  rw [if_neg (fun h => h3 ((h p hp).2 (by omega)))]
theorem nch_bad2 {x : Int64} {p : Nat} (hp : p < 8) (h1 : ∀ j, j < p → 33 ≤ byt x j ∧ byt x j ≤ 126) (h3 : ¬ byt x p = 0) (h4 : ¬ (33 ≤ byt x p ∧ byt x p ≤ 126)) : nch x = 0 := by
  have e : p < gap x := by
    rcases Nat.lt_or_ge p (gap x) with q | q
    · exact q
    · have h5 : gap x < 8 := by omega
      have h6 := frst_yes (fun j => decide (byt x j = 0)) 8 h5
      simp at h6
      rcases Nat.lt_or_ge (gap x) p with q2 | q2
      · have := h1 _ q2
        unfold gap at this
        omega
      · exact absurd (show byt x p = 0 by have e : p = gap x := by omega
                                          rw [e]; exact h6) h3
  unfold nch
  rw [if_neg (fun h => h4 ((h p hp).1 e))]
theorem nch_good {x : Int64} {n : Nat} (hn : n ≤ 8) (h1 : ∀ j, j < n → 33 ≤ byt x j ∧ byt x j ≤ 126) (h2 : ∀ j, n ≤ j → j < 8 → byt x j = 0) : nch x = n := by
  have e : gap x = n := frst_eq (by omega) (fun j hj => by have := h1 j hj; simp; omega) (fun h => by simp; exact h2 n (Nat.le_refl _) h)
  unfold nch
  rw [if_pos (fun j hj => ⟨fun h => h1 j (by omega), fun h => h2 j (by omega) hj⟩), e]
theorem putF_0 (p : Nat → Nat) (pl : Nat) (x : Int64) (n : Nat) : putF p pl x n 0 = p := by
  funext j
  unfold putF
  rw [if_neg (by omega)]
theorem putF_s (p : Nat → Nat) (pl : Nat) (x : Int64) (n k : Nat) : upN (putF p pl x n k) (pl + k) (byt x (n - 1 - k)) = putF p pl x n (k + 1) := by
  funext j
  unfold upN putF
  by_cases h : j = pl + k
  · rw [if_pos h, if_pos (by omega), h, Nat.add_sub_cancel_left]
  · rw [if_neg h]
    by_cases h2 : pl ≤ j ∧ j < pl + k
    · rw [if_pos h2, if_pos (by omega)]
    · rw [if_neg h2, if_neg (by omega)]
theorem begin_XJ {tc : Nat → ClassId} {ad : Nat → Nat} {s : SG} {f f' : Nat → va_E} (hX : XI tc ad f s) (c0 : f' 0 = oX ad (kpush (kno s)) (pln s)) (hH : iHis tc ad f' (kpush (kno s)) (hpush (hst s) (kno s) (cur s))) (h82 : ∃ g : Nat → Int32, f' 82 = eB tc 10 g ∧ ∀ j, j < 10 → g j = iI ((0 : Nat) : Int)) (hfr : ∀ q, q ≠ 0 → (q < 5 ∨ 30 ≤ q) → q ≠ 82 → f' q = f q) : XJ tc ad f' (knowS s) := by
  obtain ⟨h0, hst, hHis, hSlo, h40, ⟨gt, wd, w1, w2, w3, w4⟩, hPr, hHd⟩ := hX
  obtain ⟨g, g1, g2⟩ := h82
  exact ⟨c0, hst.fr (fun q _ _ => hfr q (by omega) (by omega) (by omega)), hH, hSlo.fr (fun q _ _ => hfr q (by omega) (by omega) (by omega)), h40.fr (hfr _ (by omega) (by omega) (by omega)),
    fun n => ⟨g, wd, (hfr _ (by omega) (by omega) (by omega)).trans w1, g1, fun k hk => (w3 k hk).fr (fun q _ _ => hfr q (by omega) (by omega) (by omega)), fun k hk => Or.inl (g2 k hk)⟩,
    hPr.fr (fun q _ _ => hfr q (by omega) (by omega) (by omega)), hHd.fr (hfr _ (by omega) (by omega) (by omega))⟩
variable {X : XT} {G : va_G} {tc : Nat → ClassId} {l : Launch} {cc : ByteArray} {own : String} {Ts : List Cond} {nL : Nat} {R : Room} {ad : Nat → Nat} {N : Nat} {f : Nat → va_E} {k n pc : Nat} {lv : List (Nat × Value)} {st : List Value}
theorem r_gets (C : CC X G tc l cc own Ts nL R) {nm : String} {t index : Nat} (hZ : va_Z RX3 nm "[I" (.ref t) X.2.2.2.1 X.2.1.2.2.2.1 X.2.1.2.2.2.1.heap) (hlk : Cond.fieldLink own index RX3 nm "[I" ∈ Ts) (hdg : decode cc pc = .ok (.getstatic index, 3)) (kk : VV X ad N f k n (pc + 3) lv (.ref t :: st)) : VV X ad N f k n pc lv st :=
  fun H locs ls hP hD hS hl => va_gets C.2.1.1 C.2.1.2.1 hZ hS C.2.1.2.2.2.1 (C.2.1.2.2.2.2 _ hlk) (fun _ h => h) hdg (kk H locs ls hP hD hS hl)
theorem r_tld (C : CC X G tc l cc own Ts nL R) {t : Nat} {g : Nat → Int} {z : Int} (hX : va_X t 4 (fun j => iI (g j)) X.2.1.2.2.2.1 X.2.1.2.2.2.1.heap) (ht : t < X.2.1.2.2.2.1.heap.size) (hA : ¬ X.2.2.2.1 t) (j : Nat) (hz : z = (j : Int)) (hj : j < 4) (hdg : decode cc pc = .ok (.iaload, 1)) (kk : VV X ad N f k n (pc + 1) lv (.int (iI (g j)) :: st)) : VV X ad N f k n pc lv (.int (iI z) :: .ref t :: st) := by
  intro H locs ls hP hD hS hl
  refine va_sld C.2.1.1 C.2.1.2.1 hX ht hA hS (iI_vin hz hj (by omega)) hdg ?_
  rw [iI_ix hz (by omega)]
  exact kk H locs ls hP hD hS hl
end OPS
end
section
section XO1
theorem fau_rng (p : Nat → Nat) {n : Nat} (h : n ≤ 64) : -6 ≤ fau p n ∧ fau p n ≤ 64 := by
  have h0 := frst_le (fun j => !okc (p j)) n
  unfold fau faN
  split
  · omega
  · split <;> omega
theorem updNz (a : Nat → Nat) (k : Nat) {v : Int} (h : 0 ≤ v) : upd (fun j => iI ((a j : Nat) : Int)) k (iI v) = fun j => iI ((upN a k v.toNat j : Nat) : Int) := by
  rw [← updN, Int.toNat_of_nonneg h]
theorem J_set {tc : Nat → ClassId} {ad : Nat → Nat} {s : SG} {f1 f' : Nat → va_E} {n : NS} {pl : Nat} (hJ : XJ tc ad f1 s) (hs : isSt tc ad f' 1 n) (h0 : f' 0 = oX ad (kno s) pl) (hfr : ∀ q, 5 ≤ q → q < 88 → f' q = f1 q) : XI tc ad f' (n, hst s, kno s, slo s, sav s, pad s, pl) := by
  obtain ⟨-, -, jH, jS, j40, jW, jP, jD⟩ := hJ
  exact ⟨h0, hs, jH.fr (fun q _ _ => hfr q (by omega) (by omega)), jS.fr (fun q _ _ => hfr q (by omega) (by omega)), j40.fr (hfr _ (by omega) (by omega)), (jW n).fr (fun q _ _ => hfr q (by omega) (by omega)), jP.fr (fun q _ _ => hfr q (by omega) (by omega)), jD.fr (hfr _ (by omega) (by omega))⟩
set_option maxHeartbeats 4000000 in
set_option maxRecDepth 100000 in
/-- beginChange(): one more state is known, no words are gathered -/
theorem c_X3_beginChange (G : va_G) (tc : Nat → ClassId) (l : Launch) (ad : Nat → Nat) (N : Nat) (f : Nat → va_E) (s : SG) (hX : XI tc ad f s) (ho : okS s) (hN : 98 ≤ N)    : Ct G tc l yX3_beginChange wsX3_beginChange { frames := 2, cells := 0, slots := 0, locals := 41 } 0 0 [.ref (ad (0))] ad N f (poV ad N (fun f' => XJ tc ad f' (knowS s) ∧ ∀ q, 88 ≤ q → f' q = f q)) := by
  obtain ⟨h0, ⟨h1, h2, h3, h4⟩, hHis, hSlo, h40, hWds, hPr, hHd⟩ := id hX
  obtain ⟨⟨⟨a1, a2⟩, ⟨a3, a4⟩, ⟨a5, a6⟩, a7, a8, a9, a10⟩, o2, o3, o4, o5, o6⟩ := id ho
  obtain ⟨pi, hs, h5, hpi, hpj, hss, hhv⟩ := id hHis
  obtain ⟨gt, wd, w41, w82, wst, wv⟩ := id hWds
  refine stV (cc := cX3_beginChange) (maxL := 1) (lv := [(0, .ref (ad (0)))]) (by decide) rfl (Nat.le_of_ble_eq_true rfl) rfl (fun X C hret => ?_)
  have m0 : Cond.fieldLink RX3 20 "WordSamples" "undoable" "I" ∈ wsX3_beginChange := by decide +kernel
  have m1 : ∀ w ∈ wsX30, w ∈ wsX3_beginChange := by decide +kernel
  have m2 : Cond.fieldLink RX3 16 "WordSamples" "history" "[LWordSamples$State;" ∈ wsX3_beginChange := by decide +kernel
  have m3 : Cond.fieldLink RX3 10 "WordSamples" "now" "LWordSamples$State;" ∈ wsX3_beginChange := by decide +kernel
  refine r_aload_n C dX3_beginChange_0 rfl rfl ?_
  refine r_get (v := .int (iI ((kno s : Nat) : Int))) C (by omega) h0 (show vwCl[3]? = some (RX3, TX3, 11) from rfl) m1 2 (by decide) m0 rfl rfl dX3_beginChange_1 ?_
  refine r_bipush C ((6 : Nat) : Int) (by decide) dX3_beginChange_4 ?_
  refine r_icmp_lt (tgt := 13) C ⟨by omega, by omega⟩ ⟨by omega, by omega⟩ dX3_beginChange_6 (by decide) (fun b1 => ?_) (fun b1 => ?_)
  · refine r_aload_n C dX3_beginChange_13 rfl rfl ?_
    refine r_get (v := .ref (ad (5))) C (by omega) h0 (show vwCl[3]? = some (RX3, TX3, 11) from rfl) m1 1 (by decide) m2 rfl rfl dX3_beginChange_14 ?_
    refine r_aload_n C dX3_beginChange_17 rfl rfl ?_
    refine r_get (v := .int (iI ((kno s : Nat) : Int))) C (by omega) h0 (show vwCl[3]? = some (RX3, TX3, 11) from rfl) m1 2 (by decide) m0 rfl rfl dX3_beginChange_18 ?_
    refine r_aaldS (a := ad (6 + 4 * pi (kno s))) C (by omega) h5 (kno s) rfl (by omega) (Nat.le_of_ble_eq_true rfl) (rfl) dX3_beginChange_21 ?_
    refine r_aload_n C dX3_beginChange_22 rfl rfl ?_
    refine r_get (v := .ref (ad (1))) C (by omega) h0 (show vwCl[3]? = some (RX3, TX3, 11) from rfl) m1 0 (by decide) m3 rfl rfl dX3_beginChange_23 ?_
    have hq2 := hpi (kno s) (by omega)
    have hcs := (hss _ hq2).fr (f' := f) (fun q g1 g2 => rfl)
    have hcc := (show isSt tc ad f 1 (cur s) from ⟨h1, h2, h3, h4⟩).fr (f' := f) (fun q g1 g2 => rfl)
    refine r_callV (As := [.ref (ad (1))]) (rest := []) (na := 1) C (c_X1_copyFrom G tc l ad N _ (6 + 4 * pi (kno s)) 1 (by omega) (by omega) (by omega) (cur s) _ hcs hcc) gX3_beginChange_X1_copyFrom rfl rfl rfl (by decide +kernel) ⟨Nat.le_of_ble_eq_true rfl, Nat.le_of_ble_eq_true rfl⟩ (by omega) hcs.1 (show vwCl[1]? = some (RX1, TX1, 4) from rfl) rfl rfl (Nat.le_of_ble_eq_true rfl) dX3_beginChange_26 ⟨Nat.le_of_ble_eq_true rfl, Nat.le_of_ble_eq_true rfl⟩ (aft_V (fun f2 hF3 => ?_))
    obtain ⟨hcp, hoC⟩ := hF3
    refine r_aload_n C dX3_beginChange_29 rfl rfl ?_
    refine r_dup C dX3_beginChange_30 rfl ?_
    have c4 : f2 (0) = eO 3 [.ref (ad (1)), .ref (ad (5)), .int (iI ((kno s : Nat) : Int)), .ref (ad (30)), .ref (ad (39)), .ref (ad (40)), .int (iI ((pln s : Nat) : Int)), .ref (ad (41)), .ref (ad (82)), .ref (ad (83)), .ref (ad (87))] := (hoC _ (by omega)).trans h0
    refine r_get (v := .int (iI ((kno s : Nat) : Int))) C (by omega) c4 (show vwCl[3]? = some (RX3, TX3, 11) from rfl) m1 2 (by decide) m0 rfl rfl dX3_beginChange_31 ?_
    refine r_iconst C ((1 : Nat) : Int) (by decide) dX3_beginChange_34 ?_
    refine r_iadd C ((kno s + 1 : Nat) : Int) (by omega) dX3_beginChange_35 ?_
    refine r_put (ty := .int) C (by omega) c4 (show vwCl[3]? = some (RX3, TX3, 11) from rfl) m1 tyX3_ok nmX3 2 (by decide) m0 rfl rfl (by decide +kernel) rfl rfl (Nat.le_of_ble_eq_true rfl) dX3_beginChange_36 (fun f5 hs6 ho7 => ?_)
    have c8 : f5 (0) = eO 3 [.ref (ad (1)), .ref (ad (5)), .int (iI ((kno s + 1 : Nat) : Int)), .ref (ad (30)), .ref (ad (39)), .ref (ad (40)), .int (iI ((pln s : Nat) : Int)), .ref (ad (41)), .ref (ad (82)), .ref (ad (83)), .ref (ad (87))] := hs6
    refine r_aload_n C dX3_beginChange_39 rfl rfl ?_
    have c9 : f2 (82) = eB tc 10 (gt) := (hoC _ (by omega)).trans w82
    have c10 : f5 (82) = eB tc 10 (gt) := (ho7 _ (by omega)).trans c9
    refine r_callV (As := []) (rest := []) (na := 0) C (c_X3_forgetWords G tc l ad N _ (kno s + 1) (pln s) gt hN c8 c10) gX3_beginChange_X3_forgetWords rfl rfl rfl (by decide +kernel) ⟨Nat.le_of_ble_eq_true rfl, Nat.le_of_ble_eq_true rfl⟩ (by omega) c8 (show vwCl[3]? = some (RX3, TX3, 11) from rfl) rfl rfl (Nat.le_of_ble_eq_true rfl) dX3_beginChange_40 ⟨Nat.le_of_ble_eq_true rfl, Nat.le_of_ble_eq_true rfl⟩ (aft_V (fun f11 hF12 => ?_))
    obtain ⟨h82, hoW⟩ := hF12
    have c13 : f11 (0) = eO 3 [.ref (ad (1)), .ref (ad (5)), .int (iI ((kno s + 1 : Nat) : Int)), .ref (ad (30)), .ref (ad (39)), .ref (ad (40)), .int (iI ((pln s : Nat) : Int)), .ref (ad (41)), .ref (ad (82)), .ref (ad (83)), .ref (ad (87))] := (hoW _ (by omega)).trans c8
    have c14 : f2 (5) = eS tc 6 (fun k => some (ad (6 + 4 * pi k))) := (hoC _ (by omega)).trans h5
    have c15 : f5 (5) = eS tc 6 (fun k => some (ad (6 + 4 * pi k))) := (ho7 _ (by omega)).trans c14
    have c16 : f11 (5) = eS tc 6 (fun k => some (ad (6 + 4 * pi k))) := (hoW _ (by omega)).trans c15
    have hcq := hcp.fr (f' := f11) (fun q g1 g2 => ((hoW _ (by omega))).trans (ho7 _ (by omega)))
    have e1 : kpush (kno s) = kno s + 1 := if_pos (by omega)
    have e2 : hpush (hst s) (kno s) (cur s) = fun k => if k = kno s then cur s else hst s k := if_pos (by omega)
    have hH : iHis tc ad f11 (kno s + 1) (fun k => if k = kno s then cur s else hst s k) := his_upd c16 hpi hpj hss hhv (by omega) hcq (fun q g1 g2 g3 => (((hoW _ (by omega))).trans (ho7 _ (by omega))).trans (hoC _ (by omega)))
    exact hret f11 _ _ dX3_beginChange_43 (⟨begin_XJ hX (by rw [e1]; exact c13) (by rw [e1, e2]; exact hH) h82 (fun q g1 g2 g3 => (((hoW _ (by omega))).trans (ho7 _ (by omega))).trans (hoC _ (by omega))), fun q hq => (((hoW _ (by omega))).trans (ho7 _ (by omega))).trans (hoC _ (by omega))⟩)
  · refine r_aload_n C dX3_beginChange_9 rfl rfl ?_
    refine r_callV (As := []) (rest := []) (na := 0) C (c_X3_dropOldestChange G tc l ad N _ (kno s) (pln s) pi hs hN hpi hss h0 h5) gX3_beginChange_X3_dropOldestChange rfl rfl rfl (by decide +kernel) ⟨Nat.le_of_ble_eq_true rfl, Nat.le_of_ble_eq_true rfl⟩ (by omega) h0 (show vwCl[3]? = some (RX3, TX3, 11) from rfl) rfl rfl (Nat.le_of_ble_eq_true rfl) dX3_beginChange_10 ⟨Nat.le_of_ble_eq_true rfl, Nat.le_of_ble_eq_true rfl⟩ (aft_V (fun f17 hF18 => ?_))
    obtain ⟨d0, d5, hoD⟩ := hF18
    refine r_aload_n C dX3_beginChange_13 rfl rfl ?_
    refine r_get (v := .ref (ad (5))) C (by omega) d0 (show vwCl[3]? = some (RX3, TX3, 11) from rfl) m1 1 (by decide) m2 rfl rfl dX3_beginChange_14 ?_
    refine r_aload_n C dX3_beginChange_17 rfl rfl ?_
    refine r_get (v := .int (iI ((5 : Nat) : Int))) C (by omega) d0 (show vwCl[3]? = some (RX3, TX3, 11) from rfl) m1 2 (by decide) m0 rfl rfl dX3_beginChange_18 ?_
    refine r_aaldS (a := ad (6 + 4 * rotF pi 5)) C (by omega) d5 (5) rfl (by omega) (Nat.le_of_ble_eq_true rfl) (rfl) dX3_beginChange_21 ?_
    refine r_aload_n C dX3_beginChange_22 rfl rfl ?_
    refine r_get (v := .ref (ad (1))) C (by omega) d0 (show vwCl[3]? = some (RX3, TX3, 11) from rfl) m1 0 (by decide) m3 rfl rfl dX3_beginChange_23 ?_
    have hq2 := rotF_lt hpi 5 (by omega)
    have hcs := (hss _ hq2).fr (f' := f17) (fun q g1 g2 => (hoD _ (by omega)))
    have hcc := (show isSt tc ad f 1 (cur s) from ⟨h1, h2, h3, h4⟩).fr (f' := f17) (fun q g1 g2 => (hoD _ (by omega)))
    refine r_callV (As := [.ref (ad (1))]) (rest := []) (na := 1) C (c_X1_copyFrom G tc l ad N _ (6 + 4 * rotF pi 5) 1 (by omega) (by omega) (by omega) (cur s) _ hcs hcc) gX3_beginChange_X1_copyFrom rfl rfl rfl (by decide +kernel) ⟨Nat.le_of_ble_eq_true rfl, Nat.le_of_ble_eq_true rfl⟩ (by omega) hcs.1 (show vwCl[1]? = some (RX1, TX1, 4) from rfl) rfl rfl (Nat.le_of_ble_eq_true rfl) dX3_beginChange_26 ⟨Nat.le_of_ble_eq_true rfl, Nat.le_of_ble_eq_true rfl⟩ (aft_V (fun f19 hF20 => ?_))
    obtain ⟨hcp, hoC⟩ := hF20
    refine r_aload_n C dX3_beginChange_29 rfl rfl ?_
    refine r_dup C dX3_beginChange_30 rfl ?_
    have c21 : f19 (0) = eO 3 [.ref (ad (1)), .ref (ad (5)), .int (iI ((5 : Nat) : Int)), .ref (ad (30)), .ref (ad (39)), .ref (ad (40)), .int (iI ((pln s : Nat) : Int)), .ref (ad (41)), .ref (ad (82)), .ref (ad (83)), .ref (ad (87))] := (hoC _ (by omega)).trans d0
    refine r_get (v := .int (iI ((5 : Nat) : Int))) C (by omega) c21 (show vwCl[3]? = some (RX3, TX3, 11) from rfl) m1 2 (by decide) m0 rfl rfl dX3_beginChange_31 ?_
    refine r_iconst C ((1 : Nat) : Int) (by decide) dX3_beginChange_34 ?_
    refine r_iadd C ((6 : Nat) : Int) rfl dX3_beginChange_35 ?_
    refine r_put (ty := .int) C (by omega) c21 (show vwCl[3]? = some (RX3, TX3, 11) from rfl) m1 tyX3_ok nmX3 2 (by decide) m0 rfl rfl (by decide +kernel) rfl rfl (Nat.le_of_ble_eq_true rfl) dX3_beginChange_36 (fun f22 hs23 ho24 => ?_)
    have c25 : f22 (0) = eO 3 [.ref (ad (1)), .ref (ad (5)), .int (iI ((6 : Nat) : Int)), .ref (ad (30)), .ref (ad (39)), .ref (ad (40)), .int (iI ((pln s : Nat) : Int)), .ref (ad (41)), .ref (ad (82)), .ref (ad (83)), .ref (ad (87))] := hs23
    refine r_aload_n C dX3_beginChange_39 rfl rfl ?_
    have c26 : f17 (82) = eB tc 10 (gt) := (hoD _ (by omega)).trans w82
    have c27 : f19 (82) = eB tc 10 (gt) := (hoC _ (by omega)).trans c26
    have c28 : f22 (82) = eB tc 10 (gt) := (ho24 _ (by omega)).trans c27
    refine r_callV (As := []) (rest := []) (na := 0) C (c_X3_forgetWords G tc l ad N _ (6) (pln s) gt hN c25 c28) gX3_beginChange_X3_forgetWords rfl rfl rfl (by decide +kernel) ⟨Nat.le_of_ble_eq_true rfl, Nat.le_of_ble_eq_true rfl⟩ (by omega) c25 (show vwCl[3]? = some (RX3, TX3, 11) from rfl) rfl rfl (Nat.le_of_ble_eq_true rfl) dX3_beginChange_40 ⟨Nat.le_of_ble_eq_true rfl, Nat.le_of_ble_eq_true rfl⟩ (aft_V (fun f29 hF30 => ?_))
    obtain ⟨h82, hoW⟩ := hF30
    have c31 : f29 (0) = eO 3 [.ref (ad (1)), .ref (ad (5)), .int (iI ((6 : Nat) : Int)), .ref (ad (30)), .ref (ad (39)), .ref (ad (40)), .int (iI ((pln s : Nat) : Int)), .ref (ad (41)), .ref (ad (82)), .ref (ad (83)), .ref (ad (87))] := (hoW _ (by omega)).trans c25
    have c32 : f19 (5) = eS tc 6 (fun k => some (ad (6 + 4 * rotF pi k))) := (hoC _ (by omega)).trans d5
    have c33 : f22 (5) = eS tc 6 (fun k => some (ad (6 + 4 * rotF pi k))) := (ho24 _ (by omega)).trans c32
    have c34 : f29 (5) = eS tc 6 (fun k => some (ad (6 + 4 * rotF pi k))) := (hoW _ (by omega)).trans c33
    have hcq := hcp.fr (f' := f29) (fun q g1 g2 => ((hoW _ (by omega))).trans (ho24 _ (by omega)))
    have e1 : kpush (kno s) = 6 := if_neg (by omega)
    have e2 : hpush (hst s) (kno s) (cur s) = fun k => if k = 5 then cur s else hst s (k + 1) := if_neg (by omega)
    have hH : iHis tc ad f29 (5 + 1) (fun k => if k = 5 then cur s else hst s (k + 1)) := his_upd (h := fun k => hst s (k + 1)) c34 (rotF_lt hpi) (rotF_inj hpj) hss (fun k hk => by unfold rotF; rw [if_pos hk]; exact hhv _ (by omega)) (by omega) hcq (fun q g1 g2 g3 => ((((hoW _ (by omega))).trans (ho24 _ (by omega))).trans (hoC _ (by omega))).trans (hoD _ (by omega)))
    exact hret f29 _ _ dX3_beginChange_43 (⟨begin_XJ hX (by rw [e1]; exact c31) (by rw [e1, e2]; exact hH) h82 (fun q g1 g2 g3 => ((((hoW _ (by omega))).trans (ho24 _ (by omega))).trans (hoC _ (by omega))).trans (hoD _ (by omega))), fun q hq => ((((hoW _ (by omega))).trans (ho24 _ (by omega))).trans (hoC _ (by omega))).trans (hoD _ (by omega))⟩)
set_option maxHeartbeats 4000000 in
set_option maxRecDepth 100000 in
/-- set -/
theorem c_X3_set (G : va_G) (tc : Nat → ClassId) (l : Launch) (ad : Nat → Nat) (N : Nat) (f : Nat → va_E) (s : SG) (hX : XI tc ad f s) (ho : okS s) (hN : 98 ≤ N) (z v : Int) (hz : inR z) (hv : inR v)   : Ct G tc l yX3_set wsX3_set { frames := 3, cells := 0, slots := 0, locals := 61 } 0 0 [.ref (ad (0)), .int (iI (z)), .int (iI (v))] ad N f (poI ad N (aSet s z v) (fun f' => XI tc ad f' (nSet s z v) ∧ ∀ q, 88 ≤ q → f' q = f q)) := by
  obtain ⟨h0, ⟨h1, h2, h3, h4⟩, hHis, hSlo, h40, hWds, hPr, hHd⟩ := id hX
  obtain ⟨⟨⟨a1, a2⟩, ⟨a3, a4⟩, ⟨a5, a6⟩, a7, a8, a9, a10⟩, o2, o3, o4, o5, o6⟩ := id ho
  refine stI (cc := cX3_set) (maxL := 4) (lv := [(0, .ref (ad (0))), (1, .int (iI (z))), (2, .int (iI (v)))]) (by decide) rfl (Nat.le_of_ble_eq_true rfl) rfl (fun X C hret => ?_)
  have m0 : Cond.fieldLink RX3 58 "WordSamples" "LEAST_SETTING" "[I" ∈ wsX3_set := by decide +kernel
  have m1 : Cond.fieldLink RX3 61 "WordSamples" "MOST_SETTING" "[I" ∈ wsX3_set := by decide +kernel
  have m2 : Cond.fieldLink RX3 10 "WordSamples" "now" "LWordSamples$State;" ∈ wsX3_set := by decide +kernel
  have m3 : ∀ w ∈ wsX30, w ∈ wsX3_set := by decide +kernel
  have m4 : Cond.fieldLink RX3 67 "WordSamples$State" "settings" "[I" ∈ wsX3_set := by decide +kernel
  have m5 : ∀ w ∈ wsX10, w ∈ wsX3_set := by decide +kernel
  refine r_iload_n C dX3_set_0 rfl rfl ?_
  refine r_if_lt (tgt := 9) C ⟨by omega, by omega⟩ dX3_set_1 (by decide) (fun b1 => ?_) (fun b1 => ?_)
  · refine r_bipush C ((-2)) (by decide) dX3_set_9 ?_
    exact hret f ((-2)) _ _ dX3_set_11 (by unfold aSet; rw [if_neg (by omega)]) (⟨by unfold nSet; rw [if_neg (by omega)]; exact hX, fun _ _ => rfl⟩)
  · refine r_iload_n C dX3_set_4 rfl rfl ?_
    refine r_iconst C ((4 : Nat) : Int) (by decide) dX3_set_5 ?_
    refine r_icmp_lt (tgt := 12) C ⟨by omega, by omega⟩ ⟨by omega, by omega⟩ dX3_set_6 (by decide) (fun b2 => ?_) (fun b2 => ?_)
    · refine r_iload_n C dX3_set_12 rfl rfl ?_
      obtain ⟨t1, t1Z, t1X, t1l, t1A⟩ := C.2.2.2.1.1.1
      refine r_gets C t1Z m0 dX3_set_13 ?_
      refine r_iload_n C dX3_set_16 rfl rfl ?_
      refine r_tld C t1X t1l t1A (z.toNat) (by omega) (by omega) dX3_set_17 ?_
      have q1 : lS z.toNat ≤ 1 ∧ 0 ≤ lS z.toNat := by unfold lS; omega
      refine r_icmp_lt (tgt := 30) C ⟨by omega, by omega⟩ ⟨by omega, by omega⟩ dX3_set_18 (by decide) (fun b3 => ?_) (fun b3 => ?_)
      · refine r_bipush C ((-2)) (by decide) dX3_set_30 ?_
        exact hret f ((-2)) _ _ dX3_set_32 (by unfold aSet; rw [if_neg (by omega)]) (⟨by unfold nSet; rw [if_neg (by omega)]; exact hX, fun _ _ => rfl⟩)
      · refine r_iload_n C dX3_set_21 rfl rfl ?_
        obtain ⟨t2, t2Z, t2X, t2l, t2A⟩ := C.2.2.2.1.1.2.1
        refine r_gets C t2Z m1 dX3_set_22 ?_
        refine r_iload_n C dX3_set_25 rfl rfl ?_
        refine r_tld C t2X t2l t2A (z.toNat) (by omega) (by omega) dX3_set_26 ?_
        have q2 : mS z.toNat ≤ 1000002 ∧ 4 ≤ mS z.toNat := by unfold mS; omega
        refine r_icmp_le (tgt := 33) C ⟨by omega, by omega⟩ ⟨by omega, by omega⟩ dX3_set_27 (by decide) (fun b4 => ?_) (fun b4 => ?_)
        · refine r_aload_n C dX3_set_33 rfl rfl ?_
          refine r_callV (As := []) (rest := []) (na := 0) C (c_X3_beginChange G tc l ad N _ s hX ho hN) gX3_set_X3_beginChange rfl rfl rfl (by decide +kernel) ⟨Nat.le_of_ble_eq_true rfl, Nat.le_of_ble_eq_true rfl⟩ (by omega) h0 (show vwCl[3]? = some (RX3, TX3, 11) from rfl) rfl rfl (Nat.le_of_ble_eq_true rfl) dX3_set_34 ⟨Nat.le_of_ble_eq_true rfl, Nat.le_of_ble_eq_true rfl⟩ (aft_V (fun f5 hF6 => ?_))
          obtain ⟨hJ, hoB⟩ := hF6
          obtain ⟨j0, ⟨j1, j2, j3, j4⟩, jH, jS, j40, jW, jP, jD⟩ := id hJ
          refine r_aload_n C dX3_set_37 rfl rfl ?_
          refine r_get (v := .ref (ad (1))) C (by omega) j0 (show vwCl[3]? = some (RX3, TX3, 11) from rfl) m3 0 (by decide) m2 rfl rfl dX3_set_38 ?_
          refine r_get (v := .ref (ad (2))) C (by omega) j1 (show vwCl[1]? = some (RX1, TX1, 4) from rfl) m5 0 (by decide) m4 rfl rfl dX3_set_41 ?_
          refine r_iload_n C dX3_set_44 rfl rfl ?_
          refine r_iald (x := (iI (((cur s).1 z.toNat : Nat) : Int))) C (by omega) j2 (z.toNat) (by omega) (by omega) (Nat.le_of_ble_eq_true rfl) (rfl) dX3_set_45 ?_
          refine r_istore_n (lv' := [(0, .ref (ad (0))), (1, .int (iI (z))), (2, .int (iI (v))), (3, .int (iI (((cur s).1 z.toNat : Nat) : Int)))]) C dX3_set_46 rfl (by decide) rfl ?_
          refine r_aload_n C dX3_set_47 rfl rfl ?_
          refine r_get (v := .ref (ad (1))) C (by omega) j0 (show vwCl[3]? = some (RX3, TX3, 11) from rfl) m3 0 (by decide) m2 rfl rfl dX3_set_48 ?_
          refine r_get (v := .ref (ad (2))) C (by omega) j1 (show vwCl[1]? = some (RX1, TX1, 4) from rfl) m5 0 (by decide) m4 rfl rfl dX3_set_51 ?_
          refine r_iload_n C dX3_set_54 rfl rfl ?_
          refine r_iload_n C dX3_set_55 rfl rfl ?_
          refine r_iast C (by omega) j2 (z.toNat) (by omega) (by omega) (Nat.le_of_ble_eq_true rfl) dX3_set_56 (fun f7 hs8 ho9 => ?_)
          have c10 : f7 (2) = eI tc 4 (fun j => iI (((upN (cur s).1 z.toNat v.toNat) j : Nat) : Int)) := hs8.trans (congrArg (fun g => eI tc 4 g) (updNz _ _ (by omega)))
          refine r_iload_n C dX3_set_57 rfl rfl ?_
          have c11 : f7 (0) = eO 3 [.ref (ad (1)), .ref (ad (5)), .int (iI ((kpush (kno s) : Nat) : Int)), .ref (ad (30)), .ref (ad (39)), .ref (ad (40)), .int (iI ((pln s : Nat) : Int)), .ref (ad (41)), .ref (ad (82)), .ref (ad (83)), .ref (ad (87))] := (ho9 _ (by omega)).trans j0
          have c12 : f7 (1) = eO 1 [.ref (ad (2)), .ref (ad (3)), .ref (ad (4)), .int (iI (((cur s).2.2.2 : Nat) : Int))] := (ho9 _ (by omega)).trans j1
          have c13 : f7 (3) = eI tc 10 (fun j => iI (((cur s).2.1 j : Nat) : Int)) := (ho9 _ (by omega)).trans j3
          have c14 : f7 (4) = eI tc 640 (fun j => iI (((cur s).2.2.1 j : Nat) : Int)) := (ho9 _ (by omega)).trans j4
          exact hret f7 (((cur s).1 z.toNat : Nat) : Int) _ _ dX3_set_58 (by unfold aSet; rw [if_pos (by omega)]) (⟨by unfold nSet; rw [if_pos (by omega)]; exact J_set (s := knowS s) hJ ⟨c12, c10, c13, c14⟩ c11 (fun q g1 g2 => (ho9 _ (by omega))), fun q hq => ((ho9 _ (by omega))).trans (hoB _ (by omega))⟩)
        · refine r_bipush C ((-2)) (by decide) dX3_set_30 ?_
          exact hret f ((-2)) _ _ dX3_set_32 (by unfold aSet; rw [if_neg (by omega)]) (⟨by unfold nSet; rw [if_neg (by omega)]; exact hX, fun _ _ => rfl⟩)
    · refine r_bipush C ((-2)) (by decide) dX3_set_9 ?_
      exact hret f ((-2)) _ _ dX3_set_11 (by unfold aSet; rw [if_neg (by omega)]) (⟨by unfold nSet; rw [if_neg (by omega)]; exact hX, fun _ _ => rfl⟩)
set_option maxHeartbeats 4000000 in
set_option maxRecDepth 100000 in
/-- add -/
theorem c_X3_add (G : va_G) (tc : Nat → ClassId) (l : Launch) (ad : Nat → Nat) (N : Nat) (f : Nat → va_E) (s : SG) (hX : XI tc ad f s) (ho : okS s) (hN : 98 ≤ N)    : Ct G tc l yX3_add wsX3_add { frames := 3, cells := 0, slots := 0, locals := 61 } 0 0 [.ref (ad (0))] ad N f (poI ad N (aAdd s) (fun f' => XI tc ad f' (nAdd s) ∧ ∀ q, 88 ≤ q → f' q = f q)) := by
  obtain ⟨h0, ⟨h1, h2, h3, h4⟩, hHis, hSlo, h40, hWds, hPr, hHd⟩ := id hX
  obtain ⟨⟨⟨a1, a2⟩, ⟨a3, a4⟩, ⟨a5, a6⟩, a7, a8, a9, a10⟩, o2, o3, o4, o5, o6⟩ := id ho
  refine stI (cc := cX3_add) (maxL := 2) (lv := [(0, .ref (ad (0)))]) (by decide) rfl (Nat.le_of_ble_eq_true rfl) rfl (fun X C hret => ?_)
  have m0 : Cond.fieldLink RX3 10 "WordSamples" "now" "LWordSamples$State;" ∈ wsX3_add := by decide +kernel
  have m1 : ∀ w ∈ wsX30, w ∈ wsX3_add := by decide +kernel
  have m2 : Cond.fieldLink RX3 74 "WordSamples$State" "rows" "I" ∈ wsX3_add := by decide +kernel
  have m3 : ∀ w ∈ wsX10, w ∈ wsX3_add := by decide +kernel
  have m4 : Cond.fieldLink RX3 77 "WordSamples$State" "lengths" "[I" ∈ wsX3_add := by decide +kernel
  refine r_aload_n C dX3_add_0 rfl rfl ?_
  refine r_callV (As := []) (rest := []) (na := 0) C (c_X3_padFault G tc l ad N _ s hX ho hN) gX3_add_X3_padFault rfl rfl rfl (by decide +kernel) ⟨Nat.le_of_ble_eq_true rfl, Nat.le_of_ble_eq_true rfl⟩ (by omega) h0 (show vwCl[3]? = some (RX3, TX3, 11) from rfl) rfl rfl (Nat.le_of_ble_eq_true rfl) dX3_add_1 ⟨Nat.le_of_ble_eq_true rfl, Nat.le_of_ble_eq_true rfl⟩ (aft_I (fun f1 hF2 => ?_))
  rw [hF2]
  have hfr := fau_rng (pad s) (n := pln s) o5
  refine r_bipush C ((-6)) (by decide) dX3_add_4 ?_
  refine r_icmp_eq (tgt := 12) C ⟨by omega, by omega⟩ ⟨by omega, by omega⟩ dX3_add_6 (by decide) (fun b3 => ?_) (fun b3 => ?_)
  · have hfo := fau_ok (p := pad s) (n := pln s) (by omega)
    refine r_aload_n C dX3_add_12 rfl rfl ?_
    refine r_get (v := .ref (ad (1))) C (by omega) h0 (show vwCl[3]? = some (RX3, TX3, 11) from rfl) m1 0 (by decide) m0 rfl rfl dX3_add_13 ?_
    refine r_get (v := .int (iI (((cur s).2.2.2 : Nat) : Int))) C (by omega) h1 (show vwCl[1]? = some (RX1, TX1, 4) from rfl) m3 3 (by decide) m2 rfl rfl dX3_add_16 ?_
    refine r_bipush C ((10 : Nat) : Int) (by decide) dX3_add_19 ?_
    refine r_icmp_lt (tgt := 27) C ⟨by omega, by omega⟩ ⟨by omega, by omega⟩ dX3_add_21 (by decide) (fun b4 => ?_) (fun b4 => ?_)
    · refine r_aload_n C dX3_add_27 rfl rfl ?_
      refine r_callV (As := []) (rest := []) (na := 0) C (c_X3_beginChange G tc l ad N _ s hX ho hN) gX3_add_X3_beginChange rfl rfl rfl (by decide +kernel) ⟨Nat.le_of_ble_eq_true rfl, Nat.le_of_ble_eq_true rfl⟩ (by omega) h0 (show vwCl[3]? = some (RX3, TX3, 11) from rfl) rfl rfl (Nat.le_of_ble_eq_true rfl) dX3_add_28 ⟨Nat.le_of_ble_eq_true rfl, Nat.le_of_ble_eq_true rfl⟩ (aft_V (fun f5 hF6 => ?_))
      obtain ⟨hJ, hoB⟩ := hF6
      obtain ⟨j0, ⟨j1, j2, j3, j4⟩, jH, jS, j40, jW, jP, jD⟩ := id hJ
      refine r_aload_n C dX3_add_31 rfl rfl ?_
      refine r_get (v := .ref (ad (1))) C (by omega) j0 (show vwCl[3]? = some (RX3, TX3, 11) from rfl) m1 0 (by decide) m0 rfl rfl dX3_add_32 ?_
      refine r_get (v := .int (iI (((cur s).2.2.2 : Nat) : Int))) C (by omega) j1 (show vwCl[1]? = some (RX1, TX1, 4) from rfl) m3 3 (by decide) m2 rfl rfl dX3_add_35 ?_
      refine r_istore_n (lv' := [(0, .ref (ad (0))), (1, .int (iI (((cur s).2.2.2 : Nat) : Int)))]) C dX3_add_38 rfl (by decide) rfl ?_
      refine r_aload_n C dX3_add_39 rfl rfl ?_
      refine r_get (v := .ref (ad (1))) C (by omega) j0 (show vwCl[3]? = some (RX3, TX3, 11) from rfl) m1 0 (by decide) m0 rfl rfl dX3_add_40 ?_
      refine r_dup C dX3_add_43 rfl ?_
      refine r_get (v := .int (iI (((cur s).2.2.2 : Nat) : Int))) C (by omega) j1 (show vwCl[1]? = some (RX1, TX1, 4) from rfl) m3 3 (by decide) m2 rfl rfl dX3_add_44 ?_
      refine r_iconst C ((1 : Nat) : Int) (by decide) dX3_add_47 ?_
      refine r_iadd C (((cur s).2.2.2 + 1 : Nat) : Int) (by omega) dX3_add_48 ?_
      refine r_put (ty := .int) C (by omega) j1 (show vwCl[1]? = some (RX1, TX1, 4) from rfl) m3 tyX1_ok nmX1 3 (by decide) m2 rfl rfl (by decide +kernel) rfl rfl (Nat.le_of_ble_eq_true rfl) dX3_add_49 (fun f7 hs8 ho9 => ?_)
      have c10 : f7 (1) = eO 1 [.ref (ad (2)), .ref (ad (3)), .ref (ad (4)), .int (iI (((cur s).2.2.2 + 1 : Nat) : Int))] := hs8
      refine r_aload_n C dX3_add_52 rfl rfl ?_
      have c11 : f7 (0) = eO 3 [.ref (ad (1)), .ref (ad (5)), .int (iI ((kpush (kno s) : Nat) : Int)), .ref (ad (30)), .ref (ad (39)), .ref (ad (40)), .int (iI ((pln s : Nat) : Int)), .ref (ad (41)), .ref (ad (82)), .ref (ad (83)), .ref (ad (87))] := (ho9 _ (by omega)).trans j0
      refine r_get (v := .ref (ad (1))) C (by omega) c11 (show vwCl[3]? = some (RX3, TX3, 11) from rfl) m1 0 (by decide) m0 rfl rfl dX3_add_53 ?_
      refine r_get (v := .ref (ad (3))) C (by omega) c10 (show vwCl[1]? = some (RX1, TX1, 4) from rfl) m3 1 (by decide) m4 rfl rfl dX3_add_56 ?_
      refine r_iload_n C dX3_add_59 rfl rfl ?_
      refine r_iconst C ((0 : Nat) : Int) (by decide) dX3_add_60 ?_
      have c12 : f7 (3) = eI tc 10 (fun j => iI (((cur s).2.1 j : Nat) : Int)) := (ho9 _ (by omega)).trans j3
      refine r_iast C (by omega) c12 ((cur s).2.2.2) rfl (by omega) (Nat.le_of_ble_eq_true rfl) dX3_add_61 (fun f13 hs14 ho15 => ?_)
      have c16 : f13 (3) = eI tc 10 (fun j => iI (((upN ((cur s).2.1) ((cur s).2.2.2) (0)) j : Nat) : Int)) := hs14.trans (congrArg (fun g => eI tc 10 g) (updN _ _ _))
      refine r_aload_n C dX3_add_62 rfl rfl ?_
      refine r_iload_n C dX3_add_63 rfl rfl ?_
      have c17 : f13 (0) = eO 3 [.ref (ad (1)), .ref (ad (5)), .int (iI ((kpush (kno s) : Nat) : Int)), .ref (ad (30)), .ref (ad (39)), .ref (ad (40)), .int (iI ((pln s : Nat) : Int)), .ref (ad (41)), .ref (ad (82)), .ref (ad (83)), .ref (ad (87))] := (ho15 _ (by omega)).trans c11
      have c18 : f13 (1) = eO 1 [.ref (ad (2)), .ref (ad (3)), .ref (ad (4)), .int (iI (((cur s).2.2.2 + 1 : Nat) : Int))] := (ho15 _ (by omega)).trans c10
      have c19 : f7 (4) = eI tc 640 (fun j => iI (((cur s).2.2.1 j : Nat) : Int)) := (ho9 _ (by omega)).trans j4
      have c20 : f13 (4) = eI tc 640 (fun j => iI (((cur s).2.2.1 j : Nat) : Int)) := (ho15 _ (by omega)).trans c19
      have c21 : f7 (40) = eI tc 64 (fun j => iI ((pad s j : Nat) : Int)) := (ho9 _ (by omega)).trans j40
      have c22 : f13 (40) = eI tc 64 (fun j => iI ((pad s j : Nat) : Int)) := (ho15 _ (by omega)).trans c21
      refine r_callV (As := [.int (iI (((cur s).2.2.2 : Nat) : Int))]) (rest := []) (na := 1) C (c_X3_movePadTo G tc l ad N _ (kpush (kno s)) (pln s) _ ((cur s).2.2.2) (upN (cur s).2.1 ((cur s).2.2.2) 0) (cur s).2.2.1 (pad s) hN (by omega) (by unfold upN; rw [if_pos rfl]; omega) (fun j hj => ⟨hfo.2 j hj, o6 j (by omega)⟩) c17 c18 c16 c20 c22) gX3_add_X3_movePadTo rfl rfl rfl (by decide +kernel) ⟨Nat.le_of_ble_eq_true rfl, Nat.le_of_ble_eq_true rfl⟩ (by omega) c17 (show vwCl[3]? = some (RX3, TX3, 11) from rfl) rfl rfl (Nat.le_of_ble_eq_true rfl) dX3_add_64 ⟨Nat.le_of_ble_eq_true rfl, Nat.le_of_ble_eq_true rfl⟩ (aft_V (fun f23 hF24 => ?_))
      obtain ⟨k0, k3, k4, hoM⟩ := hF24
      refine r_iload_n C dX3_add_67 rfl rfl ?_
      have c25 : f23 (1) = eO 1 [.ref (ad (2)), .ref (ad (3)), .ref (ad (4)), .int (iI (((cur s).2.2.2 + 1 : Nat) : Int))] := (hoM _ (by omega)).trans c18
      have c26 : f7 (2) = eI tc 4 (fun j => iI (((cur s).1 j : Nat) : Int)) := (ho9 _ (by omega)).trans j2
      have c27 : f13 (2) = eI tc 4 (fun j => iI (((cur s).1 j : Nat) : Int)) := (ho15 _ (by omega)).trans c26
      have c28 : f23 (2) = eI tc 4 (fun j => iI (((cur s).1 j : Nat) : Int)) := (hoM _ (by omega)).trans c27
      exact hret f23 (((cur s).2.2.2 : Nat) : Int) _ _ dX3_add_68 (by unfold aAdd; rw [if_pos (by omega), if_pos (by omega)]) (⟨by unfold nAdd; rw [if_pos (by omega)]; exact J_set (s := knowS s) hJ ⟨c25, c28, k3, k4⟩ k0 (fun q g1 g2 => (((hoM _ (by omega))).trans (ho15 _ (by omega))).trans (ho9 _ (by omega))), fun q hq => ((((hoM _ (by omega))).trans (ho15 _ (by omega))).trans (ho9 _ (by omega))).trans (hoB _ (by omega))⟩)
    · refine r_bipush C ((-4)) (by decide) dX3_add_24 ?_
      exact hret f ((-4)) _ _ dX3_add_26 (by unfold aAdd; rw [if_pos (by omega), if_neg (by omega)]) (⟨by unfold nAdd; rw [if_neg (by omega)]; exact hX, fun _ _ => rfl⟩)
  · refine r_bipush C ((-3)) (by decide) dX3_add_9 ?_
    exact hret f ((-3)) _ _ dX3_add_11 (by unfold aAdd; rw [if_neg (by omega)]) (⟨by unfold nAdd; rw [if_neg (by omega)]; exact hX, fun _ _ => rfl⟩)
set_option maxHeartbeats 4000000 in
set_option maxRecDepth 100000 in
/-- append -/
theorem c_X3_append (G : va_G) (tc : Nat → ClassId) (l : Launch) (ad : Nat → Nat) (N : Nat) (f : Nat → va_E) (s : SG) (hX : XI tc ad f s) (ho : okS s) (hN : 98 ≤ N) (z : Int) (hz : inR z)   : Ct G tc l yX3_append wsX3_append { frames := 3, cells := 0, slots := 0, locals := 61 } 0 0 [.ref (ad (0)), .int (iI (z))] ad N f (poI ad N (aApp s z) (fun f' => XI tc ad f' (nApp s z) ∧ ∀ q, 88 ≤ q → f' q = f q)) := by
  obtain ⟨h0, ⟨h1, h2, h3, h4⟩, hHis, hSlo, h40, hWds, hPr, hHd⟩ := id hX
  obtain ⟨⟨⟨a1, a2⟩, ⟨a3, a4⟩, ⟨a5, a6⟩, a7, a8, a9, a10⟩, o2, o3, o4, o5, o6⟩ := id ho
  refine stI (cc := cX3_append) (maxL := 2) (lv := [(0, .ref (ad (0))), (1, .int (iI (z)))]) (by decide) rfl (Nat.le_of_ble_eq_true rfl) rfl (fun X C hret => ?_)
  have m0 : Cond.fieldLink RX3 10 "WordSamples" "now" "LWordSamples$State;" ∈ wsX3_append := by decide +kernel
  have m1 : ∀ w ∈ wsX30, w ∈ wsX3_append := by decide +kernel
  have m2 : Cond.fieldLink RX3 77 "WordSamples$State" "lengths" "[I" ∈ wsX3_append := by decide +kernel
  have m3 : ∀ w ∈ wsX10, w ∈ wsX3_append := by decide +kernel
  have m4 : Cond.fieldLink RX3 35 "WordSamples" "padLength" "I" ∈ wsX3_append := by decide +kernel
  refine r_aload_n C dX3_append_0 rfl rfl ?_
  refine r_iload_n C dX3_append_1 rfl rfl ?_
  refine r_callV (As := [.int (iI (z))]) (rest := []) (na := 1) C (c_X3_noRow G tc l ad N _ s hX ho hN z hz) gX3_append_X3_noRow rfl rfl rfl (by decide +kernel) ⟨Nat.le_of_ble_eq_true rfl, Nat.le_of_ble_eq_true rfl⟩ (by omega) h0 (show vwCl[3]? = some (RX3, TX3, 11) from rfl) rfl rfl (Nat.le_of_ble_eq_true rfl) dX3_append_2 ⟨Nat.le_of_ble_eq_true rfl, Nat.le_of_ble_eq_true rfl⟩ (aft_I (fun f1 hF2 => ?_))
  rw [hF2]
  refine r_if_eq (tgt := 10) C ⟨by omega, by omega⟩ dX3_append_5 (by decide) (fun b3 => ?_) (fun b3 => ?_)
  · refine r_aload_n C dX3_append_10 rfl rfl ?_
    refine r_callV (As := []) (rest := []) (na := 0) C (c_X3_padFault G tc l ad N _ s hX ho hN) gX3_append_X3_padFault rfl rfl rfl (by decide +kernel) ⟨Nat.le_of_ble_eq_true rfl, Nat.le_of_ble_eq_true rfl⟩ (by omega) h0 (show vwCl[3]? = some (RX3, TX3, 11) from rfl) rfl rfl (Nat.le_of_ble_eq_true rfl) dX3_append_11 ⟨Nat.le_of_ble_eq_true rfl, Nat.le_of_ble_eq_true rfl⟩ (aft_I (fun f4 hF5 => ?_))
    rw [hF5]
    have hfr := fau_rng (pad s) (n := pln s) o5
    refine r_bipush C ((-6)) (by decide) dX3_append_14 ?_
    refine r_icmp_eq (tgt := 22) C ⟨by omega, by omega⟩ ⟨by omega, by omega⟩ dX3_append_16 (by decide) (fun b6 => ?_) (fun b6 => ?_)
    · have hfo := fau_ok (p := pad s) (n := pln s) (by omega)
      have q9 := a9 z.toNat (by omega)
      refine r_aload_n C dX3_append_22 rfl rfl ?_
      refine r_get (v := .ref (ad (1))) C (by omega) h0 (show vwCl[3]? = some (RX3, TX3, 11) from rfl) m1 0 (by decide) m0 rfl rfl dX3_append_23 ?_
      refine r_get (v := .ref (ad (3))) C (by omega) h1 (show vwCl[1]? = some (RX1, TX1, 4) from rfl) m3 1 (by decide) m2 rfl rfl dX3_append_26 ?_
      refine r_iload_n C dX3_append_29 rfl rfl ?_
      refine r_iald (x := (iI (((cur s).2.1 z.toNat : Nat) : Int))) C (by omega) h3 (z.toNat) (by omega) (by omega) (Nat.le_of_ble_eq_true rfl) (rfl) dX3_append_30 ?_
      refine r_aload_n C dX3_append_31 rfl rfl ?_
      refine r_get (v := .int (iI ((pln s : Nat) : Int))) C (by omega) h0 (show vwCl[3]? = some (RX3, TX3, 11) from rfl) m1 6 (by decide) m4 rfl rfl dX3_append_32 ?_
      refine r_iadd C (((cur s).2.1 z.toNat + (pln s) : Nat) : Int) (by omega) dX3_append_35 ?_
      refine r_bipush C ((64 : Nat) : Int) (by decide) dX3_append_36 ?_
      refine r_icmp_le (tgt := 44) C ⟨by omega, by omega⟩ ⟨by omega, by omega⟩ dX3_append_38 (by decide) (fun b7 => ?_) (fun b7 => ?_)
      · refine r_aload_n C dX3_append_44 rfl rfl ?_
        refine r_callV (As := []) (rest := []) (na := 0) C (c_X3_beginChange G tc l ad N _ s hX ho hN) gX3_append_X3_beginChange rfl rfl rfl (by decide +kernel) ⟨Nat.le_of_ble_eq_true rfl, Nat.le_of_ble_eq_true rfl⟩ (by omega) h0 (show vwCl[3]? = some (RX3, TX3, 11) from rfl) rfl rfl (Nat.le_of_ble_eq_true rfl) dX3_append_45 ⟨Nat.le_of_ble_eq_true rfl, Nat.le_of_ble_eq_true rfl⟩ (aft_V (fun f8 hF9 => ?_))
        obtain ⟨hJ, hoB⟩ := hF9
        obtain ⟨j0, ⟨j1, j2, j3, j4⟩, jH, jS, j40, jW, jP, jD⟩ := id hJ
        refine r_aload_n C dX3_append_48 rfl rfl ?_
        refine r_iload_n C dX3_append_49 rfl rfl ?_
        rw [show (.int (iI (z)) : Value) = .int (iI ((z.toNat : Nat) : Int)) from by rw [Int.toNat_of_nonneg (by omega)]]
        refine r_callV (As := [.int (iI ((z.toNat : Nat) : Int))]) (rest := []) (na := 1) C (c_X3_movePadTo G tc l ad N _ (kpush (kno s)) (pln s) _ z.toNat (cur s).2.1 (cur s).2.2.1 (pad s) hN (by omega) (by omega) (fun j hj => ⟨hfo.2 j hj, o6 j (by omega)⟩) j0 j1 j3 j4 j40) gX3_append_X3_movePadTo rfl rfl rfl (by decide +kernel) ⟨Nat.le_of_ble_eq_true rfl, Nat.le_of_ble_eq_true rfl⟩ (by omega) j0 (show vwCl[3]? = some (RX3, TX3, 11) from rfl) rfl rfl (Nat.le_of_ble_eq_true rfl) dX3_append_50 ⟨Nat.le_of_ble_eq_true rfl, Nat.le_of_ble_eq_true rfl⟩ (aft_V (fun f10 hF11 => ?_))
        obtain ⟨k0, k3, k4, hoM⟩ := hF11
        refine r_aload_n C dX3_append_53 rfl rfl ?_
        refine r_get (v := .ref (ad (1))) C (by omega) k0 (show vwCl[3]? = some (RX3, TX3, 11) from rfl) m1 0 (by decide) m0 rfl rfl dX3_append_54 ?_
        have c12 : f10 (1) = eO 1 [.ref (ad (2)), .ref (ad (3)), .ref (ad (4)), .int (iI (((cur s).2.2.2 : Nat) : Int))] := (hoM _ (by omega)).trans j1
        refine r_get (v := .ref (ad (3))) C (by omega) c12 (show vwCl[1]? = some (RX1, TX1, 4) from rfl) m3 1 (by decide) m2 rfl rfl dX3_append_57 ?_
        refine r_iload_n C dX3_append_60 rfl rfl ?_
        refine r_iald (x := (iI (((upN (cur s).2.1 z.toNat ((cur s).2.1 z.toNat + pln s)) z.toNat : Nat) : Int))) C (by omega) k3 (z.toNat) rfl (by omega) (Nat.le_of_ble_eq_true rfl) (rfl) dX3_append_61 ?_
        have qe : upN (cur s).2.1 z.toNat ((cur s).2.1 z.toNat + pln s) z.toNat = (cur s).2.1 z.toNat + pln s := by unfold upN; rw [if_pos rfl]
        have c13 : f10 (2) = eI tc 4 (fun j => iI (((cur s).1 j : Nat) : Int)) := (hoM _ (by omega)).trans j2
        exact hret f10 (((upN (cur s).2.1 z.toNat ((cur s).2.1 z.toNat + pln s)) z.toNat : Nat) : Int) _ _ dX3_append_62 (by unfold aApp; rw [if_pos (by omega), if_pos (by omega), if_pos (by omega), qe]) (⟨by unfold nApp; rw [if_pos (by omega)]; exact J_set (s := knowS s) hJ ⟨c12, c13, k3, k4⟩ k0 (fun q g1 g2 => (hoM _ (by omega))), fun q hq => ((hoM _ (by omega))).trans (hoB _ (by omega))⟩)
      · refine r_bipush C ((-4)) (by decide) dX3_append_41 ?_
        exact hret f ((-4)) _ _ dX3_append_43 (by unfold aApp; rw [if_pos (by omega), if_pos (by omega), if_neg (by omega)]) (⟨by unfold nApp; rw [if_neg (by omega)]; exact hX, fun _ _ => rfl⟩)
    · refine r_bipush C ((-3)) (by decide) dX3_append_19 ?_
      exact hret f ((-3)) _ _ dX3_append_21 (by unfold aApp; rw [if_pos (by omega), if_neg (by omega)]) (⟨by unfold nApp; rw [if_neg (by omega)]; exact hX, fun _ _ => rfl⟩)
  · refine r_iconst C ((-1)) (by decide) dX3_append_8 ?_
    exact hret f ((-1)) _ _ dX3_append_9 (by unfold aApp; rw [if_neg (by omega)]) (⟨by unfold nApp; rw [if_neg (by omega)]; exact hX, fun _ _ => rfl⟩)
set_option maxHeartbeats 4000000 in
set_option maxRecDepth 100000 in
/-- change -/
theorem c_X3_change (G : va_G) (tc : Nat → ClassId) (l : Launch) (ad : Nat → Nat) (N : Nat) (f : Nat → va_E) (s : SG) (hX : XI tc ad f s) (ho : okS s) (hN : 98 ≤ N) (z p v : Int) (hz : inR z) (hp : inR p) (hv : inR v)   : Ct G tc l yX3_change wsX3_change { frames := 3, cells := 0, slots := 0, locals := 61 } 0 0 [.ref (ad (0)), .int (iI (z)), .int (iI (p)), .int (iI (v))] ad N f (poI ad N (aChg s z p v) (fun f' => XI tc ad f' (nChg s z p v) ∧ ∀ q, 88 ≤ q → f' q = f q)) := by
  obtain ⟨h0, ⟨h1, h2, h3, h4⟩, hHis, hSlo, h40, hWds, hPr, hHd⟩ := id hX
  obtain ⟨⟨⟨a1, a2⟩, ⟨a3, a4⟩, ⟨a5, a6⟩, a7, a8, a9, a10⟩, o2, o3, o4, o5, o6⟩ := id ho
  refine stI (cc := cX3_change) (maxL := 6) (lv := [(0, .ref (ad (0))), (1, .int (iI (z))), (2, .int (iI (p))), (3, .int (iI (v)))]) (by decide) rfl (Nat.le_of_ble_eq_true rfl) rfl (fun X C hret => ?_)
  have m0 : Cond.fieldLink RX3 10 "WordSamples" "now" "LWordSamples$State;" ∈ wsX3_change := by decide +kernel
  have m1 : ∀ w ∈ wsX30, w ∈ wsX3_change := by decide +kernel
  have m2 : Cond.fieldLink RX3 92 "WordSamples$State" "signs" "[I" ∈ wsX3_change := by decide +kernel
  have m3 : ∀ w ∈ wsX10, w ∈ wsX3_change := by decide +kernel
  refine r_aload_n C dX3_change_0 rfl rfl ?_
  refine r_iload_n C dX3_change_1 rfl rfl ?_
  refine r_iload_n C dX3_change_2 rfl rfl ?_
  refine r_callV (As := [.int (iI (z)), .int (iI (p))]) (rest := []) (na := 2) C (c_X3_noPlace G tc l ad N _ s hX ho hN z p hz hp) gX3_change_X3_noPlace rfl rfl rfl (by decide +kernel) ⟨Nat.le_of_ble_eq_true rfl, Nat.le_of_ble_eq_true rfl⟩ (by omega) h0 (show vwCl[3]? = some (RX3, TX3, 11) from rfl) rfl rfl (Nat.le_of_ble_eq_true rfl) dX3_change_3 ⟨Nat.le_of_ble_eq_true rfl, Nat.le_of_ble_eq_true rfl⟩ (aft_I (fun f1 hF2 => ?_))
  rw [hF2]
  refine r_if_eq (tgt := 11) C ⟨by omega, by omega⟩ dX3_change_6 (by decide) (fun b3 => ?_) (fun b3 => ?_)
  · have q9 := a9 z.toNat (by omega)
    refine r_iload_n C dX3_change_11 rfl rfl ?_
    refine r_if_lt (tgt := 21) C ⟨by omega, by omega⟩ dX3_change_12 (by decide) (fun b4 => ?_) (fun b4 => ?_)
    · refine r_bipush C ((-2)) (by decide) dX3_change_21 ?_
      exact hret f ((-2)) _ _ dX3_change_23 (by unfold aChg; rw [if_pos (by omega), if_neg (by omega)]) (⟨by unfold nChg; rw [if_neg (by omega)]; exact hX, fun _ _ => rfl⟩)
    · refine r_iload_n C dX3_change_15 rfl rfl ?_
      refine r_bipush C ((26 : Nat) : Int) (by decide) dX3_change_16 ?_
      refine r_icmp_le (tgt := 24) C ⟨by omega, by omega⟩ ⟨by omega, by omega⟩ dX3_change_18 (by decide) (fun b5 => ?_) (fun b5 => ?_)
      · refine r_aload_n C dX3_change_24 rfl rfl ?_
        refine r_callV (As := []) (rest := []) (na := 0) C (c_X3_beginChange G tc l ad N _ s hX ho hN) gX3_change_X3_beginChange rfl rfl rfl (by decide +kernel) ⟨Nat.le_of_ble_eq_true rfl, Nat.le_of_ble_eq_true rfl⟩ (by omega) h0 (show vwCl[3]? = some (RX3, TX3, 11) from rfl) rfl rfl (Nat.le_of_ble_eq_true rfl) dX3_change_25 ⟨Nat.le_of_ble_eq_true rfl, Nat.le_of_ble_eq_true rfl⟩ (aft_V (fun f6 hF7 => ?_))
        obtain ⟨hJ, hoB⟩ := hF7
        obtain ⟨j0, ⟨j1, j2, j3, j4⟩, jH, jS, j40, jW, jP, jD⟩ := id hJ
        refine r_iload_n C dX3_change_28 rfl rfl ?_
        refine r_bipush C ((64 : Nat) : Int) (by decide) dX3_change_29 ?_
        refine r_imul C ((z) * ((64 : Nat) : Int)) rfl dX3_change_31 ?_
        refine r_iload_n C dX3_change_32 rfl rfl ?_
        refine r_iadd C (((z) * ((64 : Nat) : Int)) + (p)) rfl dX3_change_33 ?_
        refine r_istore (lv' := [(0, .ref (ad (0))), (1, .int (iI (z))), (2, .int (iI (p))), (3, .int (iI (v))), (4, .int (iI (((z) * ((64 : Nat) : Int)) + (p))))]) C dX3_change_34 (by decide) rfl ?_
        refine r_aload_n C dX3_change_36 rfl rfl ?_
        refine r_get (v := .ref (ad (1))) C (by omega) j0 (show vwCl[3]? = some (RX3, TX3, 11) from rfl) m1 0 (by decide) m0 rfl rfl dX3_change_37 ?_
        refine r_get (v := .ref (ad (4))) C (by omega) j1 (show vwCl[1]? = some (RX1, TX1, 4) from rfl) m3 2 (by decide) m2 rfl rfl dX3_change_40 ?_
        refine r_iload C dX3_change_43 rfl ?_
        refine r_iald (x := (iI (((cur s).2.2.1 (z.toNat * 64 + p.toNat) : Nat) : Int))) C (by omega) j4 (z.toNat * 64 + p.toNat) (by omega) (by omega) (Nat.le_of_ble_eq_true rfl) (rfl) dX3_change_45 ?_
        refine r_istore (lv' := [(0, .ref (ad (0))), (1, .int (iI (z))), (2, .int (iI (p))), (3, .int (iI (v))), (4, .int (iI (((z) * ((64 : Nat) : Int)) + (p)))), (5, .int (iI (((cur s).2.2.1 (z.toNat * 64 + p.toNat) : Nat) : Int)))]) C dX3_change_46 (by decide) rfl ?_
        refine r_aload_n C dX3_change_48 rfl rfl ?_
        refine r_get (v := .ref (ad (1))) C (by omega) j0 (show vwCl[3]? = some (RX3, TX3, 11) from rfl) m1 0 (by decide) m0 rfl rfl dX3_change_49 ?_
        refine r_get (v := .ref (ad (4))) C (by omega) j1 (show vwCl[1]? = some (RX1, TX1, 4) from rfl) m3 2 (by decide) m2 rfl rfl dX3_change_52 ?_
        refine r_iload C dX3_change_55 rfl ?_
        refine r_iload_n C dX3_change_57 rfl rfl ?_
        refine r_iast C (by omega) j4 (z.toNat * 64 + p.toNat) (by omega) (by omega) (Nat.le_of_ble_eq_true rfl) dX3_change_58 (fun f8 hs9 ho10 => ?_)
        have c11 : f8 (4) = eI tc 640 (fun j => iI (((upN (cur s).2.2.1 (z.toNat * 64 + p.toNat) v.toNat) j : Nat) : Int)) := hs9.trans (congrArg (fun g => eI tc 640 g) (updNz _ _ (by omega)))
        refine r_iload C dX3_change_59 rfl ?_
        have c12 : f8 (0) = eO 3 [.ref (ad (1)), .ref (ad (5)), .int (iI ((kpush (kno s) : Nat) : Int)), .ref (ad (30)), .ref (ad (39)), .ref (ad (40)), .int (iI ((pln s : Nat) : Int)), .ref (ad (41)), .ref (ad (82)), .ref (ad (83)), .ref (ad (87))] := (ho10 _ (by omega)).trans j0
        have c13 : f8 (1) = eO 1 [.ref (ad (2)), .ref (ad (3)), .ref (ad (4)), .int (iI (((cur s).2.2.2 : Nat) : Int))] := (ho10 _ (by omega)).trans j1
        have c14 : f8 (2) = eI tc 4 (fun j => iI (((cur s).1 j : Nat) : Int)) := (ho10 _ (by omega)).trans j2
        have c15 : f8 (3) = eI tc 10 (fun j => iI (((cur s).2.1 j : Nat) : Int)) := (ho10 _ (by omega)).trans j3
        exact hret f8 (((cur s).2.2.1 (z.toNat * 64 + p.toNat) : Nat) : Int) _ _ dX3_change_61 (by unfold aChg; rw [if_pos (by omega), if_pos (by omega)]) (⟨by unfold nChg; rw [if_pos (by omega)]; exact J_set (s := knowS s) hJ ⟨c13, c14, c15, c11⟩ c12 (fun q g1 g2 => (ho10 _ (by omega))), fun q hq => ((ho10 _ (by omega))).trans (hoB _ (by omega))⟩)
      · refine r_bipush C ((-2)) (by decide) dX3_change_21 ?_
        exact hret f ((-2)) _ _ dX3_change_23 (by unfold aChg; rw [if_pos (by omega), if_neg (by omega)]) (⟨by unfold nChg; rw [if_neg (by omega)]; exact hX, fun _ _ => rfl⟩)
  · refine r_iconst C ((-1)) (by decide) dX3_change_9 ?_
    exact hret f ((-1)) _ _ dX3_change_10 (by unfold aChg; rw [if_neg (by omega)]) (⟨by unfold nChg; rw [if_neg (by omega)]; exact hX, fun _ _ => rfl⟩)
set_option maxHeartbeats 4000000 in
set_option maxRecDepth 100000 in
/-- sign -/
theorem c_X3_sign (G : va_G) (tc : Nat → ClassId) (l : Launch) (ad : Nat → Nat) (N : Nat) (f : Nat → va_E) (s : SG) (hX : XI tc ad f s) (ho : okS s) (hN : 98 ≤ N) (z p : Int) (hz : inR z) (hp : inR p)   : Ct G tc l yX3_sign wsX3_sign { frames := 2, cells := 0, slots := 0, locals := 43 } 0 0 [.ref (ad (0)), .int (iI (z)), .int (iI (p))] ad N f (poI ad N (aSgn s z p) (fun f' => f' = f)) := by
  obtain ⟨h0, ⟨h1, h2, h3, h4⟩, hHis, hSlo, h40, hWds, hPr, hHd⟩ := id hX
  obtain ⟨⟨⟨a1, a2⟩, ⟨a3, a4⟩, ⟨a5, a6⟩, a7, a8, a9, a10⟩, o2, o3, o4, o5, o6⟩ := id ho
  refine stI (cc := cX3_sign) (maxL := 3) (lv := [(0, .ref (ad (0))), (1, .int (iI (z))), (2, .int (iI (p)))]) (by decide) rfl (Nat.le_of_ble_eq_true rfl) rfl (fun X C hret => ?_)
  have m0 : Cond.fieldLink RX3 10 "WordSamples" "now" "LWordSamples$State;" ∈ wsX3_sign := by decide +kernel
  have m1 : ∀ w ∈ wsX30, w ∈ wsX3_sign := by decide +kernel
  have m2 : Cond.fieldLink RX3 92 "WordSamples$State" "signs" "[I" ∈ wsX3_sign := by decide +kernel
  have m3 : ∀ w ∈ wsX10, w ∈ wsX3_sign := by decide +kernel
  refine r_aload_n C dX3_sign_0 rfl rfl ?_
  refine r_iload_n C dX3_sign_1 rfl rfl ?_
  refine r_iload_n C dX3_sign_2 rfl rfl ?_
  refine r_callV (As := [.int (iI (z)), .int (iI (p))]) (rest := []) (na := 2) C (c_X3_noPlace G tc l ad N _ s hX ho hN z p hz hp) gX3_sign_X3_noPlace rfl rfl rfl (by decide +kernel) ⟨Nat.le_of_ble_eq_true rfl, Nat.le_of_ble_eq_true rfl⟩ (by omega) h0 (show vwCl[3]? = some (RX3, TX3, 11) from rfl) rfl rfl (Nat.le_of_ble_eq_true rfl) dX3_sign_3 ⟨Nat.le_of_ble_eq_true rfl, Nat.le_of_ble_eq_true rfl⟩ (aft_I (fun f1 hF2 => ?_))
  rw [hF2]
  refine r_if_eq (tgt := 13) C ⟨by omega, by omega⟩ dX3_sign_6 (by decide) (fun b3 => ?_) (fun b3 => ?_)
  · have q9 := a9 z.toNat (by omega)
    refine r_aload_n C dX3_sign_13 rfl rfl ?_
    refine r_get (v := .ref (ad (1))) C (by omega) h0 (show vwCl[3]? = some (RX3, TX3, 11) from rfl) m1 0 (by decide) m0 rfl rfl dX3_sign_14 ?_
    refine r_get (v := .ref (ad (4))) C (by omega) h1 (show vwCl[1]? = some (RX1, TX1, 4) from rfl) m3 2 (by decide) m2 rfl rfl dX3_sign_17 ?_
    refine r_iload_n C dX3_sign_20 rfl rfl ?_
    refine r_bipush C ((64 : Nat) : Int) (by decide) dX3_sign_21 ?_
    refine r_imul C ((z) * ((64 : Nat) : Int)) rfl dX3_sign_23 ?_
    refine r_iload_n C dX3_sign_24 rfl rfl ?_
    refine r_iadd C (((z) * ((64 : Nat) : Int)) + (p)) rfl dX3_sign_25 ?_
    refine r_iald (x := (iI (((cur s).2.2.1 (z.toNat * 64 + p.toNat) : Nat) : Int))) C (by omega) h4 (z.toNat * 64 + p.toNat) (by omega) (by omega) (Nat.le_of_ble_eq_true rfl) (rfl) dX3_sign_26 ?_
    exact hret f (((cur s).2.2.1 (z.toNat * 64 + p.toNat) : Nat) : Int) _ _ dX3_sign_27 (by unfold aSgn; rw [if_pos (by omega)]) rfl
  · refine r_iconst C ((-1)) (by decide) dX3_sign_9 ?_
    refine r_goto (tgt := 27) C dX3_sign_10 (by decide) ?_
    exact hret f ((-1)) _ _ dX3_sign_27 (by unfold aSgn; rw [if_neg (by omega)]) rfl
set_option maxHeartbeats 4000000 in
set_option maxRecDepth 100000 in
/-- remove -/
theorem c_X3_remove (G : va_G) (tc : Nat → ClassId) (l : Launch) (ad : Nat → Nat) (N : Nat) (f : Nat → va_E) (s : SG) (hX : XI tc ad f s) (ho : okS s) (hN : 98 ≤ N) (z : Int) (hz : inR z)   : Ct G tc l yX3_remove wsX3_remove { frames := 3, cells := 0, slots := 0, locals := 61 } 0 0 [.ref (ad (0)), .int (iI (z))] ad N f (poI ad N (aRem s z) (fun f' => XI tc ad f' (nRem s z) ∧ ∀ q, 88 ≤ q → f' q = f q)) := by
  obtain ⟨h0, ⟨h1, h2, h3, h4⟩, hHis, hSlo, h40, hWds, hPr, hHd⟩ := id hX
  obtain ⟨⟨⟨a1, a2⟩, ⟨a3, a4⟩, ⟨a5, a6⟩, a7, a8, a9, a10⟩, o2, o3, o4, o5, o6⟩ := id ho
  refine stI (cc := cX3_remove) (maxL := 3) (lv := [(0, .ref (ad (0))), (1, .int (iI (z)))]) (by decide) rfl (Nat.le_of_ble_eq_true rfl) rfl (fun X C hret => ?_)
  have m0 : Cond.fieldLink RX3 10 "WordSamples" "now" "LWordSamples$State;" ∈ wsX3_remove := by decide +kernel
  have m1 : ∀ w ∈ wsX30, w ∈ wsX3_remove := by decide +kernel
  have m2 : Cond.fieldLink RX3 74 "WordSamples$State" "rows" "I" ∈ wsX3_remove := by decide +kernel
  have m3 : ∀ w ∈ wsX10, w ∈ wsX3_remove := by decide +kernel
  have m4 : Cond.fieldLink RX3 77 "WordSamples$State" "lengths" "[I" ∈ wsX3_remove := by decide +kernel
  have m5 : Cond.methodLink RX3 95 arraycopyName ∈ wsX3_remove := by decide +kernel
  have m6 : Cond.native arraycopyName ∈ wsX3_remove := by decide +kernel
  have m7 : Cond.static arraycopyName ∈ wsX3_remove := by decide +kernel
  have m8 : Cond.initialized "java/lang/System" ∈ wsX3_remove := by decide +kernel
  have m9 : Cond.fieldLink RX3 92 "WordSamples$State" "signs" "[I" ∈ wsX3_remove := by decide +kernel
  refine r_aload_n C dX3_remove_0 rfl rfl ?_
  refine r_iload_n C dX3_remove_1 rfl rfl ?_
  refine r_callV (As := [.int (iI (z))]) (rest := []) (na := 1) C (c_X3_noRow G tc l ad N _ s hX ho hN z hz) gX3_remove_X3_noRow rfl rfl rfl (by decide +kernel) ⟨Nat.le_of_ble_eq_true rfl, Nat.le_of_ble_eq_true rfl⟩ (by omega) h0 (show vwCl[3]? = some (RX3, TX3, 11) from rfl) rfl rfl (Nat.le_of_ble_eq_true rfl) dX3_remove_2 ⟨Nat.le_of_ble_eq_true rfl, Nat.le_of_ble_eq_true rfl⟩ (aft_I (fun f1 hF2 => ?_))
  rw [hF2]
  refine r_if_eq (tgt := 10) C ⟨by omega, by omega⟩ dX3_remove_5 (by decide) (fun b3 => ?_) (fun b3 => ?_)
  · refine r_aload_n C dX3_remove_10 rfl rfl ?_
    refine r_callV (As := []) (rest := []) (na := 0) C (c_X3_beginChange G tc l ad N _ s hX ho hN) gX3_remove_X3_beginChange rfl rfl rfl (by decide +kernel) ⟨Nat.le_of_ble_eq_true rfl, Nat.le_of_ble_eq_true rfl⟩ (by omega) h0 (show vwCl[3]? = some (RX3, TX3, 11) from rfl) rfl rfl (Nat.le_of_ble_eq_true rfl) dX3_remove_11 ⟨Nat.le_of_ble_eq_true rfl, Nat.le_of_ble_eq_true rfl⟩ (aft_V (fun f4 hF5 => ?_))
    obtain ⟨hJ, hoB⟩ := hF5
    obtain ⟨j0, ⟨j1, j2, j3, j4⟩, jH, jS, j40, jW, jP, jD⟩ := id hJ
    refine r_aload_n C dX3_remove_14 rfl rfl ?_
    refine r_get (v := .ref (ad (1))) C (by omega) j0 (show vwCl[3]? = some (RX3, TX3, 11) from rfl) m1 0 (by decide) m0 rfl rfl dX3_remove_15 ?_
    refine r_get (v := .int (iI (((cur s).2.2.2 : Nat) : Int))) C (by omega) j1 (show vwCl[1]? = some (RX1, TX1, 4) from rfl) m3 3 (by decide) m2 rfl rfl dX3_remove_18 ?_
    refine r_iconst C ((1 : Nat) : Int) (by decide) dX3_remove_21 ?_
    refine r_isub C (((cur s).2.2.2 - 1 : Nat) : Int) (by omega) dX3_remove_22 ?_
    refine r_iload_n C dX3_remove_23 rfl rfl ?_
    rw [show (.int (iI (z)) : Value) = .int (iI ((z.toNat : Nat) : Int)) from by rw [Int.toNat_of_nonneg (by omega)]]
    refine r_isub C (((cur s).2.2.2 - 1 - z.toNat : Nat) : Int) (by omega) dX3_remove_24 ?_
    refine r_istore_n (lv' := [(0, .ref (ad (0))), (1, .int (iI ((z.toNat : Nat) : Int))), (2, .int (iI (((cur s).2.2.2 - 1 - z.toNat : Nat) : Int)))]) C dX3_remove_25 rfl (by decide) rfl ?_
    refine r_aload_n C dX3_remove_26 rfl rfl ?_
    refine r_get (v := .ref (ad (1))) C (by omega) j0 (show vwCl[3]? = some (RX3, TX3, 11) from rfl) m1 0 (by decide) m0 rfl rfl dX3_remove_27 ?_
    refine r_get (v := .ref (ad (3))) C (by omega) j1 (show vwCl[1]? = some (RX1, TX1, 4) from rfl) m3 1 (by decide) m4 rfl rfl dX3_remove_30 ?_
    refine r_iload_n C dX3_remove_33 rfl rfl ?_
    rw [show (.int (iI ((z.toNat : Nat) : Int)) : Value) = .int (iI ((z.toNat : Nat) : Int)) from by rw [Int.toNat_of_nonneg (by omega)]]
    refine r_iconst C ((1 : Nat) : Int) (by decide) dX3_remove_34 ?_
    refine r_iadd C ((z.toNat + 1 : Nat) : Int) (by omega) dX3_remove_35 ?_
    refine r_aload_n C dX3_remove_36 rfl rfl ?_
    refine r_get (v := .ref (ad (1))) C (by omega) j0 (show vwCl[3]? = some (RX3, TX3, 11) from rfl) m1 0 (by decide) m0 rfl rfl dX3_remove_37 ?_
    refine r_get (v := .ref (ad (3))) C (by omega) j1 (show vwCl[1]? = some (RX1, TX1, 4) from rfl) m3 1 (by decide) m4 rfl rfl dX3_remove_40 ?_
    refine r_iload_n C dX3_remove_43 rfl rfl ?_
    rw [show (.int (iI ((z.toNat : Nat) : Int)) : Value) = .int (iI ((z.toNat : Nat) : Int)) from by rw [Int.toNat_of_nonneg (by omega)]]
    refine r_iload_n C dX3_remove_44 rfl rfl ?_
    refine r_acp C ⟨m5, m6, m7, m8⟩ (Nat.le_of_ble_eq_true rfl) (by decide) (by omega) j3 (by omega) j3 (z.toNat + 1) (z.toNat) ((cur s).2.2.2 - 1 - z.toNat) rfl rfl rfl (by omega) (by omega) (Nat.le_of_ble_eq_true rfl) (Nat.le_of_ble_eq_true rfl) dX3_remove_45 (fun f6 hs7 ho8 => ?_)
    have c9 : f6 (3) = eI tc 10 (fun j => iI (((outL (cur s).2.1 z.toNat (cur s).2.2.2) j : Nat) : Int)) := hs7.trans (congrArg (fun g => eI tc 10 g) (cpyL _ (by omega)))
    refine r_aload_n C dX3_remove_48 rfl rfl ?_
    have c10 : f6 (0) = eO 3 [.ref (ad (1)), .ref (ad (5)), .int (iI ((kpush (kno s) : Nat) : Int)), .ref (ad (30)), .ref (ad (39)), .ref (ad (40)), .int (iI ((pln s : Nat) : Int)), .ref (ad (41)), .ref (ad (82)), .ref (ad (83)), .ref (ad (87))] := (ho8 _ (by omega)).trans j0
    refine r_get (v := .ref (ad (1))) C (by omega) c10 (show vwCl[3]? = some (RX3, TX3, 11) from rfl) m1 0 (by decide) m0 rfl rfl dX3_remove_49 ?_
    have c11 : f6 (1) = eO 1 [.ref (ad (2)), .ref (ad (3)), .ref (ad (4)), .int (iI (((cur s).2.2.2 : Nat) : Int))] := (ho8 _ (by omega)).trans j1
    refine r_get (v := .ref (ad (4))) C (by omega) c11 (show vwCl[1]? = some (RX1, TX1, 4) from rfl) m3 2 (by decide) m9 rfl rfl dX3_remove_52 ?_
    refine r_iload_n C dX3_remove_55 rfl rfl ?_
    rw [show (.int (iI ((z.toNat : Nat) : Int)) : Value) = .int (iI ((z.toNat : Nat) : Int)) from by rw [Int.toNat_of_nonneg (by omega)]]
    refine r_iconst C ((1 : Nat) : Int) (by decide) dX3_remove_56 ?_
    refine r_iadd C ((z.toNat + 1 : Nat) : Int) (by omega) dX3_remove_57 ?_
    refine r_bipush C ((64 : Nat) : Int) (by decide) dX3_remove_58 ?_
    refine r_imul C (((z.toNat + 1) * 64 : Nat) : Int) (by omega) dX3_remove_60 ?_
    refine r_aload_n C dX3_remove_61 rfl rfl ?_
    refine r_get (v := .ref (ad (1))) C (by omega) c10 (show vwCl[3]? = some (RX3, TX3, 11) from rfl) m1 0 (by decide) m0 rfl rfl dX3_remove_62 ?_
    refine r_get (v := .ref (ad (4))) C (by omega) c11 (show vwCl[1]? = some (RX1, TX1, 4) from rfl) m3 2 (by decide) m9 rfl rfl dX3_remove_65 ?_
    refine r_iload_n C dX3_remove_68 rfl rfl ?_
    rw [show (.int (iI ((z.toNat : Nat) : Int)) : Value) = .int (iI ((z.toNat : Nat) : Int)) from by rw [Int.toNat_of_nonneg (by omega)]]
    refine r_bipush C ((64 : Nat) : Int) (by decide) dX3_remove_69 ?_
    refine r_imul C ((z.toNat * 64 : Nat) : Int) (by omega) dX3_remove_71 ?_
    refine r_iload_n C dX3_remove_72 rfl rfl ?_
    refine r_bipush C ((64 : Nat) : Int) (by decide) dX3_remove_73 ?_
    refine r_imul C ((((cur s).2.2.2 - 1 - z.toNat) * 64 : Nat) : Int) (by omega) dX3_remove_75 ?_
    have c12 : f6 (4) = eI tc 640 (fun j => iI (((cur s).2.2.1 j : Nat) : Int)) := (ho8 _ (by omega)).trans j4
    refine r_acp C ⟨m5, m6, m7, m8⟩ (Nat.le_of_ble_eq_true rfl) (by decide) (by omega) c12 (by omega) c12 ((z.toNat + 1) * 64) (z.toNat * 64) (((cur s).2.2.2 - 1 - z.toNat) * 64) rfl rfl rfl (by omega) (by omega) (Nat.le_of_ble_eq_true rfl) (Nat.le_of_ble_eq_true rfl) dX3_remove_76 (fun f13 hs14 ho15 => ?_)
    have c16 : f13 (4) = eI tc 640 (fun j => iI (((outG (cur s).2.2.1 z.toNat (cur s).2.2.2) j : Nat) : Int)) := hs14.trans (congrArg (fun g => eI tc 640 g) (cpyG _ (by omega)))
    refine r_aload_n C dX3_remove_79 rfl rfl ?_
    have c17 : f13 (0) = eO 3 [.ref (ad (1)), .ref (ad (5)), .int (iI ((kpush (kno s) : Nat) : Int)), .ref (ad (30)), .ref (ad (39)), .ref (ad (40)), .int (iI ((pln s : Nat) : Int)), .ref (ad (41)), .ref (ad (82)), .ref (ad (83)), .ref (ad (87))] := (ho15 _ (by omega)).trans c10
    refine r_get (v := .ref (ad (1))) C (by omega) c17 (show vwCl[3]? = some (RX3, TX3, 11) from rfl) m1 0 (by decide) m0 rfl rfl dX3_remove_80 ?_
    refine r_dup C dX3_remove_83 rfl ?_
    have c18 : f13 (1) = eO 1 [.ref (ad (2)), .ref (ad (3)), .ref (ad (4)), .int (iI (((cur s).2.2.2 : Nat) : Int))] := (ho15 _ (by omega)).trans c11
    refine r_get (v := .int (iI (((cur s).2.2.2 : Nat) : Int))) C (by omega) c18 (show vwCl[1]? = some (RX1, TX1, 4) from rfl) m3 3 (by decide) m2 rfl rfl dX3_remove_84 ?_
    refine r_iconst C ((1 : Nat) : Int) (by decide) dX3_remove_87 ?_
    refine r_isub C (((cur s).2.2.2 - 1 : Nat) : Int) (by omega) dX3_remove_88 ?_
    refine r_put (ty := .int) C (by omega) c18 (show vwCl[1]? = some (RX1, TX1, 4) from rfl) m3 tyX1_ok nmX1 3 (by decide) m2 rfl rfl (by decide +kernel) rfl rfl (Nat.le_of_ble_eq_true rfl) dX3_remove_89 (fun f19 hs20 ho21 => ?_)
    have c22 : f19 (1) = eO 1 [.ref (ad (2)), .ref (ad (3)), .ref (ad (4)), .int (iI (((cur s).2.2.2 - 1 : Nat) : Int))] := hs20
    refine r_aload_n C dX3_remove_92 rfl rfl ?_
    have c23 : f19 (0) = eO 3 [.ref (ad (1)), .ref (ad (5)), .int (iI ((kpush (kno s) : Nat) : Int)), .ref (ad (30)), .ref (ad (39)), .ref (ad (40)), .int (iI ((pln s : Nat) : Int)), .ref (ad (41)), .ref (ad (82)), .ref (ad (83)), .ref (ad (87))] := (ho21 _ (by omega)).trans c17
    refine r_get (v := .ref (ad (1))) C (by omega) c23 (show vwCl[3]? = some (RX3, TX3, 11) from rfl) m1 0 (by decide) m0 rfl rfl dX3_remove_93 ?_
    refine r_get (v := .int (iI (((cur s).2.2.2 - 1 : Nat) : Int))) C (by omega) c22 (show vwCl[1]? = some (RX1, TX1, 4) from rfl) m3 3 (by decide) m2 rfl rfl dX3_remove_96 ?_
    have c24 : f6 (2) = eI tc 4 (fun j => iI (((cur s).1 j : Nat) : Int)) := (ho8 _ (by omega)).trans j2
    have c25 : f13 (2) = eI tc 4 (fun j => iI (((cur s).1 j : Nat) : Int)) := (ho15 _ (by omega)).trans c24
    have c26 : f19 (2) = eI tc 4 (fun j => iI (((cur s).1 j : Nat) : Int)) := (ho21 _ (by omega)).trans c25
    have c27 : f13 (3) = eI tc 10 (fun j => iI (((outL (cur s).2.1 z.toNat (cur s).2.2.2) j : Nat) : Int)) := (ho15 _ (by omega)).trans c9
    have c28 : f19 (3) = eI tc 10 (fun j => iI (((outL (cur s).2.1 z.toNat (cur s).2.2.2) j : Nat) : Int)) := (ho21 _ (by omega)).trans c27
    have c29 : f19 (4) = eI tc 640 (fun j => iI (((outG (cur s).2.2.1 z.toNat (cur s).2.2.2) j : Nat) : Int)) := (ho21 _ (by omega)).trans c16
    exact hret f19 (((cur s).2.2.2 - 1 : Nat) : Int) _ _ dX3_remove_99 (by unfold aRem; rw [if_pos (by omega)]) (⟨by unfold nRem; rw [if_pos (by omega)]; exact J_set (s := knowS s) hJ ⟨c22, c26, c28, c29⟩ c23 (fun q g1 g2 => (((ho21 _ (by omega))).trans (ho15 _ (by omega))).trans (ho8 _ (by omega))), fun q hq => ((((ho21 _ (by omega))).trans (ho15 _ (by omega))).trans (ho8 _ (by omega))).trans (hoB _ (by omega))⟩)
  · refine r_iconst C ((-1)) (by decide) dX3_remove_8 ?_
    exact hret f ((-1)) _ _ dX3_remove_9 (by unfold aRem; rw [if_neg (by omega)]) (⟨by unfold nRem; rw [if_neg (by omega)]; exact hX, fun _ _ => rfl⟩)
end XO1
end
section
section XP1
theorem if_le1 (b : Bool) : (if b = true then 1 else 0 : Nat) ≤ 1 := by
  split <;> omega
theorem if_1 {b : Bool} (h : ¬ (((if b = true then 1 else 0 : Nat) : Nat) : Int) = 0) : b = true := by
  cases b
  · exact absurd rfl h
  · rfl
theorem if_0 {b : Bool} (h : (((if b = true then 1 else 0 : Nat) : Nat) : Int) = 0) : b = false := by
  cases b
  · rfl
  · exact absurd h (by decide)
theorem XI_pad {tc : Nat → ClassId} {ad : Nat → Nat} {s : SG} {f f' : Nat → va_E} {p : Nat → Nat} {pl : Nat} (hX : XI tc ad f s) (h0 : f' 0 = oX ad (kno s) pl) (h40 : f' 40 = eI tc 64 (fun j => iI ((p j : Nat) : Int))) (hfr : ∀ q, q ≠ 0 → q ≠ 40 → q < 88 → f' q = f q) : XI tc ad f' (setP s p pl) := by
  obtain ⟨-, hs, jH, jS, j40, jW, jP, jD⟩ := hX
  exact ⟨h0, hs.fr (fun q _ _ => hfr q (by omega) (by omega) (by omega)), jH.fr (fun q _ _ => hfr q (by omega) (by omega) (by omega)), jS.fr (fun q _ _ => hfr q (by omega) (by omega) (by omega)), h40, jW.fr (fun q _ _ => hfr q (by omega) (by omega) (by omega)), jP.fr (fun q _ _ => hfr q (by omega) (by omega) (by omega)), jD.fr (hfr _ (by omega) (by omega) (by omega))⟩
theorem undo_XI {tc : Nat → ClassId} {ad : Nat → Nat} {s : SG} {f f' : Nat → va_E} {n : NS} {kn : Nat} (hX : XI tc ad f s) (hk : kn ≤ kno s) (h0 : f' 0 = oX ad kn (pln s)) (h1 : isSt tc ad f' 1 n) (h82 : ∃ g : Nat → Int32, f' 82 = eB tc 10 g ∧ ∀ j, j < 10 → g j = iI ((0 : Nat) : Int)) (hfr : ∀ q, 5 ≤ q → q ≠ 82 → f' q = f q) : XI tc ad f' (n, hst s, kn, slo s, sav s, pad s, pln s) := by
  obtain ⟨-, hs, jH, jS, j40, ⟨gt, wd, w1, w2, w3, w4⟩, jP, jD⟩ := hX
  obtain ⟨g, g1, g2⟩ := h82
  have jH' := jH.fr (f' := f') (fun q _ _ => hfr q (by omega) (by omega))
  obtain ⟨pi, hs', a1, a2, a3, a4, a5⟩ := jH'
  exact ⟨h0, h1, ⟨pi, hs', a1, a2, a3, a4, fun k hk' => a5 k (by show k < kno s; have h : k < kn := hk'; omega)⟩, jS.fr (fun q _ _ => hfr q (by omega) (by omega)), j40.fr (hfr _ (by omega) (by omega)),
    ⟨g, wd, (hfr _ (by omega) (by omega)).trans w1, g1, fun k hk => (w3 k hk).fr (fun q _ _ => hfr q (by omega) (by omega)), fun k hk => Or.inl (g2 k hk)⟩, jP.fr (fun q _ _ => hfr q (by omega) (by omega)), jD.fr (hfr _ (by omega) (by omega))⟩
theorem save_XI {tc : Nat → ClassId} {ad : Nat → Nat} {s : SG} {f f' : Nat → va_E} {r : Nat} {sg : Nat → Int32} (hX : XI tc ad f s) (hr : r < 2) (hc : isSt tc ad f' (31 + 4 * r) (cur s)) (h39 : f' 39 = eB tc 2 (upd sg r (iI ((1 : Nat) : Int)))) (hfr : ∀ q, (q < 31 + 4 * r ∨ 31 + 4 * r + 4 ≤ q) → q ≠ 39 → q < 88 → f' q = f q) (hsg : f 39 = eB tc 2 sg) : XI tc ad f' (cur s, hst s, kno s, (fun k => if k = r then cur s else slo s k), (fun k => if k = r then true else sav s k), pad s, pln s) := by
  obtain ⟨h0, hs, jH, ⟨ss, s30, sst, ⟨sg2, s39, hsg2⟩, hsv⟩, j40, jW, jP, jD⟩ := hX
  have e : sg2 = sg := by
    have h := s39.symm.trans hsg
    injection h with h
    injection h with _ h
    injection h with _ h
    injection h with h
  subst e
  refine ⟨(hfr _ (by omega) (by omega) (by omega)).trans h0, hs.fr (fun q _ _ => hfr q (by omega) (by omega) (by omega)), jH.fr (fun q _ _ => hfr q (by omega) (by omega) (by omega)), ?_, j40.fr (hfr _ (by omega) (by omega) (by omega)), jW.fr (fun q _ _ => hfr q (by omega) (by omega) (by omega)), jP.fr (fun q _ _ => hfr q (by omega) (by omega) (by omega)), jD.fr (hfr _ (by omega) (by omega) (by omega))⟩
  refine ⟨fun k => if k = r then cur s else ss k, (hfr _ (by omega) (by omega) (by omega)).trans s30, fun k hk => ?_, ⟨_, h39, fun k hk => ?_⟩, fun k hk h => ?_⟩
  · dsimp only
    by_cases h : k = r
    · rw [if_pos h, h]
      exact hc
    · rw [if_neg h]
      exact (sst k hk).fr (fun q g1 g2 => hfr q (by omega) (by omega) (by omega))
  · unfold upd
    dsimp only [sav]
    by_cases h : k = r
    · simp [h]
    · simp [h]
      have := hsg2 k hk
      simpa using this
  · dsimp only [sav, slo] at h ⊢
    by_cases h2 : k = r
    · rw [if_pos h2, if_pos h2]
    · rw [if_neg h2, if_neg h2]
      rw [if_neg h2] at h
      exact hsv k hk h
set_option maxHeartbeats 4000000 in
set_option maxRecDepth 100000 in
/-- codeIn(x, p) -/
theorem c_X3_codeIn (G : va_G) (tc : Nat → ClassId) (l : Launch) (ad : Nat → Nat) (N : Nat) (f : Nat → va_E) (x : Int64) (p : Nat) (hp : p < 8)   : Ct G tc l yX3_codeIn wsX3_codeIn { frames := 0, cells := 0, slots := 0, locals := 0 } 0 0 [.long (x), .int (iI ((p : Nat) : Int))] ad N f (poI ad N (((byt x p : Nat) : Int)) (fun f' => f' = f)) := by
  refine stI (cc := cX3_codeIn) (maxL := 3) (lv := [(0, .long (x)), (2, .int (iI ((p : Nat) : Int)))]) (by decide) rfl (Nat.le_of_ble_eq_true rfl) rfl (fun X C hret => ?_)
  have m0 : Cond.constantLong RX3 225 (255) ∈ wsX3_codeIn := by decide +kernel
  refine r_lload_n C dX3_codeIn_0 rfl rfl ?_
  refine r_bipush C ((8 : Nat) : Int) (by decide) dX3_codeIn_1 ?_
  refine r_iload_n C dX3_codeIn_3 rfl rfl ?_
  refine r_imul C ((8 * p : Nat) : Int) (by omega) dX3_codeIn_4 ?_
  refine r_lushr C dX3_codeIn_5 ?_
  refine r_ldc2 C 255 (by decide) m0 dX3_codeIn_6 ?_
  refine r_land C dX3_codeIn_9 ?_
  refine r_l2i C dX3_codeIn_10 ?_
  rw [show (.int ((((((x)).toUInt64 >>> (((iI ((8 * p : Nat) : Int))).toInt64.toUInt64 &&& Int64.toUInt64 63)).toInt64) &&& (jI 255)).toInt32) : Value) = .int (iI ((byt x p : Nat) : Int)) from by rw [byt_u x hp]]
  exact hret f ((byt x p : Nat) : Int) _ _ dX3_codeIn_11 rfl rfl
set_option maxHeartbeats 4000000 in
set_option maxRecDepth 100000 in
/-- charactersIn(x) -/
theorem c_X3_charactersIn (G : va_G) (tc : Nat → ClassId) (l : Launch) (ad : Nat → Nat) (N : Nat) (f : Nat → va_E) (x : Int64)   : Ct G tc l yX3_charactersIn wsX3_charactersIn { frames := 1, cells := 0, slots := 0, locals := 22 } 0 0 [.long (x)] ad N f (poI ad N (((nch x : Nat) : Int)) (fun f' => f' = f)) := by
  refine stI (cc := cX3_charactersIn) (maxL := 5) (lv := [(0, .long (x))]) (by decide) rfl (Nat.le_of_ble_eq_true rfl) rfl (fun X C hret => ?_)
  refine r_iconst C ((0 : Nat) : Int) (by decide) dX3_charactersIn_0 ?_
  refine r_istore_n (lv' := [(0, .long (x)), (2, .int (iI ((0 : Nat) : Int)))]) C dX3_charactersIn_1 rfl (by decide) rfl ?_
  refine r_iconst C ((0 : Nat) : Int) (by decide) dX3_charactersIn_2 ?_
  refine r_istore_n (lv' := [(0, .long (x)), (2, .int (iI ((0 : Nat) : Int))), (3, .int (iI ((0 : Nat) : Int)))]) C dX3_charactersIn_3 rfl (by decide) rfl ?_
  have hL1 : ∀ (m_2 : Nat) (n : Nat) (p : Nat) (hn : n ≤ p) (hp : p ≤ 8) (h1 : ∀ j, j < n → 33 ≤ byt x j ∧ byt x j ≤ 126) (h2 : ∀ j, n ≤ j → j < p → byt x j = 0), 8 - p < m_2 → VV X ad N f 0 0 4 [(0, .long (x)), (2, .int (iI ((n : Nat) : Int))), (3, .int (iI ((p : Nat) : Int)))] [] := by
    intro m_2
    induction m_2 with
    | zero => intros; omega
    | succ m_2 ih3 =>
      intro n p hn hp h1 h2 hm4
      refine r_iload_n C dX3_charactersIn_4 rfl rfl ?_
      refine r_bipush C ((8 : Nat) : Int) (by decide) dX3_charactersIn_5 ?_
      refine r_icmp_ge (tgt := 55) C ⟨by omega, by omega⟩ ⟨by omega, by omega⟩ dX3_charactersIn_7 (by decide) (fun b5 => ?_) (fun b5 => ?_)
      · refine r_iload_n C dX3_charactersIn_55 rfl rfl ?_
        exact hret f ((n : Nat) : Int) _ _ dX3_charactersIn_56 (by rw [nch_good (by omega) h1 (fun j g1 g2 => h2 j g1 (by omega))]) rfl
      · refine r_lload_n C dX3_charactersIn_10 rfl rfl ?_
        refine r_iload_n C dX3_charactersIn_11 rfl rfl ?_
        refine r_callS (As := [.long (x), .int (iI ((p : Nat) : Int))]) (rest := []) (na := 2) C (c_X3_codeIn G tc l ad N _ x (p) (by omega)) gX3_charactersIn_X3_codeIn rfl rfl rfl (by decide +kernel) ⟨Nat.le_of_ble_eq_true rfl, Nat.le_of_ble_eq_true rfl⟩ rfl rfl (Nat.le_of_ble_eq_true rfl) dX3_charactersIn_12 ⟨Nat.le_of_ble_eq_true rfl, Nat.le_of_ble_eq_true rfl⟩ (aft_I (fun f6 hF7 => ?_))
        rw [hF7]
        have q1 := byt_lt x p
        refine r_istore (lv' := [(0, .long (x)), (2, .int (iI ((n : Nat) : Int))), (3, .int (iI ((p : Nat) : Int))), (4, .int (iI ((byt x (p) : Nat) : Int)))]) C dX3_charactersIn_15 (by decide) rfl ?_
        refine r_iload C dX3_charactersIn_17 rfl ?_
        refine r_if_ne (tgt := 25) C ⟨by omega, by omega⟩ dX3_charactersIn_19 (by decide) (fun b8 => ?_) (fun b8 => ?_)
        · refine r_iload_n C dX3_charactersIn_25 rfl rfl ?_
          refine r_iload_n C dX3_charactersIn_26 rfl rfl ?_
          refine r_icmp_lt (tgt := 44) C ⟨by omega, by omega⟩ ⟨by omega, by omega⟩ dX3_charactersIn_27 (by decide) (fun b9 => ?_) (fun b9 => ?_)
          · refine r_iconst C ((0 : Nat) : Int) (by decide) dX3_charactersIn_44 ?_
            exact hret f ((0 : Nat) : Int) _ _ dX3_charactersIn_45 (by have hb : nch x = 0 := (if h : n < p then nch_bad1 (p := p) (by omega) h h1 h2 (by omega) else nch_bad2 (p := p) (by omega) (fun j hj => h1 j (by omega)) (by omega) (by omega)); rw [hb]) rfl
          · refine r_iload C dX3_charactersIn_30 rfl ?_
            refine r_bipush C ((33 : Nat) : Int) (by decide) dX3_charactersIn_32 ?_
            refine r_icmp_lt (tgt := 44) C ⟨by omega, by omega⟩ ⟨by omega, by omega⟩ dX3_charactersIn_34 (by decide) (fun b10 => ?_) (fun b10 => ?_)
            · refine r_iconst C ((0 : Nat) : Int) (by decide) dX3_charactersIn_44 ?_
              exact hret f ((0 : Nat) : Int) _ _ dX3_charactersIn_45 (by have hb : nch x = 0 := (if h : n < p then nch_bad1 (p := p) (by omega) h h1 h2 (by omega) else nch_bad2 (p := p) (by omega) (fun j hj => h1 j (by omega)) (by omega) (by omega)); rw [hb]) rfl
            · refine r_iload C dX3_charactersIn_37 rfl ?_
              refine r_bipush C ((126 : Nat) : Int) (by decide) dX3_charactersIn_39 ?_
              refine r_icmp_le (tgt := 46) C ⟨by omega, by omega⟩ ⟨by omega, by omega⟩ dX3_charactersIn_41 (by decide) (fun b11 => ?_) (fun b11 => ?_)
              · refine r_iinc (lv' := [(0, .long (x)), (2, .int (iI ((n + 1 : Nat) : Int))), (3, .int (iI ((p : Nat) : Int))), (4, .int (iI ((byt x (p) : Nat) : Int)))]) C ((n + 1 : Nat) : Int) (by omega) dX3_charactersIn_46 rfl (by decide) rfl ?_
                refine r_iinc (lv' := [(0, .long (x)), (2, .int (iI ((n + 1 : Nat) : Int))), (3, .int (iI ((p + 1 : Nat) : Int))), (4, .int (iI ((byt x (p) : Nat) : Int)))]) C ((p + 1 : Nat) : Int) (by omega) dX3_charactersIn_49 rfl (by decide) rfl ?_
                refine r_goto (tgt := 4) C dX3_charactersIn_52 (by decide) ?_
                refine r_sub (ks := [0, 1, 2]) (lv' := [(0, .long (x)), (2, .int (iI ((n + 1 : Nat) : Int))), (3, .int (iI ((p + 1 : Nat) : Int)))]) rfl ?_
                exact ih3 (n + 1) (p + 1) (by omega) (by omega) (fun j hj => if h : j < n then h1 j h else (by have e : j = p := (by omega); rw [e]; omega)) (fun j g1 g2 => absurd g2 (by omega)) (by omega)
              · refine r_iconst C ((0 : Nat) : Int) (by decide) dX3_charactersIn_44 ?_
                exact hret f ((0 : Nat) : Int) _ _ dX3_charactersIn_45 (by have hb : nch x = 0 := (if h : n < p then nch_bad1 (p := p) (by omega) h h1 h2 (by omega) else nch_bad2 (p := p) (by omega) (fun j hj => h1 j (by omega)) (by omega) (by omega)); rw [hb]) rfl
        · refine r_goto (tgt := 49) C dX3_charactersIn_22 (by decide) ?_
          refine r_iinc (lv' := [(0, .long (x)), (2, .int (iI ((n : Nat) : Int))), (3, .int (iI ((p + 1 : Nat) : Int))), (4, .int (iI ((byt x (p) : Nat) : Int)))]) C ((p + 1 : Nat) : Int) (by omega) dX3_charactersIn_49 rfl (by decide) rfl ?_
          refine r_goto (tgt := 4) C dX3_charactersIn_52 (by decide) ?_
          refine r_sub (ks := [0, 1, 2]) (lv' := [(0, .long (x)), (2, .int (iI ((n : Nat) : Int))), (3, .int (iI ((p + 1 : Nat) : Int)))]) rfl ?_
          exact ih3 n (p + 1) (by omega) (by omega) h1 (fun j g1 g2 => if h : j < p then h2 j g1 h else (by have e : j = p := (by omega); rw [e]; omega)) (by omega)
  exact hL1 _ 0 0 (by omega) (by omega) (fun j hj => absurd hj (Nat.not_lt_zero _)) (fun j g1 g2 => absurd g2 (Nat.not_lt_zero _)) (Nat.lt_succ_self _)
set_option maxHeartbeats 4000000 in
set_option maxRecDepth 100000 in
/-- put -/
theorem c_X3_put (G : va_G) (tc : Nat → ClassId) (l : Launch) (ad : Nat → Nat) (N : Nat) (f : Nat → va_E) (s : SG) (hX : XI tc ad f s) (ho : okS s) (hN : 98 ≤ N) (x : Int64)   : Ct G tc l yX3_put wsX3_put { frames := 2, cells := 0, slots := 0, locals := 46 } 0 0 [.ref (ad (0)), .long (x)] ad N f (poI ad N (aPut s x) (fun f' => XI tc ad f' (nPut s x) ∧ ∀ q, 88 ≤ q → f' q = f q)) := by
  obtain ⟨h0, ⟨h1, h2, h3, h4⟩, hHis, hSlo, h40, hWds, hPr, hHd⟩ := id hX
  obtain ⟨⟨⟨a1, a2⟩, ⟨a3, a4⟩, ⟨a5, a6⟩, a7, a8, a9, a10⟩, o2, o3, o4, o5, o6⟩ := id ho
  refine stI (cc := cX3_put) (maxL := 5) (lv := [(0, .ref (ad (0))), (1, .long (x))]) (by decide) rfl (Nat.le_of_ble_eq_true rfl) rfl (fun X C hret => ?_)
  have m0 : Cond.fieldLink RX3 35 "WordSamples" "padLength" "I" ∈ wsX3_put := by decide +kernel
  have m1 : ∀ w ∈ wsX30, w ∈ wsX3_put := by decide +kernel
  have m2 : Cond.fieldLink RX3 31 "WordSamples" "pad" "[I" ∈ wsX3_put := by decide +kernel
  refine r_lload_n C dX3_put_0 rfl rfl ?_
  refine r_callS (As := [.long (x)]) (rest := []) (na := 1) C (c_X3_charactersIn G tc l ad N _ x) gX3_put_X3_charactersIn rfl rfl rfl (by decide +kernel) ⟨Nat.le_of_ble_eq_true rfl, Nat.le_of_ble_eq_true rfl⟩ rfl rfl (Nat.le_of_ble_eq_true rfl) dX3_put_1 ⟨Nat.le_of_ble_eq_true rfl, Nat.le_of_ble_eq_true rfl⟩ (aft_I (fun f1 hF2 => ?_))
  rw [hF2]
  have q1 := nch_le x
  refine r_istore_n (lv' := [(0, .ref (ad (0))), (1, .long (x)), (3, .int (iI ((nch x : Nat) : Int)))]) C dX3_put_4 rfl (by decide) rfl ?_
  refine r_iload_n C dX3_put_5 rfl rfl ?_
  refine r_if_ne (tgt := 12) C ⟨by omega, by omega⟩ dX3_put_6 (by decide) (fun b3 => ?_) (fun b3 => ?_)
  · refine r_aload_n C dX3_put_12 rfl rfl ?_
    refine r_get (v := .int (iI ((pln s : Nat) : Int))) C (by omega) h0 (show vwCl[3]? = some (RX3, TX3, 11) from rfl) m1 6 (by decide) m0 rfl rfl dX3_put_13 ?_
    refine r_iload_n C dX3_put_16 rfl rfl ?_
    refine r_iadd C ((pln s + (nch x) : Nat) : Int) (by omega) dX3_put_17 ?_
    refine r_bipush C ((64 : Nat) : Int) (by decide) dX3_put_18 ?_
    refine r_icmp_le (tgt := 26) C ⟨by omega, by omega⟩ ⟨by omega, by omega⟩ dX3_put_20 (by decide) (fun b4 => ?_) (fun b4 => ?_)
    · refine r_iconst C ((0 : Nat) : Int) (by decide) dX3_put_26 ?_
      refine r_istore (lv' := [(0, .ref (ad (0))), (1, .long (x)), (3, .int (iI ((nch x : Nat) : Int))), (4, .int (iI ((0 : Nat) : Int)))]) C dX3_put_27 (by decide) rfl ?_
      have hL8 : ∀ (m_9 : Nat) (k : Nat) (f5 : Nat → va_E) (hm6 : f5 (40) = eI tc 64 (fun j => iI (((putF (pad s) (pln s) x (nch x) k) j : Nat) : Int))) (ho7 : ∀ q, q ≠ 40 → f5 q = f q) (hk : k ≤ nch x), nch x - k < m_9 → VV X ad N f5 0 0 29 [(0, .ref (ad (0))), (1, .long (x)), (3, .int (iI ((nch x : Nat) : Int))), (4, .int (iI ((k : Nat) : Int)))] [] := by
        intro m_9
        induction m_9 with
        | zero => intros; omega
        | succ m_9 ih10 =>
          intro k f5 hm6 ho7 hk hm11
          refine r_iload C dX3_put_29 rfl ?_
          refine r_iload_n C dX3_put_31 rfl rfl ?_
          refine r_icmp_ge (tgt := 63) C ⟨by omega, by omega⟩ ⟨by omega, by omega⟩ dX3_put_32 (by decide) (fun b12 => ?_) (fun b12 => ?_)
          · have hke : k = nch x := by omega
            rw [hke] at hm6
            refine r_aload_n C dX3_put_63 rfl rfl ?_
            refine r_dup C dX3_put_64 rfl ?_
            have c13 : f5 (0) = eO 3 [.ref (ad (1)), .ref (ad (5)), .int (iI ((kno s : Nat) : Int)), .ref (ad (30)), .ref (ad (39)), .ref (ad (40)), .int (iI ((pln s : Nat) : Int)), .ref (ad (41)), .ref (ad (82)), .ref (ad (83)), .ref (ad (87))] := (ho7 _ (by omega)).trans h0
            refine r_get (v := .int (iI ((pln s : Nat) : Int))) C (by omega) c13 (show vwCl[3]? = some (RX3, TX3, 11) from rfl) m1 6 (by decide) m0 rfl rfl dX3_put_65 ?_
            refine r_iload_n C dX3_put_68 rfl rfl ?_
            refine r_iadd C ((pln s + (nch x) : Nat) : Int) (by omega) dX3_put_69 ?_
            refine r_put (ty := .int) C (by omega) c13 (show vwCl[3]? = some (RX3, TX3, 11) from rfl) m1 tyX3_ok nmX3 6 (by decide) m0 rfl rfl (by decide +kernel) rfl rfl (Nat.le_of_ble_eq_true rfl) dX3_put_70 (fun f14 hs15 ho16 => ?_)
            have c17 : f14 (0) = eO 3 [.ref (ad (1)), .ref (ad (5)), .int (iI ((kno s : Nat) : Int)), .ref (ad (30)), .ref (ad (39)), .ref (ad (40)), .int (iI ((pln s + (nch x) : Nat) : Int)), .ref (ad (41)), .ref (ad (82)), .ref (ad (83)), .ref (ad (87))] := hs15
            refine r_aload_n C dX3_put_73 rfl rfl ?_
            refine r_get (v := .int (iI ((pln s + (nch x) : Nat) : Int))) C (by omega) c17 (show vwCl[3]? = some (RX3, TX3, 11) from rfl) m1 6 (by decide) m0 rfl rfl dX3_put_74 ?_
            have c18 : f14 (40) = eI tc 64 (fun j => iI (((putF (pad s) (pln s) x (nch x) (nch x)) j : Nat) : Int)) := (ho16 _ (by omega)).trans hm6
            exact hret f14 ((pln s + (nch x) : Nat) : Int) _ _ dX3_put_77 (by unfold aPut; rw [if_neg (by omega), if_pos (by omega)]) (⟨by unfold nPut; rw [if_pos ⟨by omega, by omega⟩]; exact XI_pad hX c17 c18 (fun q g1 g2 g3 => ((ho16 _ (by omega))).trans (ho7 _ (by omega))), fun q hq => ((ho16 _ (by omega))).trans (ho7 _ (by omega))⟩)
          · refine r_aload_n C dX3_put_35 rfl rfl ?_
            have c19 : f5 (0) = eO 3 [.ref (ad (1)), .ref (ad (5)), .int (iI ((kno s : Nat) : Int)), .ref (ad (30)), .ref (ad (39)), .ref (ad (40)), .int (iI ((pln s : Nat) : Int)), .ref (ad (41)), .ref (ad (82)), .ref (ad (83)), .ref (ad (87))] := (ho7 _ (by omega)).trans h0
            refine r_get (v := .ref (ad (40))) C (by omega) c19 (show vwCl[3]? = some (RX3, TX3, 11) from rfl) m1 5 (by decide) m2 rfl rfl dX3_put_36 ?_
            refine r_aload_n C dX3_put_39 rfl rfl ?_
            refine r_get (v := .int (iI ((pln s : Nat) : Int))) C (by omega) c19 (show vwCl[3]? = some (RX3, TX3, 11) from rfl) m1 6 (by decide) m0 rfl rfl dX3_put_40 ?_
            refine r_iload C dX3_put_43 rfl ?_
            refine r_iadd C ((pln s + k : Nat) : Int) (by omega) dX3_put_45 ?_
            refine r_lload_n C dX3_put_46 rfl rfl ?_
            refine r_iload_n C dX3_put_47 rfl rfl ?_
            refine r_iconst C ((1 : Nat) : Int) (by decide) dX3_put_48 ?_
            refine r_isub C ((nch x - 1 : Nat) : Int) (by omega) dX3_put_49 ?_
            refine r_iload C dX3_put_50 rfl ?_
            refine r_isub C ((nch x - 1 - k : Nat) : Int) (by omega) dX3_put_52 ?_
            refine r_callS (As := [.long (x), .int (iI ((nch x - 1 - k : Nat) : Int))]) (rest := [.int (iI ((pln s + k : Nat) : Int)), .ref (ad (40))]) (na := 2) C (c_X3_codeIn G tc l ad N _ x (nch x - 1 - k) (by omega)) gX3_put_X3_codeIn rfl rfl rfl (by decide +kernel) ⟨Nat.le_of_ble_eq_true rfl, Nat.le_of_ble_eq_true rfl⟩ rfl rfl (Nat.le_of_ble_eq_true rfl) dX3_put_53 ⟨Nat.le_of_ble_eq_true rfl, Nat.le_of_ble_eq_true rfl⟩ (aft_I (fun f20 hF21 => ?_))
            rw [hF21]
            refine r_iast C (by omega) hm6 (pln s + k) rfl (by omega) (Nat.le_of_ble_eq_true rfl) dX3_put_56 (fun f22 hs23 ho24 => ?_)
            have c25 : f22 (40) = eI tc 64 (fun j => iI (((upN ((putF (pad s) (pln s) x (nch x) k)) (pln s + k) (byt x (nch x - 1 - k))) j : Nat) : Int)) := hs23.trans (congrArg (fun g => eI tc 64 g) (updN _ _ _))
            refine r_iinc (lv' := [(0, .ref (ad (0))), (1, .long (x)), (3, .int (iI ((nch x : Nat) : Int))), (4, .int (iI ((k + 1 : Nat) : Int)))]) C ((k + 1 : Nat) : Int) (by omega) dX3_put_57 rfl (by decide) rfl ?_
            refine r_goto (tgt := 29) C dX3_put_60 (by decide) ?_
            exact ih10 (k + 1) f22 (c25.trans (by rw [putF_s])) (fun q hq => ((ho24 _ (by omega))).trans (ho7 _ (by omega))) (by omega) (by omega)
      exact hL8 _ 0 f (by rw [putF_0]; exact h40) (fun _ _ => rfl) (by omega) (Nat.lt_succ_self _)
    · refine r_bipush C ((-4)) (by decide) dX3_put_23 ?_
      exact hret f ((-4)) _ _ dX3_put_25 (by unfold aPut; rw [if_neg (by omega), if_neg (by omega)]) (⟨by unfold nPut; rw [if_neg (by omega)]; exact hX, fun _ _ => rfl⟩)
  · refine r_bipush C ((-2)) (by decide) dX3_put_9 ?_
    exact hret f ((-2)) _ _ dX3_put_11 (by unfold aPut; rw [if_pos (by omega)]) (⟨by unfold nPut; rw [if_neg (by omega)]; exact hX, fun _ _ => rfl⟩)
set_option maxHeartbeats 4000000 in
set_option maxRecDepth 100000 in
/-- wipe -/
theorem c_X3_wipe (G : va_G) (tc : Nat → ClassId) (l : Launch) (ad : Nat → Nat) (N : Nat) (f : Nat → va_E) (s : SG) (hX : XI tc ad f s) (ho : okS s) (hN : 98 ≤ N)    : Ct G tc l yX3_wipe wsX3_wipe { frames := 0, cells := 0, slots := 0, locals := 0 } 0 0 [.ref (ad (0))] ad N f (poI ad N (((pln s : Nat) : Int)) (fun f' => XI tc ad f' (nWip s) ∧ ∀ q, 88 ≤ q → f' q = f q)) := by
  obtain ⟨h0, ⟨h1, h2, h3, h4⟩, hHis, hSlo, h40, hWds, hPr, hHd⟩ := id hX
  obtain ⟨⟨⟨a1, a2⟩, ⟨a3, a4⟩, ⟨a5, a6⟩, a7, a8, a9, a10⟩, o2, o3, o4, o5, o6⟩ := id ho
  refine stI (cc := cX3_wipe) (maxL := 2) (lv := [(0, .ref (ad (0)))]) (by decide) rfl (Nat.le_of_ble_eq_true rfl) rfl (fun X C hret => ?_)
  have m0 : Cond.fieldLink RX3 35 "WordSamples" "padLength" "I" ∈ wsX3_wipe := by decide +kernel
  have m1 : ∀ w ∈ wsX30, w ∈ wsX3_wipe := by decide +kernel
  refine r_aload_n C dX3_wipe_0 rfl rfl ?_
  refine r_get (v := .int (iI ((pln s : Nat) : Int))) C (by omega) h0 (show vwCl[3]? = some (RX3, TX3, 11) from rfl) m1 6 (by decide) m0 rfl rfl dX3_wipe_1 ?_
  refine r_istore_n (lv' := [(0, .ref (ad (0))), (1, .int (iI ((pln s : Nat) : Int)))]) C dX3_wipe_4 rfl (by decide) rfl ?_
  refine r_aload_n C dX3_wipe_5 rfl rfl ?_
  refine r_iconst C ((0 : Nat) : Int) (by decide) dX3_wipe_6 ?_
  refine r_put (ty := .int) C (by omega) h0 (show vwCl[3]? = some (RX3, TX3, 11) from rfl) m1 tyX3_ok nmX3 6 (by decide) m0 rfl rfl (by decide +kernel) rfl rfl (Nat.le_of_ble_eq_true rfl) dX3_wipe_7 (fun f1 hs2 ho3 => ?_)
  have c4 : f1 (0) = eO 3 [.ref (ad (1)), .ref (ad (5)), .int (iI ((kno s : Nat) : Int)), .ref (ad (30)), .ref (ad (39)), .ref (ad (40)), .int (iI ((0 : Nat) : Int)), .ref (ad (41)), .ref (ad (82)), .ref (ad (83)), .ref (ad (87))] := hs2
  refine r_iload_n C dX3_wipe_10 rfl rfl ?_
  have c5 : f1 (40) = eI tc 64 (fun j => iI ((pad s j : Nat) : Int)) := (ho3 _ (by omega)).trans h40
  exact hret f1 ((pln s : Nat) : Int) _ _ dX3_wipe_11 rfl (⟨XI_pad hX c4 c5 (fun q g1 g2 g3 => (ho3 _ (by omega))), fun q hq => (ho3 _ (by omega))⟩)
set_option maxHeartbeats 4000000 in
set_option maxRecDepth 100000 in
/-- fault -/
theorem c_X3_fault (G : va_G) (tc : Nat → ClassId) (l : Launch) (ad : Nat → Nat) (N : Nat) (f : Nat → va_E) (s : SG) (hX : XI tc ad f s) (ho : okS s) (hN : 98 ≤ N)    : Ct G tc l yX3_fault wsX3_fault { frames := 2, cells := 0, slots := 0, locals := 41 } 0 0 [.ref (ad (0))] ad N f (poI ad N (fau (pad s) (pln s)) (fun f' => f' = f)) := by
  obtain ⟨h0, ⟨h1, h2, h3, h4⟩, hHis, hSlo, h40, hWds, hPr, hHd⟩ := id hX
  obtain ⟨⟨⟨a1, a2⟩, ⟨a3, a4⟩, ⟨a5, a6⟩, a7, a8, a9, a10⟩, o2, o3, o4, o5, o6⟩ := id ho
  refine stI (cc := cX3_fault) (maxL := 1) (lv := [(0, .ref (ad (0)))]) (by decide) rfl (Nat.le_of_ble_eq_true rfl) rfl (fun X C hret => ?_)
  refine r_aload_n C dX3_fault_0 rfl rfl ?_
  refine r_callV (As := []) (rest := []) (na := 0) C (c_X3_padFault G tc l ad N _ s hX ho hN) gX3_fault_X3_padFault rfl rfl rfl (by decide +kernel) ⟨Nat.le_of_ble_eq_true rfl, Nat.le_of_ble_eq_true rfl⟩ (by omega) h0 (show vwCl[3]? = some (RX3, TX3, 11) from rfl) rfl rfl (Nat.le_of_ble_eq_true rfl) dX3_fault_1 ⟨Nat.le_of_ble_eq_true rfl, Nat.le_of_ble_eq_true rfl⟩ (aft_I (fun f1 hF2 => ?_))
  rw [hF2]
  exact hret f (fau (pad s) (pln s)) _ _ dX3_fault_4 rfl rfl
set_option maxHeartbeats 4000000 in
set_option maxRecDepth 100000 in
/-- undo -/
theorem c_X3_undo (G : va_G) (tc : Nat → ClassId) (l : Launch) (ad : Nat → Nat) (N : Nat) (f : Nat → va_E) (s : SG) (hX : XI tc ad f s) (ho : okS s) (hN : 98 ≤ N)    : Ct G tc l yX3_undo wsX3_undo { frames := 2, cells := 0, slots := 0, locals := 41 } 0 0 [.ref (ad (0))] ad N f (poI ad N (aUnd s) (fun f' => XI tc ad f' (nUnd s) ∧ ∀ q, 88 ≤ q → f' q = f q)) := by
  obtain ⟨h0, ⟨h1, h2, h3, h4⟩, hHis, hSlo, h40, hWds, hPr, hHd⟩ := id hX
  obtain ⟨⟨⟨a1, a2⟩, ⟨a3, a4⟩, ⟨a5, a6⟩, a7, a8, a9, a10⟩, o2, o3, o4, o5, o6⟩ := id ho
  obtain ⟨pi, hs, h5, hpi, hpj, hss, hhv⟩ := id hHis
  obtain ⟨gt, wd, w41, w82, wst, wv⟩ := id hWds
  refine stI (cc := cX3_undo) (maxL := 1) (lv := [(0, .ref (ad (0)))]) (by decide) rfl (Nat.le_of_ble_eq_true rfl) rfl (fun X C hret => ?_)
  have m0 : Cond.fieldLink RX3 20 "WordSamples" "undoable" "I" ∈ wsX3_undo := by decide +kernel
  have m1 : ∀ w ∈ wsX30, w ∈ wsX3_undo := by decide +kernel
  have m2 : Cond.fieldLink RX3 10 "WordSamples" "now" "LWordSamples$State;" ∈ wsX3_undo := by decide +kernel
  have m3 : Cond.fieldLink RX3 16 "WordSamples" "history" "[LWordSamples$State;" ∈ wsX3_undo := by decide +kernel
  refine r_aload_n C dX3_undo_0 rfl rfl ?_
  refine r_get (v := .int (iI ((kno s : Nat) : Int))) C (by omega) h0 (show vwCl[3]? = some (RX3, TX3, 11) from rfl) m1 2 (by decide) m0 rfl rfl dX3_undo_1 ?_
  refine r_if_gt (tgt := 10) C ⟨by omega, by omega⟩ dX3_undo_4 (by decide) (fun b1 => ?_) (fun b1 => ?_)
  · refine r_aload_n C dX3_undo_10 rfl rfl ?_
    refine r_dup C dX3_undo_11 rfl ?_
    refine r_get (v := .int (iI ((kno s : Nat) : Int))) C (by omega) h0 (show vwCl[3]? = some (RX3, TX3, 11) from rfl) m1 2 (by decide) m0 rfl rfl dX3_undo_12 ?_
    refine r_iconst C ((1 : Nat) : Int) (by decide) dX3_undo_15 ?_
    refine r_isub C ((kno s - 1 : Nat) : Int) (by omega) dX3_undo_16 ?_
    refine r_put (ty := .int) C (by omega) h0 (show vwCl[3]? = some (RX3, TX3, 11) from rfl) m1 tyX3_ok nmX3 2 (by decide) m0 rfl rfl (by decide +kernel) rfl rfl (Nat.le_of_ble_eq_true rfl) dX3_undo_17 (fun f2 hs3 ho4 => ?_)
    have c5 : f2 (0) = eO 3 [.ref (ad (1)), .ref (ad (5)), .int (iI ((kno s - 1 : Nat) : Int)), .ref (ad (30)), .ref (ad (39)), .ref (ad (40)), .int (iI ((pln s : Nat) : Int)), .ref (ad (41)), .ref (ad (82)), .ref (ad (83)), .ref (ad (87))] := hs3
    refine r_aload_n C dX3_undo_20 rfl rfl ?_
    refine r_get (v := .ref (ad (1))) C (by omega) c5 (show vwCl[3]? = some (RX3, TX3, 11) from rfl) m1 0 (by decide) m2 rfl rfl dX3_undo_21 ?_
    refine r_aload_n C dX3_undo_24 rfl rfl ?_
    refine r_get (v := .ref (ad (5))) C (by omega) c5 (show vwCl[3]? = some (RX3, TX3, 11) from rfl) m1 1 (by decide) m3 rfl rfl dX3_undo_25 ?_
    refine r_aload_n C dX3_undo_28 rfl rfl ?_
    refine r_get (v := .int (iI ((kno s - 1 : Nat) : Int))) C (by omega) c5 (show vwCl[3]? = some (RX3, TX3, 11) from rfl) m1 2 (by decide) m0 rfl rfl dX3_undo_29 ?_
    have c6 : f2 (5) = eS tc 6 (fun k => some (ad (6 + 4 * pi k))) := (ho4 _ (by omega)).trans h5
    refine r_aaldS (a := ad (6 + 4 * pi (kno s - 1))) C (by omega) c6 (kno s - 1) rfl (by omega) (Nat.le_of_ble_eq_true rfl) (rfl) dX3_undo_32 ?_
    have hq2 := hpi (kno s - 1) (by omega)
    have hcs := ((show isSt tc ad f 1 (cur s) from ⟨h1, h2, h3, h4⟩)).fr (f' := f2) (fun q g1 g2 => (ho4 _ (by omega)))
    have hcc := (hss _ hq2).fr (f' := f2) (fun q g1 g2 => (ho4 _ (by omega)))
    refine r_callV (As := [.ref (ad (6 + 4 * pi (kno s - 1)))]) (rest := []) (na := 1) C (c_X1_copyFrom G tc l ad N _ (1) (6 + 4 * pi (kno s - 1)) (by omega) (by omega) (by omega) (hs (pi (kno s - 1))) _ hcs hcc) gX3_undo_X1_copyFrom rfl rfl rfl (by decide +kernel) ⟨Nat.le_of_ble_eq_true rfl, Nat.le_of_ble_eq_true rfl⟩ (by omega) hcs.1 (show vwCl[1]? = some (RX1, TX1, 4) from rfl) rfl rfl (Nat.le_of_ble_eq_true rfl) dX3_undo_33 ⟨Nat.le_of_ble_eq_true rfl, Nat.le_of_ble_eq_true rfl⟩ (aft_V (fun f7 hF8 => ?_))
    obtain ⟨hcp, hoC⟩ := hF8
    refine r_aload_n C dX3_undo_36 rfl rfl ?_
    have c9 : f7 (0) = eO 3 [.ref (ad (1)), .ref (ad (5)), .int (iI ((kno s - 1 : Nat) : Int)), .ref (ad (30)), .ref (ad (39)), .ref (ad (40)), .int (iI ((pln s : Nat) : Int)), .ref (ad (41)), .ref (ad (82)), .ref (ad (83)), .ref (ad (87))] := (hoC _ (by omega)).trans c5
    have c10 : f2 (82) = eB tc 10 (gt) := (ho4 _ (by omega)).trans w82
    have c11 : f7 (82) = eB tc 10 (gt) := (hoC _ (by omega)).trans c10
    refine r_callV (As := []) (rest := []) (na := 0) C (c_X3_forgetWords G tc l ad N _ (kno s - 1) (pln s) gt hN c9 c11) gX3_undo_X3_forgetWords rfl rfl rfl (by decide +kernel) ⟨Nat.le_of_ble_eq_true rfl, Nat.le_of_ble_eq_true rfl⟩ (by omega) c9 (show vwCl[3]? = some (RX3, TX3, 11) from rfl) rfl rfl (Nat.le_of_ble_eq_true rfl) dX3_undo_37 ⟨Nat.le_of_ble_eq_true rfl, Nat.le_of_ble_eq_true rfl⟩ (aft_V (fun f12 hF13 => ?_))
    obtain ⟨h82, hoW⟩ := hF13
    refine r_aload_n C dX3_undo_40 rfl rfl ?_
    have c14 : f12 (0) = eO 3 [.ref (ad (1)), .ref (ad (5)), .int (iI ((kno s - 1 : Nat) : Int)), .ref (ad (30)), .ref (ad (39)), .ref (ad (40)), .int (iI ((pln s : Nat) : Int)), .ref (ad (41)), .ref (ad (82)), .ref (ad (83)), .ref (ad (87))] := (hoW _ (by omega)).trans c9
    refine r_get (v := .int (iI ((kno s - 1 : Nat) : Int))) C (by omega) c14 (show vwCl[3]? = some (RX3, TX3, 11) from rfl) m1 2 (by decide) m0 rfl rfl dX3_undo_41 ?_
    have hcq := hcp.fr (f' := f12) (fun q g1 g2 => (hoW _ (by omega)))
    rw [hhv _ (by omega)] at hcq
    exact hret f12 ((kno s - 1 : Nat) : Int) _ _ dX3_undo_44 (by unfold aUnd; rw [if_pos (by omega)]) (⟨by unfold nUnd; rw [if_pos (by omega)]; exact undo_XI hX (by omega) c14 hcq h82 (fun q g1 g2 => (((hoW _ (by omega))).trans (hoC _ (by omega))).trans (ho4 _ (by omega))), fun q hq => (((hoW _ (by omega))).trans (hoC _ (by omega))).trans (ho4 _ (by omega))⟩)
  · refine r_bipush C ((-5)) (by decide) dX3_undo_7 ?_
    exact hret f ((-5)) _ _ dX3_undo_9 (by unfold aUnd; rw [if_neg (by omega)]) (⟨by unfold nUnd; rw [if_neg (by omega)]; exact hX, fun _ _ => rfl⟩)
set_option maxHeartbeats 4000000 in
set_option maxRecDepth 100000 in
/-- save -/
theorem c_X3_save (G : va_G) (tc : Nat → ClassId) (l : Launch) (ad : Nat → Nat) (N : Nat) (f : Nat → va_E) (s : SG) (hX : XI tc ad f s) (ho : okS s) (hN : 98 ≤ N) (z : Int) (hz : inR z)   : Ct G tc l yX3_save wsX3_save { frames := 2, cells := 0, slots := 0, locals := 41 } 0 0 [.ref (ad (0)), .int (iI (z))] ad N f (poI ad N (aSav s z) (fun f' => XI tc ad f' (nSav s z) ∧ ∀ q, 88 ≤ q → f' q = f q)) := by
  obtain ⟨h0, ⟨h1, h2, h3, h4⟩, hHis, hSlo, h40, hWds, hPr, hHd⟩ := id hX
  obtain ⟨⟨⟨a1, a2⟩, ⟨a3, a4⟩, ⟨a5, a6⟩, a7, a8, a9, a10⟩, o2, o3, o4, o5, o6⟩ := id ho
  obtain ⟨ss, s30, sst, ⟨sg, s39, hsg⟩, hsv⟩ := id hSlo
  refine stI (cc := cX3_save) (maxL := 2) (lv := [(0, .ref (ad (0))), (1, .int (iI (z)))]) (by decide) rfl (Nat.le_of_ble_eq_true rfl) rfl (fun X C hret => ?_)
  have m0 : Cond.fieldLink RX3 24 "WordSamples" "slots" "[LWordSamples$State;" ∈ wsX3_save := by decide +kernel
  have m1 : ∀ w ∈ wsX30, w ∈ wsX3_save := by decide +kernel
  have m2 : Cond.fieldLink RX3 10 "WordSamples" "now" "LWordSamples$State;" ∈ wsX3_save := by decide +kernel
  have m3 : Cond.fieldLink RX3 27 "WordSamples" "saved" "[Z" ∈ wsX3_save := by decide +kernel
  have m4 : Cond.fieldLink RX3 74 "WordSamples$State" "rows" "I" ∈ wsX3_save := by decide +kernel
  have m5 : ∀ w ∈ wsX10, w ∈ wsX3_save := by decide +kernel
  refine r_iload_n C dX3_save_0 rfl rfl ?_
  refine r_if_lt (tgt := 9) C ⟨by omega, by omega⟩ dX3_save_1 (by decide) (fun b1 => ?_) (fun b1 => ?_)
  · refine r_bipush C ((-2)) (by decide) dX3_save_9 ?_
    exact hret f ((-2)) _ _ dX3_save_11 (by unfold aSav; rw [if_neg (by omega)]) (⟨by unfold nSav; rw [if_neg (by omega)]; exact hX, fun _ _ => rfl⟩)
  · refine r_iload_n C dX3_save_4 rfl rfl ?_
    refine r_iconst C ((2 : Nat) : Int) (by decide) dX3_save_5 ?_
    refine r_icmp_lt (tgt := 12) C ⟨by omega, by omega⟩ ⟨by omega, by omega⟩ dX3_save_6 (by decide) (fun b2 => ?_) (fun b2 => ?_)
    · refine r_aload_n C dX3_save_12 rfl rfl ?_
      refine r_get (v := .ref (ad (30))) C (by omega) h0 (show vwCl[3]? = some (RX3, TX3, 11) from rfl) m1 3 (by decide) m0 rfl rfl dX3_save_13 ?_
      refine r_iload_n C dX3_save_16 rfl rfl ?_
      refine r_aaldS (a := ad (31 + 4 * z.toNat)) C (by omega) s30 (z.toNat) (by omega) (by omega) (Nat.le_of_ble_eq_true rfl) (rfl) dX3_save_17 ?_
      refine r_aload_n C dX3_save_18 rfl rfl ?_
      refine r_get (v := .ref (ad (1))) C (by omega) h0 (show vwCl[3]? = some (RX3, TX3, 11) from rfl) m1 0 (by decide) m2 rfl rfl dX3_save_19 ?_
      have hcs := (sst z.toNat (by omega)).fr (f' := f) (fun q g1 g2 => rfl)
      have hcc := ((show isSt tc ad f 1 (cur s) from ⟨h1, h2, h3, h4⟩)).fr (f' := f) (fun q g1 g2 => rfl)
      refine r_callV (As := [.ref (ad (1))]) (rest := []) (na := 1) C (c_X1_copyFrom G tc l ad N _ (31 + 4 * z.toNat) (1) (by omega) (by omega) (by omega) (cur s) _ hcs hcc) gX3_save_X1_copyFrom rfl rfl rfl (by decide +kernel) ⟨Nat.le_of_ble_eq_true rfl, Nat.le_of_ble_eq_true rfl⟩ (by omega) hcs.1 (show vwCl[1]? = some (RX1, TX1, 4) from rfl) rfl rfl (Nat.le_of_ble_eq_true rfl) dX3_save_22 ⟨Nat.le_of_ble_eq_true rfl, Nat.le_of_ble_eq_true rfl⟩ (aft_V (fun f3 hF4 => ?_))
      obtain ⟨hcp, hoC⟩ := hF4
      refine r_aload_n C dX3_save_25 rfl rfl ?_
      have c5 : f3 (0) = eO 3 [.ref (ad (1)), .ref (ad (5)), .int (iI ((kno s : Nat) : Int)), .ref (ad (30)), .ref (ad (39)), .ref (ad (40)), .int (iI ((pln s : Nat) : Int)), .ref (ad (41)), .ref (ad (82)), .ref (ad (83)), .ref (ad (87))] := (hoC _ (by omega)).trans h0
      refine r_get (v := .ref (ad (39))) C (by omega) c5 (show vwCl[3]? = some (RX3, TX3, 11) from rfl) m1 4 (by decide) m3 rfl rfl dX3_save_26 ?_
      refine r_iload_n C dX3_save_29 rfl rfl ?_
      refine r_iconst C ((1 : Nat) : Int) (by decide) dX3_save_30 ?_
      have c6 : f3 (39) = eB tc 2 (sg) := (hoC _ (by omega)).trans s39
      refine r_zast C (by omega) c6 (z.toNat) (by omega) (by omega) (Nat.le_of_ble_eq_true rfl) rfl dX3_save_31 (fun f7 hs8 ho9 => ?_)
      refine r_aload_n C dX3_save_32 rfl rfl ?_
      have c10 : f7 (0) = eO 3 [.ref (ad (1)), .ref (ad (5)), .int (iI ((kno s : Nat) : Int)), .ref (ad (30)), .ref (ad (39)), .ref (ad (40)), .int (iI ((pln s : Nat) : Int)), .ref (ad (41)), .ref (ad (82)), .ref (ad (83)), .ref (ad (87))] := (ho9 _ (by omega)).trans c5
      refine r_get (v := .ref (ad (1))) C (by omega) c10 (show vwCl[3]? = some (RX3, TX3, 11) from rfl) m1 0 (by decide) m2 rfl rfl dX3_save_33 ?_
      have c11 : f3 (1) = eO 1 [.ref (ad (2)), .ref (ad (3)), .ref (ad (4)), .int (iI (((cur s).2.2.2 : Nat) : Int))] := (hoC _ (by omega)).trans h1
      have c12 : f7 (1) = eO 1 [.ref (ad (2)), .ref (ad (3)), .ref (ad (4)), .int (iI (((cur s).2.2.2 : Nat) : Int))] := (ho9 _ (by omega)).trans c11
      refine r_get (v := .int (iI (((cur s).2.2.2 : Nat) : Int))) C (by omega) c12 (show vwCl[1]? = some (RX1, TX1, 4) from rfl) m5 3 (by decide) m4 rfl rfl dX3_save_36 ?_
      have c13 : f3 (30) = eS tc 2 (fun k => some (ad (31 + 4 * k))) := (hoC _ (by omega)).trans s30
      have c14 : f7 (30) = eS tc 2 (fun k => some (ad (31 + 4 * k))) := (ho9 _ (by omega)).trans c13
      have hcq := hcp.fr (f' := f7) (fun q g1 g2 => (ho9 _ (by omega)))
      exact hret f7 (((cur s).2.2.2 : Nat) : Int) _ _ dX3_save_39 (by unfold aSav; rw [if_pos (by omega)]) (⟨by unfold nSav; rw [if_pos (by omega)]; exact save_XI (r := z.toNat) hX (by omega) hcq hs8 (fun q g1 g2 g3 => ((ho9 _ (by omega))).trans (hoC _ (by omega))) s39, fun q hq => ((ho9 _ (by omega))).trans (hoC _ (by omega))⟩)
    · refine r_bipush C ((-2)) (by decide) dX3_save_9 ?_
      exact hret f ((-2)) _ _ dX3_save_11 (by unfold aSav; rw [if_neg (by omega)]) (⟨by unfold nSav; rw [if_neg (by omega)]; exact hX, fun _ _ => rfl⟩)
set_option maxHeartbeats 4000000 in
set_option maxRecDepth 100000 in
/-- restore -/
theorem c_X3_restore (G : va_G) (tc : Nat → ClassId) (l : Launch) (ad : Nat → Nat) (N : Nat) (f : Nat → va_E) (s : SG) (hX : XI tc ad f s) (ho : okS s) (hN : 98 ≤ N) (z : Int) (hz : inR z)   : Ct G tc l yX3_restore wsX3_restore { frames := 3, cells := 0, slots := 0, locals := 61 } 0 0 [.ref (ad (0)), .int (iI (z))] ad N f (poI ad N (aRes s z) (fun f' => XI tc ad f' (nRes s z) ∧ ∀ q, 88 ≤ q → f' q = f q)) := by
  obtain ⟨h0, ⟨h1, h2, h3, h4⟩, hHis, hSlo, h40, hWds, hPr, hHd⟩ := id hX
  obtain ⟨⟨⟨a1, a2⟩, ⟨a3, a4⟩, ⟨a5, a6⟩, a7, a8, a9, a10⟩, o2, o3, o4, o5, o6⟩ := id ho
  obtain ⟨ss, s30, sst, ⟨sg, s39, hsg⟩, hsv⟩ := id hSlo
  refine stI (cc := cX3_restore) (maxL := 2) (lv := [(0, .ref (ad (0))), (1, .int (iI (z)))]) (by decide) rfl (Nat.le_of_ble_eq_true rfl) rfl (fun X C hret => ?_)
  have m0 : Cond.fieldLink RX3 27 "WordSamples" "saved" "[Z" ∈ wsX3_restore := by decide +kernel
  have m1 : ∀ w ∈ wsX30, w ∈ wsX3_restore := by decide +kernel
  have m2 : Cond.fieldLink RX3 10 "WordSamples" "now" "LWordSamples$State;" ∈ wsX3_restore := by decide +kernel
  have m3 : Cond.fieldLink RX3 24 "WordSamples" "slots" "[LWordSamples$State;" ∈ wsX3_restore := by decide +kernel
  have m4 : Cond.fieldLink RX3 74 "WordSamples$State" "rows" "I" ∈ wsX3_restore := by decide +kernel
  have m5 : ∀ w ∈ wsX10, w ∈ wsX3_restore := by decide +kernel
  refine r_iload_n C dX3_restore_0 rfl rfl ?_
  refine r_if_lt (tgt := 9) C ⟨by omega, by omega⟩ dX3_restore_1 (by decide) (fun b1 => ?_) (fun b1 => ?_)
  · refine r_bipush C ((-2)) (by decide) dX3_restore_9 ?_
    exact hret f ((-2)) _ _ dX3_restore_11 (by unfold aRes; rw [if_neg (by omega)]) (⟨by unfold nRes; rw [if_neg (by omega)]; exact hX, fun _ _ => rfl⟩)
  · refine r_iload_n C dX3_restore_4 rfl rfl ?_
    refine r_iconst C ((2 : Nat) : Int) (by decide) dX3_restore_5 ?_
    refine r_icmp_lt (tgt := 12) C ⟨by omega, by omega⟩ ⟨by omega, by omega⟩ dX3_restore_6 (by decide) (fun b2 => ?_) (fun b2 => ?_)
    · refine r_aload_n C dX3_restore_12 rfl rfl ?_
      refine r_get (v := .ref (ad (39))) C (by omega) h0 (show vwCl[3]? = some (RX3, TX3, 11) from rfl) m1 4 (by decide) m0 rfl rfl dX3_restore_13 ?_
      refine r_iload_n C dX3_restore_16 rfl rfl ?_
      refine r_zald (x := (iI ((if sav s z.toNat = true then 1 else 0 : Nat) : Int))) C (by omega) s39 (z.toNat) (by omega) (by omega) (Nat.le_of_ble_eq_true rfl) (hsg z.toNat (by omega)) dX3_restore_17 ?_
      have q4 := if_le1 (sav s z.toNat)
      refine r_if_ne (tgt := 24) C ⟨by omega, by omega⟩ dX3_restore_18 (by decide) (fun b_sv => ?_) (fun b_sv => ?_)
      · have q5 := if_1 b_sv
        refine r_aload_n C dX3_restore_24 rfl rfl ?_
        refine r_callV (As := []) (rest := []) (na := 0) C (c_X3_beginChange G tc l ad N _ s hX ho hN) gX3_restore_X3_beginChange rfl rfl rfl (by decide +kernel) ⟨Nat.le_of_ble_eq_true rfl, Nat.le_of_ble_eq_true rfl⟩ (by omega) h0 (show vwCl[3]? = some (RX3, TX3, 11) from rfl) rfl rfl (Nat.le_of_ble_eq_true rfl) dX3_restore_25 ⟨Nat.le_of_ble_eq_true rfl, Nat.le_of_ble_eq_true rfl⟩ (aft_V (fun f3 hF4 => ?_))
        obtain ⟨hJ, hoB⟩ := hF4
        obtain ⟨j0, ⟨j1, j2, j3, j4⟩, jH, jS, j40, jW, jP, jD⟩ := id hJ
        obtain ⟨ss', u30, ust, ⟨sg', u39, hsg'⟩, hsv'⟩ := id jS
        refine r_aload_n C dX3_restore_28 rfl rfl ?_
        refine r_get (v := .ref (ad (1))) C (by omega) j0 (show vwCl[3]? = some (RX3, TX3, 11) from rfl) m1 0 (by decide) m2 rfl rfl dX3_restore_29 ?_
        refine r_aload_n C dX3_restore_32 rfl rfl ?_
        refine r_get (v := .ref (ad (30))) C (by omega) j0 (show vwCl[3]? = some (RX3, TX3, 11) from rfl) m1 3 (by decide) m3 rfl rfl dX3_restore_33 ?_
        refine r_iload_n C dX3_restore_36 rfl rfl ?_
        refine r_aaldS (a := ad (31 + 4 * z.toNat)) C (by omega) u30 (z.toNat) (by omega) (by omega) (Nat.le_of_ble_eq_true rfl) (rfl) dX3_restore_37 ?_
        have hcs := (hJ.2.1).fr (f' := f3) (fun q g1 g2 => rfl)
        have hcc := (ust z.toNat (by omega)).fr (f' := f3) (fun q g1 g2 => rfl)
        refine r_callV (As := [.ref (ad (31 + 4 * z.toNat))]) (rest := []) (na := 1) C (c_X1_copyFrom G tc l ad N _ (1) (31 + 4 * z.toNat) (by omega) (by omega) (by omega) (ss' z.toNat) _ hcs hcc) gX3_restore_X1_copyFrom rfl rfl rfl (by decide +kernel) ⟨Nat.le_of_ble_eq_true rfl, Nat.le_of_ble_eq_true rfl⟩ (by omega) hcs.1 (show vwCl[1]? = some (RX1, TX1, 4) from rfl) rfl rfl (Nat.le_of_ble_eq_true rfl) dX3_restore_38 ⟨Nat.le_of_ble_eq_true rfl, Nat.le_of_ble_eq_true rfl⟩ (aft_V (fun f5 hF6 => ?_))
        obtain ⟨hcp, hoC⟩ := hF6
        refine r_aload_n C dX3_restore_41 rfl rfl ?_
        have c7 : f5 (0) = eO 3 [.ref (ad (1)), .ref (ad (5)), .int (iI ((kpush (kno s) : Nat) : Int)), .ref (ad (30)), .ref (ad (39)), .ref (ad (40)), .int (iI ((pln s : Nat) : Int)), .ref (ad (41)), .ref (ad (82)), .ref (ad (83)), .ref (ad (87))] := (hoC _ (by omega)).trans j0
        refine r_get (v := .ref (ad (1))) C (by omega) c7 (show vwCl[3]? = some (RX3, TX3, 11) from rfl) m1 0 (by decide) m2 rfl rfl dX3_restore_42 ?_
        refine r_get (v := .int (iI (((ss' z.toNat).2.2.2 : Nat) : Int))) C (by omega) hcp.1 (show vwCl[1]? = some (RX1, TX1, 4) from rfl) m5 3 (by decide) m4 rfl rfl dX3_restore_45 ?_
        have hcq := hcp
        rw [hsv' _ (by omega) q5] at hcq
        exact hret f5 (((ss' z.toNat).2.2.2 : Nat) : Int) _ _ dX3_restore_48 (by unfold aRes; rw [if_pos (by omega), if_pos q5, show ss' z.toNat = slo s z.toNat from hsv' _ (by omega) q5]) (⟨by unfold nRes; rw [if_pos ⟨by omega, q5⟩]; exact J_set (s := knowS s) hJ hcq c7 (fun q g1 g2 => (hoC _ (by omega))), fun q hq => ((hoC _ (by omega))).trans (hoB _ (by omega))⟩)
      · have q5 := if_0 b_sv
        refine r_bipush C ((-5)) (by decide) dX3_restore_21 ?_
        exact hret f ((-5)) _ _ dX3_restore_23 (by unfold aRes; rw [if_pos (by omega), if_neg (by rw [q5]; decide)]) (⟨by unfold nRes; rw [if_neg (fun h => by rw [q5] at h; cases h.2)]; exact hX, fun _ _ => rfl⟩)
    · refine r_bipush C ((-2)) (by decide) dX3_restore_9 ?_
      exact hret f ((-2)) _ _ dX3_restore_11 (by unfold aRes; rw [if_neg (by omega)]) (⟨by unfold nRes; rw [if_neg (by omega)]; exact hX, fun _ _ => rfl⟩)
end XP1
end
section
section WRD
/-! pure rows on words and on two rows side by side -/
theorem cod_lt {g : Nat → Nat} {st : Nat} : ∀ k, (∀ j, j < k → g (st + j) ≤ 26) → cod g st k < 27 ^ k
  | 0, _ => Nat.one_pos
  | k + 1, h => by
    have h1 := cod_lt k (fun j hj => h j (by omega))
    have h2 := h k (by omega)
    show cod g st k * 27 + g (st + k) < 27 ^ k * 27
    omega
theorem cod_le {g : Nat → Nat} {st k : Nat} (hk : k ≤ 4) (h : ∀ j, j < k → g (st + j) ≤ 26) : cod g st k ≤ 531440 := by
  have h1 := cod_lt k h
  have h2 : 27 ^ k ≤ 27 ^ 4 := Nat.pow_le_pow_right (by omega) hk
  have h3 : (27 : Nat) ^ 4 = 531441 := by decide
  omega
theorem vlu_lt (F O c : Nat) : vlu F O c < 1000003 := Nat.mod_lt _ (by decide)
theorem ins_le (w : WW) (x c : Nat) : (ins w x c).1 ≤ w.1 + 1 ∧ w.1 ≤ (ins w x c).1 := by
  unfold ins
  split <;> dsimp only <;> omega
theorem gth_le (n : NS) (r : Nat) : ∀ p, (gth n r p).1 ≤ p
  | 0 => Nat.le_refl _
  | p + 1 => by
    have h1 := gth_le n r p
    have h2 := (ins_le (gth n r p) (vlu (n.1 2) (n.1 3) (cod n.2.2.1 (r * 64 + p) (n.1 0))) (cod n.2.2.1 (r * 64 + p) (n.1 0))).1
    show (ins _ _ _).1 ≤ p + 1
    omega
theorem ins_lt {w : WW} {x c M : Nat} (hw : ∀ j, j < w.1 → w.2.1 j < M) (hx : x < M) : ∀ j, j < (ins w x c).1 → (ins w x c).2.1 j < M := by
  intro j hj
  have hp := posn_le w.2.1 x w.1
  unfold ins at hj ⊢
  split
  · rename_i h
    rw [if_pos h] at hj
    exact hw j hj
  · rename_i h
    rw [if_neg h] at hj
    dsimp only at hj ⊢
    unfold insF
    split
    · exact hw j (by omega)
    · split
      · exact hx
      · split
        · exact hw _ (by omega)
        · omega
theorem gth_lt (n : NS) (r : Nat) : ∀ p j, j < (gth n r p).1 → (gth n r p).2.1 j < 1000003
  | 0, j, h => absurd h (Nat.not_lt_zero _)
  | p + 1, j, h => ins_lt (gth_lt n r p) (vlu_lt _ _ _) j h
theorem wds_le {n : NS} (h : okN n) {r : Nat} (hr : r < 10) : (wds n r).1 ≤ 64 := by
  have h1 := gth_le n r (n.2.1 r + 1 - n.1 0)
  have h2 := h.1.1
  have h3 := h.2.2.2.2.2.1 r hr
  unfold wds
  omega
theorem wds_lt (n : NS) (r : Nat) : ∀ j, j < (wds n r).1 → (wds n r).2.1 j < 1000003 := gth_lt n r _
def vat (w : WW) (z : Int) : Int := if 0 ≤ z ∧ z < ((w.1 : Nat) : Int) then ((w.2.1 z.toNat : Nat) : Int) else 1000003
def vatN (w : WW) (i : Nat) : Nat := if i < w.1 then w.2.1 i else 1000003
theorem vat_N (w : WW) (i : Nat) : vat w ((i : Nat) : Int) = ((vatN w i : Nat) : Int) := by
  unfold vat vatN
  by_cases h : i < w.1
  · rw [if_pos (by omega), if_pos h]; rfl
  · rw [if_neg (by omega), if_neg h]; rfl
theorem vatN_le {w : WW} (hw : ∀ j, j < w.1 → w.2.1 j < 1000003) (i : Nat) : vatN w i ≤ 1000003 := by
  unfold vatN
  split
  · rename_i h
    exact Nat.le_of_lt (hw i h)
  · exact Nat.le_refl _
theorem vatN_end {w : WW} (hw : ∀ j, j < w.1 → w.2.1 j < 1000003) (i : Nat) : vatN w i = 1000003 ↔ w.1 ≤ i := by
  unfold vatN
  split
  · rename_i h
    have := hw i h
    omega
  · omega
theorem iI_long {a : Nat} (h : a ≤ 2147483647) : (iI ((a : Nat) : Int)).toInt64 = jI ((a : Nat) : Int) := by
  have h1 := Int32.toInt64_ofInt (n := ((a : Nat) : Int)) (show (-2147483648 : Int) ≤ _ by omega) (show ((a : Nat) : Int) ≤ (2147483647 : Int) by omega)
  exact h1
theorem jI_mul (a b : Nat) : jI ((a : Nat) : Int) * jI ((b : Nat) : Int) = jI ((a * b : Nat) : Int) := by
  rw [Int.natCast_mul]
  exact (Int64.ofInt_mul _ _).symm
theorem jI_add (a b : Nat) : jI ((a : Nat) : Int) + jI ((b : Nat) : Int) = jI ((a + b : Nat) : Int) := by
  rw [Int.natCast_add]
  exact (Int64.ofInt_add _ _).symm
theorem jI_sub (a b : Int) : jI a - jI b = jI (a - b) := (Int64.ofInt_sub a b).symm
theorem jI_rem {a b : Nat} (ha : a < 2 ^ 63) (hb0 : 0 < b) (hb : b < 2 ^ 63) : jI ((a : Nat) : Int) - jI ((a : Nat) : Int) / jI ((b : Nat) : Int) * jI ((b : Nat) : Int) = jI ((a % b : Nat) : Int) := by
  have h := Int64.ofInt_tdiv (a := ((a : Nat) : Int)) (b := ((b : Nat) : Int)) (show (-9223372036854775808 : Int) ≤ _ by omega) (show ((a : Nat) : Int) ≤ (9223372036854775807 : Int) by omega) (show (-9223372036854775808 : Int) ≤ _ by omega) (show ((b : Nat) : Int) ≤ (9223372036854775807 : Int) by omega)
  rw [Int.tdiv_eq_ediv_of_nonneg (by omega)] at h
  have h2 : jI ((a : Nat) : Int) / jI ((b : Nat) : Int) = jI ((a / b : Nat) : Int) := by
    rw [Int.natCast_ediv]
    exact h.symm
  rw [h2, jI_mul, jI_sub]
  congr 1
  have h3 := Nat.div_add_mod a b
  rw [Nat.mul_comm] at h3
  omega
theorem jI_int {a : Nat} (h : a ≤ 2147483647) : (jI ((a : Nat) : Int)).toInt32 = iI ((a : Nat) : Int) := by
  rw [← Int32.toInt_inj, iI_toInt ⟨by omega, by omega⟩, Int64.toInt_toInt32, jI_toInt ⟨by omega, by omega⟩]
  exact Int.bmod_eq_of_le (by omega) (by omega)
variable {tc : Nat → ClassId} {ad : Nat → Nat} {f f' : Nat → va_E} {w : WW} {i k x c : Nat} {wv wc wt : Nat → Int32}
theorem wd_hit (h0 : f' i = oW ad i w.1) (h1 : f' (i + 1) = eI tc 64 wv) (h2 : f' (i + 2) = eI tc 64 wc) (h3 : f' (i + 3) = eI tc 64 (upd wt k (iI ((w.2.2.2 k + 1 : Nat) : Int)))) (gw : ∀ j, j < w.1 → wv j = iI ((w.2.1 j : Nat) : Int) ∧ wc j = iI ((w.2.2.1 j : Nat) : Int) ∧ wt j = iI ((w.2.2.2 j : Nat) : Int)) (hp : posn w.2.1 x w.1 = k) (hk : k < w.1) (hx : w.2.1 k = x) : isWd tc ad f' i (ins w x c) := by
  have e : ins w x c = (w.1, w.2.1, w.2.2.1, fun j => if j = k then w.2.2.2 j + 1 else w.2.2.2 j) := by
    unfold ins
    rw [hp, if_pos ⟨hk, hx⟩]
  rw [e]
  refine ⟨wv, wc, _, h0, h1, h2, h3, fun j hj => ⟨(gw j hj).1, (gw j hj).2.1, ?_⟩⟩
  unfold upd
  dsimp only
  by_cases h : j = k
  · rw [if_pos h, if_pos h, h]
  · rw [if_neg h, if_neg h]
    exact (gw j hj).2.2
theorem ins_row {a : Nat → Int32} {b : Nat → Nat} {m y : Nat} (hk : k ≤ m) (h : ∀ j, j < m → a j = iI ((b j : Nat) : Int)) : ∀ j, j < m + 1 → upd (va_cpy a a k (k + 1) (m - k)) k (iI ((y : Nat) : Int)) j = iI ((insF b m k y j : Nat) : Int) := by
  intro j hj
  unfold upd va_cpy insF
  by_cases h1 : j = k
  · rw [if_pos h1, if_neg (by omega), if_pos h1]
  · rw [if_neg h1]
    by_cases h2 : j < k
    · rw [if_neg (by omega), if_pos h2]
      exact h j (by omega)
    · rw [if_pos (by omega), if_neg h2, if_neg h1, if_pos (by omega), h _ (by omega), show k + (j - (k + 1)) = j - 1 from by omega]
theorem wd_new (h0 : f' i = oW ad i (w.1 + 1)) (h1 : f' (i + 1) = eI tc 64 (upd (va_cpy wv wv k (k + 1) (w.1 - k)) k (iI ((x : Nat) : Int)))) (h2 : f' (i + 2) = eI tc 64 (upd (va_cpy wc wc k (k + 1) (w.1 - k)) k (iI ((c : Nat) : Int)))) (h3 : f' (i + 3) = eI tc 64 (upd (va_cpy wt wt k (k + 1) (w.1 - k)) k (iI ((1 : Nat) : Int)))) (gw : ∀ j, j < w.1 → wv j = iI ((w.2.1 j : Nat) : Int) ∧ wc j = iI ((w.2.2.1 j : Nat) : Int) ∧ wt j = iI ((w.2.2.2 j : Nat) : Int)) (hp : posn w.2.1 x w.1 = k) (hn : ¬ (k < w.1 ∧ w.2.1 k = x)) : isWd tc ad f' i (ins w x c) := by
  have hk : k ≤ w.1 := by rw [← hp]; exact posn_le _ _ _
  have e : ins w x c = (w.1 + 1, insF w.2.1 w.1 k x, insF w.2.2.1 w.1 k c, insF w.2.2.2 w.1 k 1) := by
    unfold ins
    rw [hp, if_neg hn]
  rw [e]
  exact ⟨_, _, _, h0, h1, h2, h3, fun j hj => ⟨ins_row hk (fun j hj => (gw j hj).1) j hj, ins_row hk (fun j hj => (gw j hj).2.1) j hj, ins_row hk (fun j hj => (gw j hj).2.2) j hj⟩⟩
theorem words_XI {s : SG} {r : Nat} {gt : Nat → Int32} (hX : XI tc ad f s) (hr : r < 10) (hw : isWd tc ad f' (42 + 4 * r) (wds (cur s) r)) (h82 : f' 82 = eB tc 10 (upd gt r (iI ((1 : Nat) : Int)))) (hg : f 82 = eB tc 10 gt) (hfr : ∀ q, (q < 42 + 4 * r ∨ 42 + 4 * r + 4 ≤ q) → q ≠ 82 → f' q = f q) : XI tc ad f' s := by
  obtain ⟨h0, hs, jH, jS, j40, ⟨gt2, wd, w1, w2, w3, w4⟩, jP, jD⟩ := hX
  have e : gt2 = gt := by
    have h := w2.symm.trans hg
    injection h with h
    injection h with _ h
    injection h with _ h
    injection h with h
  subst e
  refine ⟨(hfr _ (by omega) (by omega)).trans h0, hs.fr (fun q _ _ => hfr q (by omega) (by omega)), jH.fr (fun q _ _ => hfr q (by omega) (by omega)), jS.fr (fun q _ _ => hfr q (by omega) (by omega)), j40.fr (hfr _ (by omega) (by omega)), ?_, jP.fr (fun q _ _ => hfr q (by omega) (by omega)), jD.fr (hfr _ (by omega) (by omega))⟩
  refine ⟨_, fun k => if k = r then wds (cur s) r else wd k, (hfr _ (by omega) (by omega)).trans w1, h82, fun k hk => ?_, fun k hk => ?_⟩
  · dsimp only
    by_cases h : k = r
    · rw [if_pos h, h]
      exact hw
    · rw [if_neg h]
      exact (w3 k hk).fr (fun q g1 g2 => hfr q (by omega) (by omega))
  · unfold upd
    dsimp only
    by_cases h : k = r
    · rw [if_pos h, if_pos h, h]
      exact Or.inr ⟨rfl, rfl⟩
    · rw [if_neg h, if_neg h]
      exact w4 k hk
/-- two rows side by side: how far in each, how many in both, after so many steps -/
def mg (a b : WW) : Nat → Nat × Nat × Nat
  | 0 => (0, 0, 0)
  | k + 1 => if vatN a (mg a b k).1 = 1000003 ∧ vatN b (mg a b k).2.1 = 1000003 then mg a b k else
    ((mg a b k).1 + (if vatN a (mg a b k).1 ≤ vatN b (mg a b k).2.1 then 1 else 0), (mg a b k).2.1 + (if vatN b (mg a b k).2.1 ≤ vatN a (mg a b k).1 then 1 else 0), (mg a b k).2.2 + (if vatN a (mg a b k).1 = vatN b (mg a b k).2.1 then 1 else 0))
def bth (a b : WW) : Nat := (mg a b (a.1 + b.1)).2.2
def eit (a b : WW) : Nat := a.1 + b.1 - bth a b
theorem mg_in {a b : WW} (ha : ∀ j, j < a.1 → a.2.1 j < 1000003) (hb : ∀ j, j < b.1 → b.2.1 j < 1000003) : ∀ k, (mg a b k).1 ≤ a.1 ∧ (mg a b k).2.1 ≤ b.1 ∧ (mg a b k).2.2 ≤ (mg a b k).1 ∧ (mg a b k).2.2 ≤ (mg a b k).2.1 ∧ ((mg a b k).1 + (mg a b k).2.1 = k + (mg a b k).2.2 ∨ ((mg a b k).1 = a.1 ∧ (mg a b k).2.1 = b.1 ∧ a.1 + b.1 ≤ k + (mg a b k).2.2))
  | 0 => ⟨Nat.zero_le _, Nat.zero_le _, Nat.le_refl _, Nat.le_refl _, Or.inl rfl⟩
  | k + 1 => by
    have h := mg_in ha hb k
    have e1 := vatN_end ha (mg a b k).1
    have e2 := vatN_end hb (mg a b k).2.1
    have l1 := vatN_le ha (mg a b k).1
    have l2 := vatN_le hb (mg a b k).2.1
    unfold mg
    split
    · omega
    · dsimp only
      split <;> split <;> split <;> omega
theorem mg_end {a b : WW} (ha : ∀ j, j < a.1 → a.2.1 j < 1000003) (hb : ∀ j, j < b.1 → b.2.1 j < 1000003) {k : Nat} (h1 : (mg a b k).1 = a.1) (h2 : (mg a b k).2.1 = b.1) : ∀ d, mg a b (k + d) = mg a b k
  | 0 => rfl
  | d + 1 => by
    have h := mg_end ha hb h1 h2 d
    show mg a b (k + d + 1) = _
    rw [mg, h, if_pos ⟨(vatN_end ha _).mpr (by omega), (vatN_end hb _).mpr (by omega)⟩]
theorem mg_fin {a b : WW} (ha : ∀ j, j < a.1 → a.2.1 j < 1000003) (hb : ∀ j, j < b.1 → b.2.1 j < 1000003) {k : Nat} (h1 : a.1 ≤ (mg a b k).1) (h2 : b.1 ≤ (mg a b k).2.1) (h3 : (mg a b k).1 + (mg a b k).2.1 = k + (mg a b k).2.2) : (mg a b k).2.2 = bth a b ∧ k = eit a b := by
  have h := mg_in ha hb k
  have e : mg a b (a.1 + b.1) = mg a b k := by
    have := mg_end ha hb (k := k) (by omega) (by omega) (a.1 + b.1 - k)
    rw [show k + (a.1 + b.1 - k) = a.1 + b.1 from by omega] at this
    exact this
  have e2 : (mg a b k).2.2 = bth a b := by unfold bth; rw [e]
  exact ⟨e2, by unfold eit; omega⟩
end WRD
end
section
section XW1
theorem vatN_hit {w : WW} {k x : Nat} (h : vatN w k = x) (hx : x < 1000003) : k < w.1 ∧ w.2.1 k = x := by
  unfold vatN at h
  split at h
  · exact ⟨by assumption, h⟩
  · omega
theorem vatN_no {w : WW} {k x : Nat} (h : ¬ vatN w k = x) : ¬ (k < w.1 ∧ w.2.1 k = x) := by
  intro q
  apply h
  unfold vatN
  rw [if_pos q.1, q.2]
set_option maxHeartbeats 4000000 in
set_option maxRecDepth 100000 in
/-- valueAt(z) -/
theorem c_X2_valueAt (G : va_G) (tc : Nat → ClassId) (l : Launch) (ad : Nat → Nat) (N : Nat) (f : Nat → va_E) (i : Nat) (w : WW) (hw : isWd tc ad f i w) (hi : i + 4 ≤ N) (hw64 : w.1 ≤ 64) (hv : ∀ j, j < w.1 → w.2.1 j < 1000003) (z : Int) (hz : inR z)   : Ct G tc l yX2_valueAt wsX2_valueAt { frames := 0, cells := 0, slots := 0, locals := 0 } 0 0 [.ref (ad (i)), .int (iI (z))] ad N f (poI ad N (vat w z) (fun f' => f' = f)) := by
  obtain ⟨wv, wc, wt, g0, g1, g2, g3, gw⟩ := id hw
  refine stI (cc := cX2_valueAt) (maxL := 2) (lv := [(0, .ref (ad (i))), (1, .int (iI (z)))]) (by decide) rfl (Nat.le_of_ble_eq_true rfl) rfl (fun X C hret => ?_)
  have m0 : Cond.constant RX2 46 (1000003) ∈ wsX2_valueAt := by decide +kernel
  have m1 : Cond.fieldLink RX2 21 "WordSamples$Words" "size" "I" ∈ wsX2_valueAt := by decide +kernel
  have m2 : ∀ w ∈ wsX20, w ∈ wsX2_valueAt := by decide +kernel
  have m3 : Cond.fieldLink RX2 9 "WordSamples$Words" "values" "[I" ∈ wsX2_valueAt := by decide +kernel
  refine r_iload_n C dX2_valueAt_0 rfl rfl ?_
  refine r_if_lt (tgt := 21) C ⟨by omega, by omega⟩ dX2_valueAt_1 (by decide) (fun b1 => ?_) (fun b1 => ?_)
  · refine r_ldc C ((1000003 : Nat) : Int) (by decide) m0 dX2_valueAt_21 ?_
    exact hret f ((1000003 : Nat) : Int) _ _ dX2_valueAt_23 (by unfold vat; rw [if_neg (by omega)]; rfl) rfl
  · refine r_iload_n C dX2_valueAt_4 rfl rfl ?_
    refine r_aload_n C dX2_valueAt_5 rfl rfl ?_
    refine r_get (v := .int (iI ((w.1 : Nat) : Int))) C (by omega) g0 (show vwCl[2]? = some (RX2, TX2, 4) from rfl) m2 3 (by decide) m1 rfl rfl dX2_valueAt_6 ?_
    refine r_icmp_ge (tgt := 21) C ⟨by omega, by omega⟩ ⟨by omega, by omega⟩ dX2_valueAt_9 (by decide) (fun b2 => ?_) (fun b2 => ?_)
    · refine r_ldc C ((1000003 : Nat) : Int) (by decide) m0 dX2_valueAt_21 ?_
      exact hret f ((1000003 : Nat) : Int) _ _ dX2_valueAt_23 (by unfold vat; rw [if_neg (by omega)]; rfl) rfl
    · refine r_aload_n C dX2_valueAt_12 rfl rfl ?_
      refine r_get (v := .ref (ad (i + 1))) C (by omega) g0 (show vwCl[2]? = some (RX2, TX2, 4) from rfl) m2 0 (by decide) m3 rfl rfl dX2_valueAt_13 ?_
      refine r_iload_n C dX2_valueAt_16 rfl rfl ?_
      refine r_iald (x := (iI ((w.2.1 z.toNat : Nat) : Int))) C (by omega) g1 (z.toNat) (by omega) (by omega) (Nat.le_of_ble_eq_true rfl) ((gw _ (by omega)).1) dX2_valueAt_17 ?_
      refine r_goto (tgt := 23) C dX2_valueAt_18 (by decide) ?_
      exact hret f ((w.2.1 z.toNat : Nat) : Int) _ _ dX2_valueAt_23 (by unfold vat; rw [if_pos (by omega)]) rfl
set_option maxHeartbeats 4000000 in
set_option maxRecDepth 100000 in
/-- codeAt(signs, st, wd) -/
theorem c_X2_codeAt (G : va_G) (tc : Nat → ClassId) (l : Launch) (ad : Nat → Nat) (N : Nat) (f : Nat → va_E) (sx : Nat) (gs : Nat → Nat) (st wd : Nat) (hx : sx < N) (hc : f sx = eI tc 640 (fun j => iI ((gs j : Nat) : Int))) (h1 : st + wd ≤ 640) (h2 : wd ≤ 4)   : Ct G tc l yX2_codeAt wsX2_codeAt { frames := 0, cells := 0, slots := 0, locals := 0 } 0 0 [.ref (ad (sx)), .int (iI ((st : Nat) : Int)), .int (iI ((wd : Nat) : Int))] ad N f (poI ad N (((cod gs st wd : Nat) : Int)) (fun f' => f' = f)) := by
  refine stI (cc := cX2_codeAt) (maxL := 5) (lv := [(0, .ref (ad (sx))), (1, .int (iI ((st : Nat) : Int))), (2, .int (iI ((wd : Nat) : Int)))]) (by decide) rfl (Nat.le_of_ble_eq_true rfl) rfl (fun X C hret => ?_)
  refine r_iconst C ((0 : Nat) : Int) (by decide) dX2_codeAt_0 ?_
  refine r_istore_n (lv' := [(0, .ref (ad (sx))), (1, .int (iI ((st : Nat) : Int))), (2, .int (iI ((wd : Nat) : Int))), (3, .int (iI ((0 : Nat) : Int)))]) C dX2_codeAt_1 rfl (by decide) rfl ?_
  refine r_iconst C ((0 : Nat) : Int) (by decide) dX2_codeAt_2 ?_
  refine r_istore (lv' := [(0, .ref (ad (sx))), (1, .int (iI ((st : Nat) : Int))), (2, .int (iI ((wd : Nat) : Int))), (3, .int (iI ((0 : Nat) : Int))), (4, .int (iI ((0 : Nat) : Int)))]) C dX2_codeAt_3 (by decide) rfl ?_
  have hL1 : ∀ (m_2 : Nat) (k : Nat) (hk : k ≤ wd), wd - k < m_2 → VV X ad N f 0 0 5 [(0, .ref (ad (sx))), (1, .int (iI ((st : Nat) : Int))), (2, .int (iI ((wd : Nat) : Int))), (3, .int (iI ((cod gs st k : Nat) : Int))), (4, .int (iI ((k : Nat) : Int)))] [] := by
    intro m_2
    induction m_2 with
    | zero => intros; omega
    | succ m_2 ih3 =>
      intro k hk hm4
      refine r_iload C dX2_codeAt_5 rfl ?_
      refine r_iload_n C dX2_codeAt_7 rfl rfl ?_
      refine r_icmp_ge (tgt := 29) C ⟨by omega, by omega⟩ ⟨by omega, by omega⟩ dX2_codeAt_8 (by decide) (fun b5 => ?_) (fun b5 => ?_)
      · refine r_iload_n C dX2_codeAt_29 rfl rfl ?_
        exact hret f ((cod gs st k : Nat) : Int) _ _ dX2_codeAt_30 (by rw [show k = wd from by omega]) rfl
      · refine r_iload_n C dX2_codeAt_11 rfl rfl ?_
        refine r_bipush C ((27 : Nat) : Int) (by decide) dX2_codeAt_12 ?_
        refine r_imul C (((cod gs st k) * 27 : Nat) : Int) (by omega) dX2_codeAt_14 ?_
        refine r_aload_n C dX2_codeAt_15 rfl rfl ?_
        refine r_iload_n C dX2_codeAt_16 rfl rfl ?_
        refine r_iload C dX2_codeAt_17 rfl ?_
        refine r_iadd C ((st + k : Nat) : Int) (by omega) dX2_codeAt_19 ?_
        refine r_iald (x := (iI ((gs (st + k) : Nat) : Int))) C (by omega) hc (st + k) rfl (by omega) (Nat.le_of_ble_eq_true rfl) (rfl) dX2_codeAt_20 ?_
        refine r_iadd C (((cod gs st k) * 27 + (gs (st + k)) : Nat) : Int) (by omega) dX2_codeAt_21 ?_
        refine r_istore_n (lv' := [(0, .ref (ad (sx))), (1, .int (iI ((st : Nat) : Int))), (2, .int (iI ((wd : Nat) : Int))), (3, .int (iI (((cod gs st k) * 27 + (gs (st + k)) : Nat) : Int))), (4, .int (iI ((k : Nat) : Int)))]) C dX2_codeAt_22 rfl (by decide) rfl ?_
        refine r_iinc (lv' := [(0, .ref (ad (sx))), (1, .int (iI ((st : Nat) : Int))), (2, .int (iI ((wd : Nat) : Int))), (3, .int (iI (((cod gs st k) * 27 + (gs (st + k)) : Nat) : Int))), (4, .int (iI ((k + 1 : Nat) : Int)))]) C ((k + 1 : Nat) : Int) (by omega) dX2_codeAt_23 rfl (by decide) rfl ?_
        refine r_goto (tgt := 5) C dX2_codeAt_26 (by decide) ?_
        exact ih3 (k + 1) (by omega) (by omega)
  exact hL1 _ 0 (by omega) (Nat.lt_succ_self _)
set_option maxHeartbeats 4000000 in
set_option maxRecDepth 100000 in
/-- enter(c, x): a word comes to its place, or counts once more -/
theorem c_X2_enter (G : va_G) (tc : Nat → ClassId) (l : Launch) (ad : Nat → Nat) (N : Nat) (f : Nat → va_E) (i : Nat) (w : WW) (hw : isWd tc ad f i w) (hi : i + 4 ≤ N) (hw64 : w.1 ≤ 63) (hv : ∀ j, j < w.1 → w.2.1 j < 1000003) (c x : Nat) (hx : x < 1000003)   : Ct G tc l yX2_enter wsX2_enter { frames := 1, cells := 0, slots := 0, locals := 21 } 0 0 [.ref (ad (i)), .int (iI ((c : Nat) : Int)), .int (iI ((x : Nat) : Int))] ad N f (poV ad N (fun f' => isWd tc ad f' i (ins w x c) ∧ ∀ q, (q < i ∨ i + 4 ≤ q) → f' q = f q)) := by
  obtain ⟨wv, wc, wt, g0, g1, g2, g3, gw⟩ := id hw
  refine stV (cc := cX2_enter) (maxL := 4) (lv := [(0, .ref (ad (i))), (1, .int (iI ((c : Nat) : Int))), (2, .int (iI ((x : Nat) : Int)))]) (by decide) rfl (Nat.le_of_ble_eq_true rfl) rfl (fun X C hret => ?_)
  have m0 : Cond.fieldLink RX2 21 "WordSamples$Words" "size" "I" ∈ wsX2_enter := by decide +kernel
  have m1 : ∀ w ∈ wsX20, w ∈ wsX2_enter := by decide +kernel
  have m2 : Cond.fieldLink RX2 9 "WordSamples$Words" "values" "[I" ∈ wsX2_enter := by decide +kernel
  have m3 : Cond.methodLink RX2 51 arraycopyName ∈ wsX2_enter := by decide +kernel
  have m4 : Cond.native arraycopyName ∈ wsX2_enter := by decide +kernel
  have m5 : Cond.static arraycopyName ∈ wsX2_enter := by decide +kernel
  have m6 : Cond.initialized "java/lang/System" ∈ wsX2_enter := by decide +kernel
  have m7 : Cond.fieldLink RX2 15 "WordSamples$Words" "codes" "[I" ∈ wsX2_enter := by decide +kernel
  have m8 : Cond.fieldLink RX2 18 "WordSamples$Words" "times" "[I" ∈ wsX2_enter := by decide +kernel
  refine r_iconst C ((0 : Nat) : Int) (by decide) dX2_enter_0 ?_
  refine r_istore_n (lv' := [(0, .ref (ad (i))), (1, .int (iI ((c : Nat) : Int))), (2, .int (iI ((x : Nat) : Int))), (3, .int (iI ((0 : Nat) : Int)))]) C dX2_enter_1 rfl (by decide) rfl ?_
  have hL1 : ∀ (m_2 : Nat) (k : Nat) (hk : k ≤ w.1) (hlt : ∀ j, j < k → w.2.1 j < x), w.1 - k < m_2 → VV X ad N f 0 0 2 [(0, .ref (ad (i))), (1, .int (iI ((c : Nat) : Int))), (2, .int (iI ((x : Nat) : Int))), (3, .int (iI ((k : Nat) : Int)))] [] := by
    intro m_2
    induction m_2 with
    | zero => intros; omega
    | succ m_2 ih3 =>
      intro k hk hlt hm4
      refine r_iload_n C dX2_enter_2 rfl rfl ?_
      refine r_aload_n C dX2_enter_3 rfl rfl ?_
      refine r_get (v := .int (iI ((w.1 : Nat) : Int))) C (by omega) g0 (show vwCl[2]? = some (RX2, TX2, 4) from rfl) m1 3 (by decide) m0 rfl rfl dX2_enter_4 ?_
      refine r_icmp_ge (tgt := 26) C ⟨by omega, by omega⟩ ⟨by omega, by omega⟩ dX2_enter_7 (by decide) (fun b5 => ?_) (fun b5 => ?_)
      · have hpos : posn w.2.1 x w.1 = k := posn_eq hk hlt (fun h => by omega)
        refine r_aload_n C dX2_enter_26 rfl rfl ?_
        refine r_iload_n C dX2_enter_27 rfl rfl ?_
        refine r_callV (As := [.int (iI ((k : Nat) : Int))]) (rest := []) (na := 1) C (c_X2_valueAt G tc l ad N _ i w hw hi (by omega) hv ((k : Nat) : Int) ⟨by omega, by omega⟩) gX2_enter_X2_valueAt rfl rfl rfl (by decide +kernel) ⟨Nat.le_of_ble_eq_true rfl, Nat.le_of_ble_eq_true rfl⟩ (by omega) g0 (show vwCl[2]? = some (RX2, TX2, 4) from rfl) rfl rfl (Nat.le_of_ble_eq_true rfl) dX2_enter_28 ⟨Nat.le_of_ble_eq_true rfl, Nat.le_of_ble_eq_true rfl⟩ (aft_I (fun f6 hF7 => ?_))
        rw [hF7]
        rw [show (.int (iI (vat w ((k : Nat) : Int))) : Value) = .int (iI ((vatN w k : Nat) : Int)) from by rw [vat_N]]
        have q1 := vatN_le hv k
        refine r_iload_n C dX2_enter_31 rfl rfl ?_
        refine r_icmp_ne (tgt := 46) C ⟨by omega, by omega⟩ ⟨by omega, by omega⟩ dX2_enter_32 (by decide) (fun b8 => ?_) (fun b8 => ?_)
        · have hn2 : ¬ (k < w.1 ∧ w.2.1 k = x) := vatN_no (by omega)
          refine r_aload_n C dX2_enter_46 rfl rfl ?_
          refine r_get (v := .int (iI ((w.1 : Nat) : Int))) C (by omega) g0 (show vwCl[2]? = some (RX2, TX2, 4) from rfl) m1 3 (by decide) m0 rfl rfl dX2_enter_47 ?_
          refine r_bipush C ((64 : Nat) : Int) (by decide) dX2_enter_50 ?_
          refine r_icmp_lt (tgt := 56) C ⟨by omega, by omega⟩ ⟨by omega, by omega⟩ dX2_enter_52 (by decide) (fun b9 => ?_) (fun b9 => False.elim (by omega))
          refine r_aload_n C dX2_enter_56 rfl rfl ?_
          refine r_get (v := .ref (ad (i + 1))) C (by omega) g0 (show vwCl[2]? = some (RX2, TX2, 4) from rfl) m1 0 (by decide) m2 rfl rfl dX2_enter_57 ?_
          refine r_iload_n C dX2_enter_60 rfl rfl ?_
          refine r_aload_n C dX2_enter_61 rfl rfl ?_
          refine r_get (v := .ref (ad (i + 1))) C (by omega) g0 (show vwCl[2]? = some (RX2, TX2, 4) from rfl) m1 0 (by decide) m2 rfl rfl dX2_enter_62 ?_
          refine r_iload_n C dX2_enter_65 rfl rfl ?_
          refine r_iconst C ((1 : Nat) : Int) (by decide) dX2_enter_66 ?_
          refine r_iadd C ((k + 1 : Nat) : Int) (by omega) dX2_enter_67 ?_
          refine r_aload_n C dX2_enter_68 rfl rfl ?_
          refine r_get (v := .int (iI ((w.1 : Nat) : Int))) C (by omega) g0 (show vwCl[2]? = some (RX2, TX2, 4) from rfl) m1 3 (by decide) m0 rfl rfl dX2_enter_69 ?_
          refine r_iload_n C dX2_enter_72 rfl rfl ?_
          refine r_isub C ((w.1 - k : Nat) : Int) (by omega) dX2_enter_73 ?_
          refine r_acp C ⟨m3, m4, m5, m6⟩ (Nat.le_of_ble_eq_true rfl) (by decide) (by omega) g1 (by omega) g1 (k) (k + 1) (w.1 - k) rfl rfl rfl (by omega) (by omega) (Nat.le_of_ble_eq_true rfl) (Nat.le_of_ble_eq_true rfl) dX2_enter_74 (fun f10 hs11 ho12 => ?_)
          refine r_aload_n C dX2_enter_77 rfl rfl ?_
          have c13 : f10 (i) = eO 2 [.ref (ad (i + 1)), .ref (ad (i + 2)), .ref (ad (i + 3)), .int (iI ((w.1 : Nat) : Int))] := (ho12 _ (by omega)).trans g0
          refine r_get (v := .ref (ad (i + 2))) C (by omega) c13 (show vwCl[2]? = some (RX2, TX2, 4) from rfl) m1 1 (by decide) m7 rfl rfl dX2_enter_78 ?_
          refine r_iload_n C dX2_enter_81 rfl rfl ?_
          refine r_aload_n C dX2_enter_82 rfl rfl ?_
          refine r_get (v := .ref (ad (i + 2))) C (by omega) c13 (show vwCl[2]? = some (RX2, TX2, 4) from rfl) m1 1 (by decide) m7 rfl rfl dX2_enter_83 ?_
          refine r_iload_n C dX2_enter_86 rfl rfl ?_
          refine r_iconst C ((1 : Nat) : Int) (by decide) dX2_enter_87 ?_
          refine r_iadd C ((k + 1 : Nat) : Int) (by omega) dX2_enter_88 ?_
          refine r_aload_n C dX2_enter_89 rfl rfl ?_
          refine r_get (v := .int (iI ((w.1 : Nat) : Int))) C (by omega) c13 (show vwCl[2]? = some (RX2, TX2, 4) from rfl) m1 3 (by decide) m0 rfl rfl dX2_enter_90 ?_
          refine r_iload_n C dX2_enter_93 rfl rfl ?_
          refine r_isub C ((w.1 - k : Nat) : Int) (by omega) dX2_enter_94 ?_
          have c14 : f10 (i + 2) = eI tc 64 (wc) := (ho12 _ (by omega)).trans g2
          refine r_acp C ⟨m3, m4, m5, m6⟩ (Nat.le_of_ble_eq_true rfl) (by decide) (by omega) c14 (by omega) c14 (k) (k + 1) (w.1 - k) rfl rfl rfl (by omega) (by omega) (Nat.le_of_ble_eq_true rfl) (Nat.le_of_ble_eq_true rfl) dX2_enter_95 (fun f15 hs16 ho17 => ?_)
          refine r_aload_n C dX2_enter_98 rfl rfl ?_
          have c18 : f15 (i) = eO 2 [.ref (ad (i + 1)), .ref (ad (i + 2)), .ref (ad (i + 3)), .int (iI ((w.1 : Nat) : Int))] := (ho17 _ (by omega)).trans c13
          refine r_get (v := .ref (ad (i + 3))) C (by omega) c18 (show vwCl[2]? = some (RX2, TX2, 4) from rfl) m1 2 (by decide) m8 rfl rfl dX2_enter_99 ?_
          refine r_iload_n C dX2_enter_102 rfl rfl ?_
          refine r_aload_n C dX2_enter_103 rfl rfl ?_
          refine r_get (v := .ref (ad (i + 3))) C (by omega) c18 (show vwCl[2]? = some (RX2, TX2, 4) from rfl) m1 2 (by decide) m8 rfl rfl dX2_enter_104 ?_
          refine r_iload_n C dX2_enter_107 rfl rfl ?_
          refine r_iconst C ((1 : Nat) : Int) (by decide) dX2_enter_108 ?_
          refine r_iadd C ((k + 1 : Nat) : Int) (by omega) dX2_enter_109 ?_
          refine r_aload_n C dX2_enter_110 rfl rfl ?_
          refine r_get (v := .int (iI ((w.1 : Nat) : Int))) C (by omega) c18 (show vwCl[2]? = some (RX2, TX2, 4) from rfl) m1 3 (by decide) m0 rfl rfl dX2_enter_111 ?_
          refine r_iload_n C dX2_enter_114 rfl rfl ?_
          refine r_isub C ((w.1 - k : Nat) : Int) (by omega) dX2_enter_115 ?_
          have c19 : f10 (i + 3) = eI tc 64 (wt) := (ho12 _ (by omega)).trans g3
          have c20 : f15 (i + 3) = eI tc 64 (wt) := (ho17 _ (by omega)).trans c19
          refine r_acp C ⟨m3, m4, m5, m6⟩ (Nat.le_of_ble_eq_true rfl) (by decide) (by omega) c20 (by omega) c20 (k) (k + 1) (w.1 - k) rfl rfl rfl (by omega) (by omega) (Nat.le_of_ble_eq_true rfl) (Nat.le_of_ble_eq_true rfl) dX2_enter_116 (fun f21 hs22 ho23 => ?_)
          refine r_aload_n C dX2_enter_119 rfl rfl ?_
          have c24 : f21 (i) = eO 2 [.ref (ad (i + 1)), .ref (ad (i + 2)), .ref (ad (i + 3)), .int (iI ((w.1 : Nat) : Int))] := (ho23 _ (by omega)).trans c18
          refine r_get (v := .ref (ad (i + 1))) C (by omega) c24 (show vwCl[2]? = some (RX2, TX2, 4) from rfl) m1 0 (by decide) m2 rfl rfl dX2_enter_120 ?_
          refine r_iload_n C dX2_enter_123 rfl rfl ?_
          refine r_iload_n C dX2_enter_124 rfl rfl ?_
          have c25 : f15 (i + 1) = eI tc 64 (va_cpy (wv) (wv) (k) (k + 1) (w.1 - k)) := (ho17 _ (by omega)).trans hs11
          have c26 : f21 (i + 1) = eI tc 64 (va_cpy (wv) (wv) (k) (k + 1) (w.1 - k)) := (ho23 _ (by omega)).trans c25
          refine r_iast C (by omega) c26 (k) rfl (by omega) (Nat.le_of_ble_eq_true rfl) dX2_enter_125 (fun f27 hs28 ho29 => ?_)
          refine r_aload_n C dX2_enter_126 rfl rfl ?_
          have c30 : f27 (i) = eO 2 [.ref (ad (i + 1)), .ref (ad (i + 2)), .ref (ad (i + 3)), .int (iI ((w.1 : Nat) : Int))] := (ho29 _ (by omega)).trans c24
          refine r_get (v := .ref (ad (i + 2))) C (by omega) c30 (show vwCl[2]? = some (RX2, TX2, 4) from rfl) m1 1 (by decide) m7 rfl rfl dX2_enter_127 ?_
          refine r_iload_n C dX2_enter_130 rfl rfl ?_
          refine r_iload_n C dX2_enter_131 rfl rfl ?_
          have c31 : f21 (i + 2) = eI tc 64 (va_cpy (wc) (wc) (k) (k + 1) (w.1 - k)) := (ho23 _ (by omega)).trans hs16
          have c32 : f27 (i + 2) = eI tc 64 (va_cpy (wc) (wc) (k) (k + 1) (w.1 - k)) := (ho29 _ (by omega)).trans c31
          refine r_iast C (by omega) c32 (k) rfl (by omega) (Nat.le_of_ble_eq_true rfl) dX2_enter_132 (fun f33 hs34 ho35 => ?_)
          refine r_aload_n C dX2_enter_133 rfl rfl ?_
          have c36 : f33 (i) = eO 2 [.ref (ad (i + 1)), .ref (ad (i + 2)), .ref (ad (i + 3)), .int (iI ((w.1 : Nat) : Int))] := (ho35 _ (by omega)).trans c30
          refine r_get (v := .ref (ad (i + 3))) C (by omega) c36 (show vwCl[2]? = some (RX2, TX2, 4) from rfl) m1 2 (by decide) m8 rfl rfl dX2_enter_134 ?_
          refine r_iload_n C dX2_enter_137 rfl rfl ?_
          refine r_iconst C ((1 : Nat) : Int) (by decide) dX2_enter_138 ?_
          have c37 : f27 (i + 3) = eI tc 64 (va_cpy (wt) (wt) (k) (k + 1) (w.1 - k)) := (ho29 _ (by omega)).trans hs22
          have c38 : f33 (i + 3) = eI tc 64 (va_cpy (wt) (wt) (k) (k + 1) (w.1 - k)) := (ho35 _ (by omega)).trans c37
          refine r_iast C (by omega) c38 (k) rfl (by omega) (Nat.le_of_ble_eq_true rfl) dX2_enter_139 (fun f39 hs40 ho41 => ?_)
          refine r_aload_n C dX2_enter_140 rfl rfl ?_
          refine r_dup C dX2_enter_141 rfl ?_
          have c42 : f39 (i) = eO 2 [.ref (ad (i + 1)), .ref (ad (i + 2)), .ref (ad (i + 3)), .int (iI ((w.1 : Nat) : Int))] := (ho41 _ (by omega)).trans c36
          refine r_get (v := .int (iI ((w.1 : Nat) : Int))) C (by omega) c42 (show vwCl[2]? = some (RX2, TX2, 4) from rfl) m1 3 (by decide) m0 rfl rfl dX2_enter_142 ?_
          refine r_iconst C ((1 : Nat) : Int) (by decide) dX2_enter_145 ?_
          refine r_iadd C ((w.1 + 1 : Nat) : Int) (by omega) dX2_enter_146 ?_
          refine r_put (ty := .int) C (by omega) c42 (show vwCl[2]? = some (RX2, TX2, 4) from rfl) m1 tyX2_ok nmX2 3 (by decide) m0 rfl rfl (by decide +kernel) rfl rfl (Nat.le_of_ble_eq_true rfl) dX2_enter_147 (fun f43 hs44 ho45 => ?_)
          have c46 : f43 (i) = eO 2 [.ref (ad (i + 1)), .ref (ad (i + 2)), .ref (ad (i + 3)), .int (iI ((w.1 + 1 : Nat) : Int))] := hs44
          have c47 : f33 (i + 1) = eI tc 64 (upd (va_cpy (wv) (wv) (k) (k + 1) (w.1 - k)) (k) ((iI ((x : Nat) : Int)))) := (ho35 _ (by omega)).trans hs28
          have c48 : f39 (i + 1) = eI tc 64 (upd (va_cpy (wv) (wv) (k) (k + 1) (w.1 - k)) (k) ((iI ((x : Nat) : Int)))) := (ho41 _ (by omega)).trans c47
          have c49 : f43 (i + 1) = eI tc 64 (upd (va_cpy (wv) (wv) (k) (k + 1) (w.1 - k)) (k) ((iI ((x : Nat) : Int)))) := (ho45 _ (by omega)).trans c48
          have c50 : f39 (i + 2) = eI tc 64 (upd (va_cpy (wc) (wc) (k) (k + 1) (w.1 - k)) (k) ((iI ((c : Nat) : Int)))) := (ho41 _ (by omega)).trans hs34
          have c51 : f43 (i + 2) = eI tc 64 (upd (va_cpy (wc) (wc) (k) (k + 1) (w.1 - k)) (k) ((iI ((c : Nat) : Int)))) := (ho45 _ (by omega)).trans c50
          have c52 : f43 (i + 3) = eI tc 64 (upd (va_cpy (wt) (wt) (k) (k + 1) (w.1 - k)) (k) ((iI ((1 : Nat) : Int)))) := (ho45 _ (by omega)).trans hs40
          exact hret f43 _ _ dX2_enter_150 (⟨wd_new c46 c49 c51 c52 gw hpos hn2, fun q hq => (((((((ho45 _ (by omega))).trans (ho41 _ (by omega))).trans (ho35 _ (by omega))).trans (ho29 _ (by omega))).trans (ho23 _ (by omega))).trans (ho17 _ (by omega))).trans (ho12 _ (by omega))⟩)
        · have hk2 := vatN_hit (w := w) (k := k) (x := x) (by omega) hx
          refine r_aload_n C dX2_enter_35 rfl rfl ?_
          refine r_get (v := .ref (ad (i + 3))) C (by omega) g0 (show vwCl[2]? = some (RX2, TX2, 4) from rfl) m1 2 (by decide) m8 rfl rfl dX2_enter_36 ?_
          refine r_iload_n C dX2_enter_39 rfl rfl ?_
          refine r_dup2 C dX2_enter_40 rfl rfl ?_
          refine r_iald (x := (iI ((w.2.2.2 k : Nat) : Int))) C (by omega) g3 (k) rfl (by omega) (Nat.le_of_ble_eq_true rfl) ((gw _ hk2.1).2.2) dX2_enter_41 ?_
          refine r_iconst C ((1 : Nat) : Int) (by decide) dX2_enter_42 ?_
          refine r_iadd C ((w.2.2.2 k + 1 : Nat) : Int) (by omega) dX2_enter_43 ?_
          refine r_iast C (by omega) g3 (k) rfl (by omega) (Nat.le_of_ble_eq_true rfl) dX2_enter_44 (fun f53 hs54 ho55 => ?_)
          have c56 : f53 (i) = eO 2 [.ref (ad (i + 1)), .ref (ad (i + 2)), .ref (ad (i + 3)), .int (iI ((w.1 : Nat) : Int))] := (ho55 _ (by omega)).trans g0
          have c57 : f53 (i + 1) = eI tc 64 (wv) := (ho55 _ (by omega)).trans g1
          have c58 : f53 (i + 2) = eI tc 64 (wc) := (ho55 _ (by omega)).trans g2
          exact hret f53 _ _ dX2_enter_45 (⟨wd_hit c56 c57 c58 hs54 gw hpos hk2.1 hk2.2, fun q hq => (ho55 _ (by omega))⟩)
      · refine r_aload_n C dX2_enter_10 rfl rfl ?_
        refine r_get (v := .ref (ad (i + 1))) C (by omega) g0 (show vwCl[2]? = some (RX2, TX2, 4) from rfl) m1 0 (by decide) m2 rfl rfl dX2_enter_11 ?_
        refine r_iload_n C dX2_enter_14 rfl rfl ?_
        have hvk := hv k (by omega)
        refine r_iald (x := (iI ((w.2.1 k : Nat) : Int))) C (by omega) g1 (k) rfl (by omega) (Nat.le_of_ble_eq_true rfl) ((gw _ (by omega)).1) dX2_enter_15 ?_
        refine r_iload_n C dX2_enter_16 rfl rfl ?_
        refine r_icmp_ge (tgt := 26) C ⟨by omega, by omega⟩ ⟨by omega, by omega⟩ dX2_enter_17 (by decide) (fun b59 => ?_) (fun b59 => ?_)
        · have hpos : posn w.2.1 x w.1 = k := posn_eq hk hlt (fun h => by omega)
          refine r_aload_n C dX2_enter_26 rfl rfl ?_
          refine r_iload_n C dX2_enter_27 rfl rfl ?_
          refine r_callV (As := [.int (iI ((k : Nat) : Int))]) (rest := []) (na := 1) C (c_X2_valueAt G tc l ad N _ i w hw hi (by omega) hv ((k : Nat) : Int) ⟨by omega, by omega⟩) gX2_enter_X2_valueAt rfl rfl rfl (by decide +kernel) ⟨Nat.le_of_ble_eq_true rfl, Nat.le_of_ble_eq_true rfl⟩ (by omega) g0 (show vwCl[2]? = some (RX2, TX2, 4) from rfl) rfl rfl (Nat.le_of_ble_eq_true rfl) dX2_enter_28 ⟨Nat.le_of_ble_eq_true rfl, Nat.le_of_ble_eq_true rfl⟩ (aft_I (fun f60 hF61 => ?_))
          rw [hF61]
          rw [show (.int (iI (vat w ((k : Nat) : Int))) : Value) = .int (iI ((vatN w k : Nat) : Int)) from by rw [vat_N]]
          have q1 := vatN_le hv k
          refine r_iload_n C dX2_enter_31 rfl rfl ?_
          refine r_icmp_ne (tgt := 46) C ⟨by omega, by omega⟩ ⟨by omega, by omega⟩ dX2_enter_32 (by decide) (fun b62 => ?_) (fun b62 => ?_)
          · have hn2 : ¬ (k < w.1 ∧ w.2.1 k = x) := vatN_no (by omega)
            refine r_aload_n C dX2_enter_46 rfl rfl ?_
            refine r_get (v := .int (iI ((w.1 : Nat) : Int))) C (by omega) g0 (show vwCl[2]? = some (RX2, TX2, 4) from rfl) m1 3 (by decide) m0 rfl rfl dX2_enter_47 ?_
            refine r_bipush C ((64 : Nat) : Int) (by decide) dX2_enter_50 ?_
            refine r_icmp_lt (tgt := 56) C ⟨by omega, by omega⟩ ⟨by omega, by omega⟩ dX2_enter_52 (by decide) (fun b63 => ?_) (fun b63 => False.elim (by omega))
            refine r_aload_n C dX2_enter_56 rfl rfl ?_
            refine r_get (v := .ref (ad (i + 1))) C (by omega) g0 (show vwCl[2]? = some (RX2, TX2, 4) from rfl) m1 0 (by decide) m2 rfl rfl dX2_enter_57 ?_
            refine r_iload_n C dX2_enter_60 rfl rfl ?_
            refine r_aload_n C dX2_enter_61 rfl rfl ?_
            refine r_get (v := .ref (ad (i + 1))) C (by omega) g0 (show vwCl[2]? = some (RX2, TX2, 4) from rfl) m1 0 (by decide) m2 rfl rfl dX2_enter_62 ?_
            refine r_iload_n C dX2_enter_65 rfl rfl ?_
            refine r_iconst C ((1 : Nat) : Int) (by decide) dX2_enter_66 ?_
            refine r_iadd C ((k + 1 : Nat) : Int) (by omega) dX2_enter_67 ?_
            refine r_aload_n C dX2_enter_68 rfl rfl ?_
            refine r_get (v := .int (iI ((w.1 : Nat) : Int))) C (by omega) g0 (show vwCl[2]? = some (RX2, TX2, 4) from rfl) m1 3 (by decide) m0 rfl rfl dX2_enter_69 ?_
            refine r_iload_n C dX2_enter_72 rfl rfl ?_
            refine r_isub C ((w.1 - k : Nat) : Int) (by omega) dX2_enter_73 ?_
            refine r_acp C ⟨m3, m4, m5, m6⟩ (Nat.le_of_ble_eq_true rfl) (by decide) (by omega) g1 (by omega) g1 (k) (k + 1) (w.1 - k) rfl rfl rfl (by omega) (by omega) (Nat.le_of_ble_eq_true rfl) (Nat.le_of_ble_eq_true rfl) dX2_enter_74 (fun f64 hs65 ho66 => ?_)
            refine r_aload_n C dX2_enter_77 rfl rfl ?_
            have c67 : f64 (i) = eO 2 [.ref (ad (i + 1)), .ref (ad (i + 2)), .ref (ad (i + 3)), .int (iI ((w.1 : Nat) : Int))] := (ho66 _ (by omega)).trans g0
            refine r_get (v := .ref (ad (i + 2))) C (by omega) c67 (show vwCl[2]? = some (RX2, TX2, 4) from rfl) m1 1 (by decide) m7 rfl rfl dX2_enter_78 ?_
            refine r_iload_n C dX2_enter_81 rfl rfl ?_
            refine r_aload_n C dX2_enter_82 rfl rfl ?_
            refine r_get (v := .ref (ad (i + 2))) C (by omega) c67 (show vwCl[2]? = some (RX2, TX2, 4) from rfl) m1 1 (by decide) m7 rfl rfl dX2_enter_83 ?_
            refine r_iload_n C dX2_enter_86 rfl rfl ?_
            refine r_iconst C ((1 : Nat) : Int) (by decide) dX2_enter_87 ?_
            refine r_iadd C ((k + 1 : Nat) : Int) (by omega) dX2_enter_88 ?_
            refine r_aload_n C dX2_enter_89 rfl rfl ?_
            refine r_get (v := .int (iI ((w.1 : Nat) : Int))) C (by omega) c67 (show vwCl[2]? = some (RX2, TX2, 4) from rfl) m1 3 (by decide) m0 rfl rfl dX2_enter_90 ?_
            refine r_iload_n C dX2_enter_93 rfl rfl ?_
            refine r_isub C ((w.1 - k : Nat) : Int) (by omega) dX2_enter_94 ?_
            have c68 : f64 (i + 2) = eI tc 64 (wc) := (ho66 _ (by omega)).trans g2
            refine r_acp C ⟨m3, m4, m5, m6⟩ (Nat.le_of_ble_eq_true rfl) (by decide) (by omega) c68 (by omega) c68 (k) (k + 1) (w.1 - k) rfl rfl rfl (by omega) (by omega) (Nat.le_of_ble_eq_true rfl) (Nat.le_of_ble_eq_true rfl) dX2_enter_95 (fun f69 hs70 ho71 => ?_)
            refine r_aload_n C dX2_enter_98 rfl rfl ?_
            have c72 : f69 (i) = eO 2 [.ref (ad (i + 1)), .ref (ad (i + 2)), .ref (ad (i + 3)), .int (iI ((w.1 : Nat) : Int))] := (ho71 _ (by omega)).trans c67
            refine r_get (v := .ref (ad (i + 3))) C (by omega) c72 (show vwCl[2]? = some (RX2, TX2, 4) from rfl) m1 2 (by decide) m8 rfl rfl dX2_enter_99 ?_
            refine r_iload_n C dX2_enter_102 rfl rfl ?_
            refine r_aload_n C dX2_enter_103 rfl rfl ?_
            refine r_get (v := .ref (ad (i + 3))) C (by omega) c72 (show vwCl[2]? = some (RX2, TX2, 4) from rfl) m1 2 (by decide) m8 rfl rfl dX2_enter_104 ?_
            refine r_iload_n C dX2_enter_107 rfl rfl ?_
            refine r_iconst C ((1 : Nat) : Int) (by decide) dX2_enter_108 ?_
            refine r_iadd C ((k + 1 : Nat) : Int) (by omega) dX2_enter_109 ?_
            refine r_aload_n C dX2_enter_110 rfl rfl ?_
            refine r_get (v := .int (iI ((w.1 : Nat) : Int))) C (by omega) c72 (show vwCl[2]? = some (RX2, TX2, 4) from rfl) m1 3 (by decide) m0 rfl rfl dX2_enter_111 ?_
            refine r_iload_n C dX2_enter_114 rfl rfl ?_
            refine r_isub C ((w.1 - k : Nat) : Int) (by omega) dX2_enter_115 ?_
            have c73 : f64 (i + 3) = eI tc 64 (wt) := (ho66 _ (by omega)).trans g3
            have c74 : f69 (i + 3) = eI tc 64 (wt) := (ho71 _ (by omega)).trans c73
            refine r_acp C ⟨m3, m4, m5, m6⟩ (Nat.le_of_ble_eq_true rfl) (by decide) (by omega) c74 (by omega) c74 (k) (k + 1) (w.1 - k) rfl rfl rfl (by omega) (by omega) (Nat.le_of_ble_eq_true rfl) (Nat.le_of_ble_eq_true rfl) dX2_enter_116 (fun f75 hs76 ho77 => ?_)
            refine r_aload_n C dX2_enter_119 rfl rfl ?_
            have c78 : f75 (i) = eO 2 [.ref (ad (i + 1)), .ref (ad (i + 2)), .ref (ad (i + 3)), .int (iI ((w.1 : Nat) : Int))] := (ho77 _ (by omega)).trans c72
            refine r_get (v := .ref (ad (i + 1))) C (by omega) c78 (show vwCl[2]? = some (RX2, TX2, 4) from rfl) m1 0 (by decide) m2 rfl rfl dX2_enter_120 ?_
            refine r_iload_n C dX2_enter_123 rfl rfl ?_
            refine r_iload_n C dX2_enter_124 rfl rfl ?_
            have c79 : f69 (i + 1) = eI tc 64 (va_cpy (wv) (wv) (k) (k + 1) (w.1 - k)) := (ho71 _ (by omega)).trans hs65
            have c80 : f75 (i + 1) = eI tc 64 (va_cpy (wv) (wv) (k) (k + 1) (w.1 - k)) := (ho77 _ (by omega)).trans c79
            refine r_iast C (by omega) c80 (k) rfl (by omega) (Nat.le_of_ble_eq_true rfl) dX2_enter_125 (fun f81 hs82 ho83 => ?_)
            refine r_aload_n C dX2_enter_126 rfl rfl ?_
            have c84 : f81 (i) = eO 2 [.ref (ad (i + 1)), .ref (ad (i + 2)), .ref (ad (i + 3)), .int (iI ((w.1 : Nat) : Int))] := (ho83 _ (by omega)).trans c78
            refine r_get (v := .ref (ad (i + 2))) C (by omega) c84 (show vwCl[2]? = some (RX2, TX2, 4) from rfl) m1 1 (by decide) m7 rfl rfl dX2_enter_127 ?_
            refine r_iload_n C dX2_enter_130 rfl rfl ?_
            refine r_iload_n C dX2_enter_131 rfl rfl ?_
            have c85 : f75 (i + 2) = eI tc 64 (va_cpy (wc) (wc) (k) (k + 1) (w.1 - k)) := (ho77 _ (by omega)).trans hs70
            have c86 : f81 (i + 2) = eI tc 64 (va_cpy (wc) (wc) (k) (k + 1) (w.1 - k)) := (ho83 _ (by omega)).trans c85
            refine r_iast C (by omega) c86 (k) rfl (by omega) (Nat.le_of_ble_eq_true rfl) dX2_enter_132 (fun f87 hs88 ho89 => ?_)
            refine r_aload_n C dX2_enter_133 rfl rfl ?_
            have c90 : f87 (i) = eO 2 [.ref (ad (i + 1)), .ref (ad (i + 2)), .ref (ad (i + 3)), .int (iI ((w.1 : Nat) : Int))] := (ho89 _ (by omega)).trans c84
            refine r_get (v := .ref (ad (i + 3))) C (by omega) c90 (show vwCl[2]? = some (RX2, TX2, 4) from rfl) m1 2 (by decide) m8 rfl rfl dX2_enter_134 ?_
            refine r_iload_n C dX2_enter_137 rfl rfl ?_
            refine r_iconst C ((1 : Nat) : Int) (by decide) dX2_enter_138 ?_
            have c91 : f81 (i + 3) = eI tc 64 (va_cpy (wt) (wt) (k) (k + 1) (w.1 - k)) := (ho83 _ (by omega)).trans hs76
            have c92 : f87 (i + 3) = eI tc 64 (va_cpy (wt) (wt) (k) (k + 1) (w.1 - k)) := (ho89 _ (by omega)).trans c91
            refine r_iast C (by omega) c92 (k) rfl (by omega) (Nat.le_of_ble_eq_true rfl) dX2_enter_139 (fun f93 hs94 ho95 => ?_)
            refine r_aload_n C dX2_enter_140 rfl rfl ?_
            refine r_dup C dX2_enter_141 rfl ?_
            have c96 : f93 (i) = eO 2 [.ref (ad (i + 1)), .ref (ad (i + 2)), .ref (ad (i + 3)), .int (iI ((w.1 : Nat) : Int))] := (ho95 _ (by omega)).trans c90
            refine r_get (v := .int (iI ((w.1 : Nat) : Int))) C (by omega) c96 (show vwCl[2]? = some (RX2, TX2, 4) from rfl) m1 3 (by decide) m0 rfl rfl dX2_enter_142 ?_
            refine r_iconst C ((1 : Nat) : Int) (by decide) dX2_enter_145 ?_
            refine r_iadd C ((w.1 + 1 : Nat) : Int) (by omega) dX2_enter_146 ?_
            refine r_put (ty := .int) C (by omega) c96 (show vwCl[2]? = some (RX2, TX2, 4) from rfl) m1 tyX2_ok nmX2 3 (by decide) m0 rfl rfl (by decide +kernel) rfl rfl (Nat.le_of_ble_eq_true rfl) dX2_enter_147 (fun f97 hs98 ho99 => ?_)
            have c100 : f97 (i) = eO 2 [.ref (ad (i + 1)), .ref (ad (i + 2)), .ref (ad (i + 3)), .int (iI ((w.1 + 1 : Nat) : Int))] := hs98
            have c101 : f87 (i + 1) = eI tc 64 (upd (va_cpy (wv) (wv) (k) (k + 1) (w.1 - k)) (k) ((iI ((x : Nat) : Int)))) := (ho89 _ (by omega)).trans hs82
            have c102 : f93 (i + 1) = eI tc 64 (upd (va_cpy (wv) (wv) (k) (k + 1) (w.1 - k)) (k) ((iI ((x : Nat) : Int)))) := (ho95 _ (by omega)).trans c101
            have c103 : f97 (i + 1) = eI tc 64 (upd (va_cpy (wv) (wv) (k) (k + 1) (w.1 - k)) (k) ((iI ((x : Nat) : Int)))) := (ho99 _ (by omega)).trans c102
            have c104 : f93 (i + 2) = eI tc 64 (upd (va_cpy (wc) (wc) (k) (k + 1) (w.1 - k)) (k) ((iI ((c : Nat) : Int)))) := (ho95 _ (by omega)).trans hs88
            have c105 : f97 (i + 2) = eI tc 64 (upd (va_cpy (wc) (wc) (k) (k + 1) (w.1 - k)) (k) ((iI ((c : Nat) : Int)))) := (ho99 _ (by omega)).trans c104
            have c106 : f97 (i + 3) = eI tc 64 (upd (va_cpy (wt) (wt) (k) (k + 1) (w.1 - k)) (k) ((iI ((1 : Nat) : Int)))) := (ho99 _ (by omega)).trans hs94
            exact hret f97 _ _ dX2_enter_150 (⟨wd_new c100 c103 c105 c106 gw hpos hn2, fun q hq => (((((((ho99 _ (by omega))).trans (ho95 _ (by omega))).trans (ho89 _ (by omega))).trans (ho83 _ (by omega))).trans (ho77 _ (by omega))).trans (ho71 _ (by omega))).trans (ho66 _ (by omega))⟩)
          · have hk2 := vatN_hit (w := w) (k := k) (x := x) (by omega) hx
            refine r_aload_n C dX2_enter_35 rfl rfl ?_
            refine r_get (v := .ref (ad (i + 3))) C (by omega) g0 (show vwCl[2]? = some (RX2, TX2, 4) from rfl) m1 2 (by decide) m8 rfl rfl dX2_enter_36 ?_
            refine r_iload_n C dX2_enter_39 rfl rfl ?_
            refine r_dup2 C dX2_enter_40 rfl rfl ?_
            refine r_iald (x := (iI ((w.2.2.2 k : Nat) : Int))) C (by omega) g3 (k) rfl (by omega) (Nat.le_of_ble_eq_true rfl) ((gw _ hk2.1).2.2) dX2_enter_41 ?_
            refine r_iconst C ((1 : Nat) : Int) (by decide) dX2_enter_42 ?_
            refine r_iadd C ((w.2.2.2 k + 1 : Nat) : Int) (by omega) dX2_enter_43 ?_
            refine r_iast C (by omega) g3 (k) rfl (by omega) (Nat.le_of_ble_eq_true rfl) dX2_enter_44 (fun f107 hs108 ho109 => ?_)
            have c110 : f107 (i) = eO 2 [.ref (ad (i + 1)), .ref (ad (i + 2)), .ref (ad (i + 3)), .int (iI ((w.1 : Nat) : Int))] := (ho109 _ (by omega)).trans g0
            have c111 : f107 (i + 1) = eI tc 64 (wv) := (ho109 _ (by omega)).trans g1
            have c112 : f107 (i + 2) = eI tc 64 (wc) := (ho109 _ (by omega)).trans g2
            exact hret f107 _ _ dX2_enter_45 (⟨wd_hit c110 c111 c112 hs108 gw hpos hk2.1 hk2.2, fun q hq => (ho109 _ (by omega))⟩)
        · refine r_iinc (lv' := [(0, .ref (ad (i))), (1, .int (iI ((c : Nat) : Int))), (2, .int (iI ((x : Nat) : Int))), (3, .int (iI ((k + 1 : Nat) : Int)))]) C ((k + 1 : Nat) : Int) (by omega) dX2_enter_20 rfl (by decide) rfl ?_
          refine r_goto (tgt := 2) C dX2_enter_23 (by decide) ?_
          exact ih3 (k + 1) (by omega) (fun j hj => if h : j < k then hlt j h else (by have e : j = k := (by omega); rw [e]; omega)) (by omega)
  exact hL1 _ 0 (by omega) (fun j hj => absurd hj (Nat.not_lt_zero _)) (Nat.lt_succ_self _)
set_option maxHeartbeats 4000000 in
set_option maxRecDepth 100000 in
/-- gather(State, r): the words of row r -/
theorem c_X2_gather (G : va_G) (tc : Nat → ClassId) (l : Launch) (ad : Nat → Nat) (N : Nat) (f : Nat → va_E) (i : Nat) (w : WW) (hw : isWd tc ad f i w) (hi : i + 4 ≤ N) (sx : Nat) (n : NS) (hs : isSt tc ad f sx n) (hsx : sx + 4 ≤ i) (ho : okN n) (r : Nat) (hr : r < 10)   : Ct G tc l yX2_gather wsX2_gather { frames := 2, cells := 0, slots := 0, locals := 44 } 0 0 [.ref (ad (i)), .ref (ad (sx)), .int (iI ((r : Nat) : Int))] ad N f (poV ad N (fun f' => isWd tc ad f' i (wds n r) ∧ ∀ q, (q < i ∨ i + 4 ≤ q) → f' q = f q)) := by
  obtain ⟨wv0, wc0, wt0, g0, g1, g2, g3, gw0⟩ := id hw
  obtain ⟨s0, s1, s2, s3⟩ := id hs
  obtain ⟨⟨a1, a2⟩, ⟨a3, a4⟩, ⟨a5, a6⟩, a7, a8, a9, a10⟩ := id ho
  have q9 := a9 r hr
  refine stV (cc := cX2_gather) (maxL := 10) (lv := [(0, .ref (ad (i))), (1, .ref (ad (sx))), (2, .int (iI ((r : Nat) : Int)))]) (by decide) rfl (Nat.le_of_ble_eq_true rfl) rfl (fun X C hret => ?_)
  have m0 : Cond.fieldLink RX2 21 "WordSamples$Words" "size" "I" ∈ wsX2_gather := by decide +kernel
  have m1 : ∀ w ∈ wsX20, w ∈ wsX2_gather := by decide +kernel
  have m2 : Cond.fieldLink RX2 25 "WordSamples$State" "settings" "[I" ∈ wsX2_gather := by decide +kernel
  have m3 : ∀ w ∈ wsX10, w ∈ wsX2_gather := by decide +kernel
  have m4 : Cond.fieldLink RX2 30 "WordSamples$State" "lengths" "[I" ∈ wsX2_gather := by decide +kernel
  have m5 : Cond.fieldLink RX2 33 "WordSamples$State" "signs" "[I" ∈ wsX2_gather := by decide +kernel
  have m6 : Cond.constantLong RX2 40 (1000003) ∈ wsX2_gather := by decide +kernel
  refine r_aload_n C dX2_gather_0 rfl rfl ?_
  refine r_iconst C ((0 : Nat) : Int) (by decide) dX2_gather_1 ?_
  refine r_put (ty := .int) C (by omega) g0 (show vwCl[2]? = some (RX2, TX2, 4) from rfl) m1 tyX2_ok nmX2 3 (by decide) m0 rfl rfl (by decide +kernel) rfl rfl (Nat.le_of_ble_eq_true rfl) dX2_gather_2 (fun f1 hs2 ho3 => ?_)
  have c4 : f1 (i) = eO 2 [.ref (ad (i + 1)), .ref (ad (i + 2)), .ref (ad (i + 3)), .int (iI ((0 : Nat) : Int))] := hs2
  refine r_iload_n C dX2_gather_5 rfl rfl ?_
  refine r_bipush C ((64 : Nat) : Int) (by decide) dX2_gather_6 ?_
  refine r_imul C ((r * 64 : Nat) : Int) (by omega) dX2_gather_8 ?_
  refine r_istore_n (lv' := [(0, .ref (ad (i))), (1, .ref (ad (sx))), (2, .int (iI ((r : Nat) : Int))), (3, .int (iI ((r * 64 : Nat) : Int)))]) C dX2_gather_9 rfl (by decide) rfl ?_
  refine r_aload_n C dX2_gather_10 rfl rfl ?_
  have c5 : f1 (sx) = eO 1 [.ref (ad (sx + 1)), .ref (ad (sx + 2)), .ref (ad (sx + 3)), .int (iI ((n.2.2.2 : Nat) : Int))] := (ho3 _ (by omega)).trans s0
  refine r_get (v := .ref (ad (sx + 1))) C (by omega) c5 (show vwCl[1]? = some (RX1, TX1, 4) from rfl) m3 0 (by decide) m2 rfl rfl dX2_gather_11 ?_
  refine r_iconst C ((0 : Nat) : Int) (by decide) dX2_gather_14 ?_
  have c6 : f1 (sx + 1) = eI tc 4 (fun j => iI ((n.1 j : Nat) : Int)) := (ho3 _ (by omega)).trans s1
  refine r_iald (x := (iI ((n.1 0 : Nat) : Int))) C (by omega) c6 (0) rfl (by omega) (Nat.le_of_ble_eq_true rfl) (rfl) dX2_gather_15 ?_
  refine r_istore (lv' := [(0, .ref (ad (i))), (1, .ref (ad (sx))), (2, .int (iI ((r : Nat) : Int))), (3, .int (iI ((r * 64 : Nat) : Int))), (4, .int (iI ((n.1 0 : Nat) : Int)))]) C dX2_gather_16 (by decide) rfl ?_
  refine r_aload_n C dX2_gather_18 rfl rfl ?_
  refine r_get (v := .ref (ad (sx + 2))) C (by omega) c5 (show vwCl[1]? = some (RX1, TX1, 4) from rfl) m3 1 (by decide) m4 rfl rfl dX2_gather_19 ?_
  refine r_iload_n C dX2_gather_22 rfl rfl ?_
  have c7 : f1 (sx + 2) = eI tc 10 (fun j => iI ((n.2.1 j : Nat) : Int)) := (ho3 _ (by omega)).trans s2
  refine r_iald (x := (iI ((n.2.1 r : Nat) : Int))) C (by omega) c7 (r) rfl (by omega) (Nat.le_of_ble_eq_true rfl) (rfl) dX2_gather_23 ?_
  refine r_iload C dX2_gather_24 rfl ?_
  refine r_isub C (((n.2.1 r : Nat) : Int) - ((n.1 0 : Nat) : Int)) rfl dX2_gather_26 ?_
  refine r_istore (lv' := [(0, .ref (ad (i))), (1, .ref (ad (sx))), (2, .int (iI ((r : Nat) : Int))), (3, .int (iI ((r * 64 : Nat) : Int))), (4, .int (iI ((n.1 0 : Nat) : Int))), (5, .int (iI (((n.2.1 r : Nat) : Int) - ((n.1 0 : Nat) : Int))))]) C dX2_gather_27 (by decide) rfl ?_
  refine r_iconst C ((0 : Nat) : Int) (by decide) dX2_gather_29 ?_
  refine r_istore (lv' := [(0, .ref (ad (i))), (1, .ref (ad (sx))), (2, .int (iI ((r : Nat) : Int))), (3, .int (iI ((r * 64 : Nat) : Int))), (4, .int (iI ((n.1 0 : Nat) : Int))), (5, .int (iI (((n.2.1 r : Nat) : Int) - ((n.1 0 : Nat) : Int)))), (6, .int (iI ((0 : Nat) : Int)))]) C dX2_gather_30 (by decide) rfl ?_
  have hL14 : ∀ (m_15 : Nat) (p : Nat) (wv : Nat → Int32) (wc : Nat → Int32) (wt : Nat → Int32) (f8 : Nat → va_E) (hm9 : f8 (i) = eO 2 [.ref (ad (i + 1)), .ref (ad (i + 2)), .ref (ad (i + 3)), .int (iI (((gth n r p).1 : Nat) : Int))]) (hm10 : f8 (i + 1) = eI tc 64 (wv)) (hm11 : f8 (i + 2) = eI tc 64 (wc)) (hm12 : f8 (i + 3) = eI tc 64 (wt)) (ho13 : ∀ q, (q < i ∨ i + 4 ≤ q) → f8 q = f1 q) (hp : p ≤ n.2.1 r + 1 - n.1 0) (gw : ∀ j, j < (gth n r p).1 → wv j = iI (((gth n r p).2.1 j : Nat) : Int) ∧ wc j = iI (((gth n r p).2.2.1 j : Nat) : Int) ∧ wt j = iI (((gth n r p).2.2.2 j : Nat) : Int)), n.2.1 r + 1 - n.1 0 - p < m_15 → VV X ad N f8 0 0 32 [(0, .ref (ad (i))), (1, .ref (ad (sx))), (2, .int (iI ((r : Nat) : Int))), (3, .int (iI ((r * 64 : Nat) : Int))), (4, .int (iI ((n.1 0 : Nat) : Int))), (5, .int (iI (((n.2.1 r : Nat) : Int) - ((n.1 0 : Nat) : Int)))), (6, .int (iI ((p : Nat) : Int)))] [] := by
    intro m_15
    induction m_15 with
    | zero => intros; omega
    | succ m_15 ih16 =>
      intro p wv wc wt f8 hm9 hm10 hm11 hm12 ho13 hp gw hm17
      refine r_iload C dX2_gather_32 rfl ?_
      refine r_iload C dX2_gather_34 rfl ?_
      refine r_icmp_gt (tgt := 94) C ⟨by omega, by omega⟩ ⟨by omega, by omega⟩ dX2_gather_36 (by decide) (fun b18 => ?_) (fun b18 => ?_)
      · have hpe : p = n.2.1 r + 1 - n.1 0 := by omega
        have hWd : isWd tc ad f8 i (gth n r p) := ⟨_, _, _, hm9, hm10, hm11, hm12, gw⟩
        rw [hpe] at hWd
        exact hret f8 _ _ dX2_gather_94 (⟨hWd, fun q hq => ((ho13 _ (by omega))).trans (ho3 _ (by omega))⟩)
      · refine r_aload_n C dX2_gather_39 rfl rfl ?_
        have c19 : f8 (sx) = eO 1 [.ref (ad (sx + 1)), .ref (ad (sx + 2)), .ref (ad (sx + 3)), .int (iI ((n.2.2.2 : Nat) : Int))] := (ho13 _ (by omega)).trans c5
        refine r_get (v := .ref (ad (sx + 3))) C (by omega) c19 (show vwCl[1]? = some (RX1, TX1, 4) from rfl) m3 2 (by decide) m5 rfl rfl dX2_gather_40 ?_
        refine r_iload_n C dX2_gather_43 rfl rfl ?_
        refine r_iload C dX2_gather_44 rfl ?_
        refine r_iadd C ((r * 64 + p : Nat) : Int) (by omega) dX2_gather_46 ?_
        refine r_iload C dX2_gather_47 rfl ?_
        have c20 : f1 (sx + 3) = eI tc 640 (fun j => iI ((n.2.2.1 j : Nat) : Int)) := (ho3 _ (by omega)).trans s3
        have c21 : f8 (sx + 3) = eI tc 640 (fun j => iI ((n.2.2.1 j : Nat) : Int)) := (ho13 _ (by omega)).trans c20
        refine r_callS (As := [.ref (ad (sx + 3)), .int (iI ((r * 64 + p : Nat) : Int)), .int (iI ((n.1 0 : Nat) : Int))]) (rest := []) (na := 3) C (c_X2_codeAt G tc l ad N _ (sx + 3) n.2.2.1 (r * 64 + p) (n.1 0) (by omega) c21 (by omega) a2) gX2_gather_X2_codeAt rfl rfl rfl (by decide +kernel) ⟨Nat.le_of_ble_eq_true rfl, Nat.le_of_ble_eq_true rfl⟩ rfl rfl (Nat.le_of_ble_eq_true rfl) dX2_gather_49 ⟨Nat.le_of_ble_eq_true rfl, Nat.le_of_ble_eq_true rfl⟩ (aft_I (fun f22 hF23 => ?_))
        rw [hF23]
        refine r_istore (lv' := [(0, .ref (ad (i))), (1, .ref (ad (sx))), (2, .int (iI ((r : Nat) : Int))), (3, .int (iI ((r * 64 : Nat) : Int))), (4, .int (iI ((n.1 0 : Nat) : Int))), (5, .int (iI (((n.2.1 r : Nat) : Int) - ((n.1 0 : Nat) : Int)))), (6, .int (iI ((p : Nat) : Int))), (7, .int (iI ((cod n.2.2.1 (r * 64 + p) (n.1 0) : Nat) : Int)))]) C dX2_gather_52 (by decide) rfl ?_
        have hC : cod n.2.2.1 (r * 64 + p) (n.1 0) ≤ 531440 := cod_le a2 (fun j hj => a10 _ (by omega))
        have hM : cod n.2.2.1 (r * 64 + p) (n.1 0) * n.1 2 ≤ 531440 * 1000002 := Nat.mul_le_mul hC a6
        have hV := vlu_lt (n.1 2) (n.1 3) (cod n.2.2.1 (r * 64 + p) (n.1 0))
        have hG := gth_le n r p
        refine r_iload C dX2_gather_54 rfl ?_
        refine r_i2l C dX2_gather_56 ?_
        rw [show (.long (((iI ((cod n.2.2.1 (r * 64 + p) (n.1 0) : Nat) : Int))).toInt64) : Value) = .long (jI ((cod n.2.2.1 (r * 64 + p) (n.1 0) : Nat) : Int)) from by rw [iI_long (by omega)]]
        refine r_aload_n C dX2_gather_57 rfl rfl ?_
        refine r_get (v := .ref (ad (sx + 1))) C (by omega) c19 (show vwCl[1]? = some (RX1, TX1, 4) from rfl) m3 0 (by decide) m2 rfl rfl dX2_gather_58 ?_
        refine r_iconst C ((2 : Nat) : Int) (by decide) dX2_gather_61 ?_
        have c24 : f8 (sx + 1) = eI tc 4 (fun j => iI ((n.1 j : Nat) : Int)) := (ho13 _ (by omega)).trans c6
        refine r_iald (x := (iI ((n.1 2 : Nat) : Int))) C (by omega) c24 (2) rfl (by omega) (Nat.le_of_ble_eq_true rfl) (rfl) dX2_gather_62 ?_
        refine r_i2l C dX2_gather_63 ?_
        rw [show (.long (((iI ((n.1 2 : Nat) : Int))).toInt64) : Value) = .long (jI ((n.1 2 : Nat) : Int)) from by rw [iI_long (by omega)]]
        refine r_lmul C dX2_gather_64 ?_
        rw [show (.long ((jI ((cod n.2.2.1 (r * 64 + p) (n.1 0) : Nat) : Int)) * (jI ((n.1 2 : Nat) : Int))) : Value) = .long (jI ((cod n.2.2.1 (r * 64 + p) (n.1 0) * n.1 2 : Nat) : Int)) from by rw [jI_mul]]
        refine r_aload_n C dX2_gather_65 rfl rfl ?_
        refine r_get (v := .ref (ad (sx + 1))) C (by omega) c19 (show vwCl[1]? = some (RX1, TX1, 4) from rfl) m3 0 (by decide) m2 rfl rfl dX2_gather_66 ?_
        refine r_iconst C ((3 : Nat) : Int) (by decide) dX2_gather_69 ?_
        refine r_iald (x := (iI ((n.1 3 : Nat) : Int))) C (by omega) c24 (3) rfl (by omega) (Nat.le_of_ble_eq_true rfl) (rfl) dX2_gather_70 ?_
        refine r_i2l C dX2_gather_71 ?_
        rw [show (.long (((iI ((n.1 3 : Nat) : Int))).toInt64) : Value) = .long (jI ((n.1 3 : Nat) : Int)) from by rw [iI_long (by omega)]]
        refine r_ladd C dX2_gather_72 ?_
        rw [show (.long ((jI ((cod n.2.2.1 (r * 64 + p) (n.1 0) * n.1 2 : Nat) : Int)) + (jI ((n.1 3 : Nat) : Int))) : Value) = .long (jI ((cod n.2.2.1 (r * 64 + p) (n.1 0) * n.1 2 + n.1 3 : Nat) : Int)) from by rw [jI_add]]
        refine r_lstore (lv' := [(0, .ref (ad (i))), (1, .ref (ad (sx))), (2, .int (iI ((r : Nat) : Int))), (3, .int (iI ((r * 64 : Nat) : Int))), (4, .int (iI ((n.1 0 : Nat) : Int))), (5, .int (iI (((n.2.1 r : Nat) : Int) - ((n.1 0 : Nat) : Int)))), (6, .int (iI ((p : Nat) : Int))), (7, .int (iI ((cod n.2.2.1 (r * 64 + p) (n.1 0) : Nat) : Int))), (8, .long (jI ((cod n.2.2.1 (r * 64 + p) (n.1 0) * n.1 2 + n.1 3 : Nat) : Int)))]) C dX2_gather_73 (by decide) rfl ?_
        refine r_aload_n C dX2_gather_75 rfl rfl ?_
        refine r_iload C dX2_gather_76 rfl ?_
        refine r_lload C dX2_gather_78 rfl ?_
        refine r_ldc2 C 1000003 (by decide) m6 dX2_gather_80 ?_
        refine r_lrem C dX2_gather_83 (by decide) ?_
        rw [show (.long ((jI ((cod n.2.2.1 (r * 64 + p) (n.1 0) * n.1 2 + n.1 3 : Nat) : Int)) - (jI ((cod n.2.2.1 (r * 64 + p) (n.1 0) * n.1 2 + n.1 3 : Nat) : Int)) / (jI 1000003) * (jI 1000003)) : Value) = .long (jI ((vlu (n.1 2) (n.1 3) (cod n.2.2.1 (r * 64 + p) (n.1 0)) : Nat) : Int)) from by rw [show jI 1000003 = jI ((1000003 : Nat) : Int) from rfl, jI_rem (by omega) (by decide) (by decide)]; rfl]
        refine r_l2i C dX2_gather_84 ?_
        rw [show (.int ((jI ((vlu (n.1 2) (n.1 3) (cod n.2.2.1 (r * 64 + p) (n.1 0)) : Nat) : Int)).toInt32) : Value) = .int (iI ((vlu (n.1 2) (n.1 3) (cod n.2.2.1 (r * 64 + p) (n.1 0)) : Nat) : Int)) from by rw [jI_int (by omega)]]
        refine r_callV (As := [.int (iI ((cod n.2.2.1 (r * 64 + p) (n.1 0) : Nat) : Int)), .int (iI ((vlu (n.1 2) (n.1 3) (cod n.2.2.1 (r * 64 + p) (n.1 0)) : Nat) : Int))]) (rest := []) (na := 2) C (c_X2_enter G tc l ad N _ i (gth n r p) ⟨_, _, _, hm9, hm10, hm11, hm12, gw⟩ hi (by omega) (gth_lt n r p) (cod n.2.2.1 (r * 64 + p) (n.1 0)) (vlu (n.1 2) (n.1 3) (cod n.2.2.1 (r * 64 + p) (n.1 0))) hV) gX2_gather_X2_enter rfl rfl rfl (by decide +kernel) ⟨Nat.le_of_ble_eq_true rfl, Nat.le_of_ble_eq_true rfl⟩ (by omega) hm9 (show vwCl[2]? = some (RX2, TX2, 4) from rfl) rfl rfl (Nat.le_of_ble_eq_true rfl) dX2_gather_85 ⟨Nat.le_of_ble_eq_true rfl, Nat.le_of_ble_eq_true rfl⟩ (aft_V (fun f25 hF26 => ?_))
        obtain ⟨⟨wv', wc', wt', k0, k1, k2, k3, kw⟩, hoE⟩ := hF26
        refine r_iinc (lv' := [(0, .ref (ad (i))), (1, .ref (ad (sx))), (2, .int (iI ((r : Nat) : Int))), (3, .int (iI ((r * 64 : Nat) : Int))), (4, .int (iI ((n.1 0 : Nat) : Int))), (5, .int (iI (((n.2.1 r : Nat) : Int) - ((n.1 0 : Nat) : Int)))), (6, .int (iI ((p + 1 : Nat) : Int))), (7, .int (iI ((cod n.2.2.1 (r * 64 + p) (n.1 0) : Nat) : Int))), (8, .long (jI ((cod n.2.2.1 (r * 64 + p) (n.1 0) * n.1 2 + n.1 3 : Nat) : Int)))]) C ((p + 1 : Nat) : Int) (by omega) dX2_gather_88 rfl (by decide) rfl ?_
        refine r_goto (tgt := 32) C dX2_gather_91 (by decide) ?_
        refine r_sub (ks := [0, 1, 2, 3, 4, 5, 6]) (lv' := [(0, .ref (ad (i))), (1, .ref (ad (sx))), (2, .int (iI ((r : Nat) : Int))), (3, .int (iI ((r * 64 : Nat) : Int))), (4, .int (iI ((n.1 0 : Nat) : Int))), (5, .int (iI (((n.2.1 r : Nat) : Int) - ((n.1 0 : Nat) : Int)))), (6, .int (iI ((p + 1 : Nat) : Int)))]) rfl ?_
        exact ih16 (p + 1) wv' wc' wt' f25 k0 k1 k2 k3 (fun q hq => ((hoE _ (by omega))).trans (ho13 _ (by omega))) (by omega) kw (by omega)
  have c27 : f1 (i + 1) = eI tc 64 (wv0) := (ho3 _ (by omega)).trans g1
  have c28 : f1 (i + 2) = eI tc 64 (wc0) := (ho3 _ (by omega)).trans g2
  have c29 : f1 (i + 3) = eI tc 64 (wt0) := (ho3 _ (by omega)).trans g3
  exact hL14 _ 0 wv0 wc0 wt0 f1 c4 c27 c28 c29 (fun _ _ => rfl) (by omega) (fun j hj => absurd hj (Nat.not_lt_zero _)) (Nat.lt_succ_self _)
set_option maxHeartbeats 4000000 in
set_option maxRecDepth 100000 in
/-- wordsOf(r): the words of row r, gathered -/
theorem c_X3_wordsOf (G : va_G) (tc : Nat → ClassId) (l : Launch) (ad : Nat → Nat) (N : Nat) (f : Nat → va_E) (s : SG) (hX : XI tc ad f s) (ho : okS s) (hN : 98 ≤ N) (r : Nat) (hr : r < (cur s).2.2.2)   : Ct G tc l yX3_wordsOf wsX3_wordsOf { frames := 3, cells := 0, slots := 0, locals := 73 } 0 0 [.ref (ad (0)), .int (iI ((r : Nat) : Int))] ad N f (poA ad N (ad (42 + 4 * r)) (fun f' => XI tc ad f' s ∧ isWd tc ad f' (42 + 4 * r) (wds (cur s) r) ∧ ∀ q, ((q < 42 + 4 * r ∨ 42 + 4 * r + 4 ≤ q) ∧ q ≠ 82) → f' q = f q)) := by
  obtain ⟨h0, ⟨h1, h2, h3, h4⟩, hHis, hSlo, h40, hWds, hPr, hHd⟩ := id hX
  obtain ⟨⟨⟨a1, a2⟩, ⟨a3, a4⟩, ⟨a5, a6⟩, a7, a8, a9, a10⟩, o2, o3, o4, o5, o6⟩ := id ho
  obtain ⟨gt, wd, w41, w82, wst, wv⟩ := id hWds
  obtain ⟨b, hb1, hb2⟩ : ∃ b : Nat, gt r = iI ((b : Nat) : Int) ∧ (b = 0 ∨ (b = 1 ∧ wd r = wds (cur s) r)) := by
    rcases wv r (by omega) with h | h
    · exact ⟨0, h, Or.inl rfl⟩
    · exact ⟨1, h.1, Or.inr ⟨rfl, h.2⟩⟩
  refine stA (cc := cX3_wordsOf) (maxL := 2) (lv := [(0, .ref (ad (0))), (1, .int (iI ((r : Nat) : Int)))]) (by decide) rfl (Nat.le_of_ble_eq_true rfl) rfl (fun X C hret => ?_)
  have m0 : Cond.fieldLink RX3 44 "WordSamples" "gathered" "[Z" ∈ wsX3_wordsOf := by decide +kernel
  have m1 : ∀ w ∈ wsX30, w ∈ wsX3_wordsOf := by decide +kernel
  have m2 : Cond.fieldLink RX3 40 "WordSamples" "words" "[LWordSamples$Words;" ∈ wsX3_wordsOf := by decide +kernel
  have m3 : Cond.fieldLink RX3 10 "WordSamples" "now" "LWordSamples$State;" ∈ wsX3_wordsOf := by decide +kernel
  refine r_aload_n C dX3_wordsOf_0 rfl rfl ?_
  refine r_get (v := .ref (ad (82))) C (by omega) h0 (show vwCl[3]? = some (RX3, TX3, 11) from rfl) m1 8 (by decide) m0 rfl rfl dX3_wordsOf_1 ?_
  refine r_iload_n C dX3_wordsOf_4 rfl rfl ?_
  refine r_zald (x := (iI ((b : Nat) : Int))) C (by omega) w82 (r) rfl (by omega) (Nat.le_of_ble_eq_true rfl) (hb1) dX3_wordsOf_5 ?_
  have hb3 : b ≤ 1 := by omega
  refine r_if_ne (tgt := 30) C ⟨by omega, by omega⟩ dX3_wordsOf_6 (by decide) (fun b_g0 => ?_) (fun b_g0 => ?_)
  · refine r_aload_n C dX3_wordsOf_30 rfl rfl ?_
    refine r_get (v := .ref (ad (41))) C (by omega) h0 (show vwCl[3]? = some (RX3, TX3, 11) from rfl) m1 7 (by decide) m2 rfl rfl dX3_wordsOf_31 ?_
    refine r_iload_n C dX3_wordsOf_34 rfl rfl ?_
    refine r_aaldW (a := ad (42 + 4 * r)) C (by omega) w41 (r) rfl (by omega) (Nat.le_of_ble_eq_true rfl) (rfl) dX3_wordsOf_35 ?_
    exact hret f _ _ dX3_wordsOf_36 (⟨hX, by have e := hb2.resolve_left (by omega); rw [← e.2]; exact wst r (by omega), fun _ _ => rfl⟩)
  · refine r_aload_n C dX3_wordsOf_9 rfl rfl ?_
    refine r_get (v := .ref (ad (41))) C (by omega) h0 (show vwCl[3]? = some (RX3, TX3, 11) from rfl) m1 7 (by decide) m2 rfl rfl dX3_wordsOf_10 ?_
    refine r_iload_n C dX3_wordsOf_13 rfl rfl ?_
    refine r_aaldW (a := ad (42 + 4 * r)) C (by omega) w41 (r) rfl (by omega) (Nat.le_of_ble_eq_true rfl) (rfl) dX3_wordsOf_14 ?_
    refine r_aload_n C dX3_wordsOf_15 rfl rfl ?_
    refine r_get (v := .ref (ad (1))) C (by omega) h0 (show vwCl[3]? = some (RX3, TX3, 11) from rfl) m1 0 (by decide) m3 rfl rfl dX3_wordsOf_16 ?_
    refine r_iload_n C dX3_wordsOf_19 rfl rfl ?_
    obtain ⟨wv0, wc0, wt0, y0, y1, y2, y3, y4⟩ := id (wst r (by omega))
    refine r_callV (As := [.ref (ad (1)), .int (iI ((r : Nat) : Int))]) (rest := []) (na := 2) C (c_X2_gather G tc l ad N _ (42 + 4 * r) (wd r) (wst r (by omega)) (by omega) 1 (cur s) ⟨h1, h2, h3, h4⟩ (by omega) ho.1 r (by omega)) gX3_wordsOf_X2_gather rfl rfl rfl (by decide +kernel) ⟨Nat.le_of_ble_eq_true rfl, Nat.le_of_ble_eq_true rfl⟩ (by omega) y0 (show vwCl[2]? = some (RX2, TX2, 4) from rfl) rfl rfl (Nat.le_of_ble_eq_true rfl) dX3_wordsOf_20 ⟨Nat.le_of_ble_eq_true rfl, Nat.le_of_ble_eq_true rfl⟩ (aft_V (fun f1 hF2 => ?_))
    obtain ⟨hgw, hoG⟩ := hF2
    refine r_aload_n C dX3_wordsOf_23 rfl rfl ?_
    have c3 : f1 (0) = eO 3 [.ref (ad (1)), .ref (ad (5)), .int (iI ((kno s : Nat) : Int)), .ref (ad (30)), .ref (ad (39)), .ref (ad (40)), .int (iI ((pln s : Nat) : Int)), .ref (ad (41)), .ref (ad (82)), .ref (ad (83)), .ref (ad (87))] := (hoG _ (by omega)).trans h0
    refine r_get (v := .ref (ad (82))) C (by omega) c3 (show vwCl[3]? = some (RX3, TX3, 11) from rfl) m1 8 (by decide) m0 rfl rfl dX3_wordsOf_24 ?_
    refine r_iload_n C dX3_wordsOf_27 rfl rfl ?_
    refine r_iconst C ((1 : Nat) : Int) (by decide) dX3_wordsOf_28 ?_
    have c4 : f1 (82) = eB tc 10 (gt) := (hoG _ (by omega)).trans w82
    refine r_zast C (by omega) c4 (r) rfl (by omega) (Nat.le_of_ble_eq_true rfl) rfl dX3_wordsOf_29 (fun f5 hs6 ho7 => ?_)
    refine r_aload_n C dX3_wordsOf_30 rfl rfl ?_
    have c8 : f5 (0) = eO 3 [.ref (ad (1)), .ref (ad (5)), .int (iI ((kno s : Nat) : Int)), .ref (ad (30)), .ref (ad (39)), .ref (ad (40)), .int (iI ((pln s : Nat) : Int)), .ref (ad (41)), .ref (ad (82)), .ref (ad (83)), .ref (ad (87))] := (ho7 _ (by omega)).trans c3
    refine r_get (v := .ref (ad (41))) C (by omega) c8 (show vwCl[3]? = some (RX3, TX3, 11) from rfl) m1 7 (by decide) m2 rfl rfl dX3_wordsOf_31 ?_
    refine r_iload_n C dX3_wordsOf_34 rfl rfl ?_
    have c9 : f1 (41) = eW tc 10 (fun k => some (ad (42 + 4 * k))) := (hoG _ (by omega)).trans w41
    have c10 : f5 (41) = eW tc 10 (fun k => some (ad (42 + 4 * k))) := (ho7 _ (by omega)).trans c9
    refine r_aaldW (a := ad (42 + 4 * r)) C (by omega) c10 (r) rfl (by omega) (Nat.le_of_ble_eq_true rfl) (rfl) dX3_wordsOf_35 ?_
    have hgq := hgw.fr (f' := f5) (fun q g1 g2 => (ho7 _ (by omega)))
    exact hret f5 _ _ dX3_wordsOf_36 (⟨words_XI hX (by omega) hgq hs6 w82 (fun q g1 g2 => ((ho7 _ (by omega))).trans (hoG _ (by omega))), hgq, fun q hq => ((ho7 _ (by omega))).trans (hoG _ (by omega))⟩)
end XW1
end
section
section XR1
def smp (n : NS) (r : Nat) : Nat := min (wds n r).1 (n.1 1)
theorem smp_le (n : NS) (r : Nat) : smp n r ≤ (wds n r).1 ∧ smp n r ≤ n.1 1 := by
  unfold smp
  omega
def grt (n : NS) (r : Nat) : Int := if smp n r = 0 then -6 else (((wds n r).2.1 (smp n r - 1) : Nat) : Int)
def aOfr (s : SG) (z w : Int) : Int := if isR s z then (if w = 0 then (((cur s).2.1 z.toNat : Nat) : Int) else if w = 1 then (((wds (cur s) z.toNat).1 : Nat) : Int) else if w = 2 then ((smp (cur s) z.toNat : Nat) : Int) else if w = 3 then grt (cur s) z.toNat else -2) else -1
def aSmp (s : SG) (z p w : Int) : Int := if isR s z ∧ 0 ≤ p ∧ p < ((smp (cur s) z.toNat : Nat) : Int) then (if w = 0 then (((wds (cur s) z.toNat).2.1 p.toNat : Nat) : Int) else if w = 1 then (((wds (cur s) z.toNat).2.2.1 p.toNat : Nat) : Int) else if w = 2 then (((wds (cur s) z.toNat).2.2.2 p.toNat : Nat) : Int) else -2) else -1
def shd (p w : Nat) : Nat := if w = 0 then 0 else p * 10000 / w
def shu (p w : Nat) : Nat := if w = 0 then 0 else (p * 10000 + w - 1) / w
abbrev oP (ad : Nat → Nat) (n m e b : Nat) : va_E := eO 0 [.ref (ad (84)), .ref (ad (85)), .ref (ad (86)), .int (iI ((n : Nat) : Int)), .int (iI ((m : Nat) : Int)), .int (iI ((e : Nat) : Int)), .int (iI ((b : Nat) : Int))]
def isPr (tc : Nat → ClassId) (ad : Nat → Nat) (f : Nat → va_E) (a b : WW) : Prop := ∃ d1 d2 d3 : Nat → Int32, f 83 = oP ad a.1 b.1 (eit a b) (bth a b) ∧ f 84 = eI tc 33 d1 ∧ f 85 = eI tc 33 d2 ∧ f 86 = eI tc 33 d3 ∧
  ∀ t, t ≤ 32 → t ≤ eit a b → d1 t = iI (((mg a b t).2.2 : Nat) : Int) ∧ d2 t = iI (((mg a b t).1 : Nat) : Int) ∧ d3 t = iI (((mg a b t).2.1 : Nat) : Int)
theorem isPr.iPr {tc : Nat → ClassId} {ad : Nat → Nat} {f : Nat → va_E} {a b : WW} (h : isPr tc ad f a b) : iPr tc ad f := by
  obtain ⟨d1, d2, d3, h1, h2, h3, h4, h5⟩ := h
  obtain ⟨q1, q2, q3⟩ := h5 0 (by omega) (Nat.zero_le _)
  exact ⟨_, _, _, _, d1, d2, d3, h1, h2, h3, h4, q1, q2, q3⟩
theorem mg_step (a b : WW) (k : Nat) (h : ¬ (vatN a (mg a b k).1 = 1000003 ∧ vatN b (mg a b k).2.1 = 1000003)) : ((vatN a (mg a b k).1 ≤ vatN b (mg a b k).2.1 ∧ (mg a b (k + 1)).1 = (mg a b k).1 + 1) ∨ (¬ vatN a (mg a b k).1 ≤ vatN b (mg a b k).2.1 ∧ (mg a b (k + 1)).1 = (mg a b k).1)) ∧
    ((vatN b (mg a b k).2.1 ≤ vatN a (mg a b k).1 ∧ (mg a b (k + 1)).2.1 = (mg a b k).2.1 + 1) ∨ (¬ vatN b (mg a b k).2.1 ≤ vatN a (mg a b k).1 ∧ (mg a b (k + 1)).2.1 = (mg a b k).2.1)) ∧
    ((vatN a (mg a b k).1 = vatN b (mg a b k).2.1 ∧ (mg a b (k + 1)).2.2 = (mg a b k).2.2 + 1) ∨ (¬ vatN a (mg a b k).1 = vatN b (mg a b k).2.1 ∧ (mg a b (k + 1)).2.2 = (mg a b k).2.2)) := by
  rw [mg, if_neg h]
  refine ⟨?_, ?_, ?_⟩
  · by_cases q : vatN a (mg a b k).1 ≤ vatN b (mg a b k).2.1
    · exact Or.inl ⟨q, by dsimp only; rw [if_pos q]⟩
    · exact Or.inr ⟨q, by dsimp only; rw [if_neg q]; rfl⟩
  · by_cases q : vatN b (mg a b k).2.1 ≤ vatN a (mg a b k).1
    · exact Or.inl ⟨q, by dsimp only; rw [if_pos q]⟩
    · exact Or.inr ⟨q, by dsimp only; rw [if_neg q]; rfl⟩
  · by_cases q : vatN a (mg a b k).1 = vatN b (mg a b k).2.1
    · exact Or.inl ⟨q, by dsimp only; rw [if_pos q]⟩
    · exact Or.inr ⟨q, by dsimp only; rw [if_neg q]; rfl⟩
set_option maxHeartbeats 4000000 in
set_option maxRecDepth 100000 in
/-- sampleSize(r) -/
theorem c_X3_sampleSize (G : va_G) (tc : Nat → ClassId) (l : Launch) (ad : Nat → Nat) (N : Nat) (f : Nat → va_E) (s : SG) (hX : XI tc ad f s) (ho : okS s) (hN : 98 ≤ N) (r : Nat) (hr : r < (cur s).2.2.2)   : Ct G tc l yX3_sampleSize wsX3_sampleSize { frames := 4, cells := 0, slots := 0, locals := 94 } 0 0 [.ref (ad (0)), .int (iI ((r : Nat) : Int))] ad N f (poI ad N (((smp (cur s) r : Nat) : Int)) (fun f' => XI tc ad f' s ∧ ∀ q, 88 ≤ q → f' q = f q)) := by
  obtain ⟨h0, ⟨h1, h2, h3, h4⟩, hHis, hSlo, h40, hWds, hPr, hHd⟩ := id hX
  obtain ⟨⟨⟨a1, a2⟩, ⟨a3, a4⟩, ⟨a5, a6⟩, a7, a8, a9, a10⟩, o2, o3, o4, o5, o6⟩ := id ho
  refine stI (cc := cX3_sampleSize) (maxL := 2) (lv := [(0, .ref (ad (0))), (1, .int (iI ((r : Nat) : Int)))]) (by decide) rfl (Nat.le_of_ble_eq_true rfl) rfl (fun X C hret => ?_)
  have m0 : Cond.fieldLink RX3 105 "WordSamples$Words" "size" "I" ∈ wsX3_sampleSize := by decide +kernel
  have m1 : ∀ w ∈ wsX20, w ∈ wsX3_sampleSize := by decide +kernel
  have m2 : Cond.fieldLink RX3 10 "WordSamples" "now" "LWordSamples$State;" ∈ wsX3_sampleSize := by decide +kernel
  have m3 : ∀ w ∈ wsX30, w ∈ wsX3_sampleSize := by decide +kernel
  have m4 : Cond.fieldLink RX3 67 "WordSamples$State" "settings" "[I" ∈ wsX3_sampleSize := by decide +kernel
  have m5 : ∀ w ∈ wsX10, w ∈ wsX3_sampleSize := by decide +kernel
  have m6 : Cond.methodLink RX3 208 Lib.Math.min.name ∈ wsX3_sampleSize := by decide +kernel
  have m7 : Cond.static Lib.Math.min.name ∈ wsX3_sampleSize := by decide +kernel
  have m8 : Cond.initialized "java/lang/Math" ∈ wsX3_sampleSize := by decide +kernel
  have m9 : Cond.code Lib.Math.min.name Lib.Math.min.code 2 (some .int) ∈ wsX3_sampleSize := by decide +kernel
  refine r_aload_n C dX3_sampleSize_0 rfl rfl ?_
  refine r_iload_n C dX3_sampleSize_1 rfl rfl ?_
  have q64 := wds_le ho.1 (r := r) (by omega)
  refine r_callV (As := [.int (iI ((r : Nat) : Int))]) (rest := []) (na := 1) C (c_X3_wordsOf G tc l ad N _ s hX ho hN r (by omega)) gX3_sampleSize_X3_wordsOf rfl rfl rfl (by decide +kernel) ⟨Nat.le_of_ble_eq_true rfl, Nat.le_of_ble_eq_true rfl⟩ (by omega) h0 (show vwCl[3]? = some (RX3, TX3, 11) from rfl) rfl rfl (Nat.le_of_ble_eq_true rfl) dX3_sampleSize_2 ⟨Nat.le_of_ble_eq_true rfl, Nat.le_of_ble_eq_true rfl⟩ (aft_A (fun f12 hF13 => ?_))
  obtain ⟨hx1, hw2, ow3⟩ := hF13
  obtain ⟨wv4, wc5, wt6, y7, y8, y9, y10, yw11⟩ := id hw2
  refine r_get (v := .int (iI (((wds (cur s) r).1 : Nat) : Int))) C (by omega) y7 (show vwCl[2]? = some (RX2, TX2, 4) from rfl) m1 3 (by decide) m0 rfl rfl dX3_sampleSize_5 ?_
  refine r_aload_n C dX3_sampleSize_8 rfl rfl ?_
  have c14 : f12 (0) = eO 3 [.ref (ad (1)), .ref (ad (5)), .int (iI ((kno s : Nat) : Int)), .ref (ad (30)), .ref (ad (39)), .ref (ad (40)), .int (iI ((pln s : Nat) : Int)), .ref (ad (41)), .ref (ad (82)), .ref (ad (83)), .ref (ad (87))] := (ow3 _ (by omega)).trans h0
  refine r_get (v := .ref (ad (1))) C (by omega) c14 (show vwCl[3]? = some (RX3, TX3, 11) from rfl) m3 0 (by decide) m2 rfl rfl dX3_sampleSize_9 ?_
  have c15 : f12 (1) = eO 1 [.ref (ad (2)), .ref (ad (3)), .ref (ad (4)), .int (iI (((cur s).2.2.2 : Nat) : Int))] := (ow3 _ (by omega)).trans h1
  refine r_get (v := .ref (ad (2))) C (by omega) c15 (show vwCl[1]? = some (RX1, TX1, 4) from rfl) m5 0 (by decide) m4 rfl rfl dX3_sampleSize_12 ?_
  refine r_iconst C ((1 : Nat) : Int) (by decide) dX3_sampleSize_15 ?_
  have c16 : f12 (2) = eI tc 4 (fun j => iI (((cur s).1 j : Nat) : Int)) := (ow3 _ (by omega)).trans h2
  refine r_iald (x := (iI (((cur s).1 1 : Nat) : Int))) C (by omega) c16 (1) rfl (by omega) (Nat.le_of_ble_eq_true rfl) (rfl) dX3_sampleSize_16 ?_
  refine r_min C ⟨m6, m7, m8, m9⟩ (Nat.le_of_ble_eq_true rfl) (by decide) ⟨Nat.le_of_ble_eq_true rfl, Nat.le_of_ble_eq_true rfl⟩ ⟨by omega, by omega⟩ ⟨by omega, by omega⟩ dX3_sampleSize_17 ?_
  rw [show (.int (iI (min (((wds (cur s) r).1 : Nat) : Int) (((cur s).1 1 : Nat) : Int))) : Value) = .int (iI ((smp (cur s) r : Nat) : Int)) from by rw [show min _ _ = ((smp (cur s) r : Nat) : Int) from by unfold smp; omega]]
  exact hret f12 ((smp (cur s) r : Nat) : Int) _ _ dX3_sampleSize_20 rfl (⟨hx1, fun q hq => (ow3 _ (by omega))⟩)
set_option maxHeartbeats 4000000 in
set_option maxRecDepth 100000 in
/-- greatestOfSample(r) -/
theorem c_X3_greatestOfSample (G : va_G) (tc : Nat → ClassId) (l : Launch) (ad : Nat → Nat) (N : Nat) (f : Nat → va_E) (s : SG) (hX : XI tc ad f s) (ho : okS s) (hN : 98 ≤ N) (r : Nat) (hr : r < (cur s).2.2.2)   : Ct G tc l yX3_greatestOfSample wsX3_greatestOfSample { frames := 5, cells := 0, slots := 0, locals := 115 } 0 0 [.ref (ad (0)), .int (iI ((r : Nat) : Int))] ad N f (poI ad N (grt (cur s) r) (fun f' => XI tc ad f' s ∧ ∀ q, 88 ≤ q → f' q = f q)) := by
  obtain ⟨h0, ⟨h1, h2, h3, h4⟩, hHis, hSlo, h40, hWds, hPr, hHd⟩ := id hX
  obtain ⟨⟨⟨a1, a2⟩, ⟨a3, a4⟩, ⟨a5, a6⟩, a7, a8, a9, a10⟩, o2, o3, o4, o5, o6⟩ := id ho
  refine stI (cc := cX3_greatestOfSample) (maxL := 3) (lv := [(0, .ref (ad (0))), (1, .int (iI ((r : Nat) : Int)))]) (by decide) rfl (Nat.le_of_ble_eq_true rfl) rfl (fun X C hret => ?_)
  refine r_aload_n C dX3_greatestOfSample_0 rfl rfl ?_
  refine r_iload_n C dX3_greatestOfSample_1 rfl rfl ?_
  have q64 := wds_le ho.1 (r := r) (by omega)
  have qsm := smp_le (cur s) r
  refine r_callV (As := [.int (iI ((r : Nat) : Int))]) (rest := []) (na := 1) C (c_X3_sampleSize G tc l ad N _ s hX ho hN r (by omega)) gX3_greatestOfSample_X3_sampleSize rfl rfl rfl (by decide +kernel) ⟨Nat.le_of_ble_eq_true rfl, Nat.le_of_ble_eq_true rfl⟩ (by omega) h0 (show vwCl[3]? = some (RX3, TX3, 11) from rfl) rfl rfl (Nat.le_of_ble_eq_true rfl) dX3_greatestOfSample_2 ⟨Nat.le_of_ble_eq_true rfl, Nat.le_of_ble_eq_true rfl⟩ (aft_I (fun f3 hF4 => ?_))
  obtain ⟨hx1, ow2⟩ := hF4
  obtain ⟨x5, ⟨x6, x7, x8, x9⟩, -⟩ := id hx1
  refine r_istore_n (lv' := [(0, .ref (ad (0))), (1, .int (iI ((r : Nat) : Int))), (2, .int (iI ((smp (cur s) r : Nat) : Int)))]) C dX3_greatestOfSample_5 rfl (by decide) rfl ?_
  refine r_iload_n C dX3_greatestOfSample_6 rfl rfl ?_
  refine r_if_ne (tgt := 15) C ⟨by omega, by omega⟩ dX3_greatestOfSample_7 (by decide) (fun b10 => ?_) (fun b10 => ?_)
  · refine r_aload_n C dX3_greatestOfSample_15 rfl rfl ?_
    refine r_iload_n C dX3_greatestOfSample_16 rfl rfl ?_
    refine r_callV (As := [.int (iI ((r : Nat) : Int))]) (rest := []) (na := 1) C (c_X3_wordsOf G tc l ad N _ s hx1 ho hN r (by omega)) gX3_greatestOfSample_X3_wordsOf rfl rfl rfl (by decide +kernel) ⟨Nat.le_of_ble_eq_true rfl, Nat.le_of_ble_eq_true rfl⟩ (by omega) x5 (show vwCl[3]? = some (RX3, TX3, 11) from rfl) rfl rfl (Nat.le_of_ble_eq_true rfl) dX3_greatestOfSample_17 ⟨Nat.le_of_ble_eq_true rfl, Nat.le_of_ble_eq_true rfl⟩ (aft_A (fun f22 hF23 => ?_))
    obtain ⟨hx11, hw12, ow13⟩ := hF23
    obtain ⟨wv14, wc15, wt16, y17, y18, y19, y20, yw21⟩ := id hw12
    refine r_iload_n C dX3_greatestOfSample_20 rfl rfl ?_
    refine r_iconst C ((1 : Nat) : Int) (by decide) dX3_greatestOfSample_21 ?_
    refine r_isub C ((smp (cur s) r - 1 : Nat) : Int) (by omega) dX3_greatestOfSample_22 ?_
    refine r_callV (As := [.int (iI ((smp (cur s) r - 1 : Nat) : Int))]) (rest := []) (na := 1) C (c_X2_valueAt G tc l ad N _ (42 + 4 * r) (wds (cur s) r) hw12 (by omega) (wds_le ho.1 (by omega)) (wds_lt _ _) ((smp (cur s) r - 1 : Nat) : Int) ⟨by omega, by omega⟩) gX3_greatestOfSample_X2_valueAt rfl rfl rfl (by decide +kernel) ⟨Nat.le_of_ble_eq_true rfl, Nat.le_of_ble_eq_true rfl⟩ (by omega) y17 (show vwCl[2]? = some (RX2, TX2, 4) from rfl) rfl rfl (Nat.le_of_ble_eq_true rfl) dX3_greatestOfSample_23 ⟨Nat.le_of_ble_eq_true rfl, Nat.le_of_ble_eq_true rfl⟩ (aft_I (fun f24 hF25 => ?_))
    rw [hF25]
    exact hret f22 (vat (wds (cur s) r) ((smp (cur s) r - 1 : Nat) : Int)) _ _ dX3_greatestOfSample_26 (by unfold grt; rw [if_neg (by omega), vat_N, vatN, if_pos (by omega)]) (⟨hx11, fun q hq => ((ow13 _ (by omega))).trans (ow2 _ (by omega))⟩)
  · refine r_bipush C ((-6)) (by decide) dX3_greatestOfSample_10 ?_
    refine r_goto (tgt := 26) C dX3_greatestOfSample_12 (by decide) ?_
    exact hret f3 ((-6)) _ _ dX3_greatestOfSample_26 (by unfold grt; rw [if_pos (by omega)]) (⟨hx1, fun q hq => (ow2 _ (by omega))⟩)
set_option maxHeartbeats 4000000 in
set_option maxRecDepth 100000 in
/-- ofRow -/
theorem c_X3_ofRow (G : va_G) (tc : Nat → ClassId) (l : Launch) (ad : Nat → Nat) (N : Nat) (f : Nat → va_E) (s : SG) (hX : XI tc ad f s) (ho : okS s) (hN : 98 ≤ N) (z w : Int) (hz : inR z) (hw : inR w)   : Ct G tc l yX3_ofRow wsX3_ofRow { frames := 6, cells := 0, slots := 0, locals := 137 } 0 0 [.ref (ad (0)), .int (iI (z)), .int (iI (w))] ad N f (poI ad N (aOfr s z w) (fun f' => XI tc ad f' s ∧ ∀ q, 88 ≤ q → f' q = f q)) := by
  obtain ⟨h0, ⟨h1, h2, h3, h4⟩, hHis, hSlo, h40, hWds, hPr, hHd⟩ := id hX
  obtain ⟨⟨⟨a1, a2⟩, ⟨a3, a4⟩, ⟨a5, a6⟩, a7, a8, a9, a10⟩, o2, o3, o4, o5, o6⟩ := id ho
  refine stI (cc := cX3_ofRow) (maxL := 3) (lv := [(0, .ref (ad (0))), (1, .int (iI (z))), (2, .int (iI (w)))]) (by decide) rfl (Nat.le_of_ble_eq_true rfl) rfl (fun X C hret => ?_)
  have m0 : Cond.fieldLink RX3 10 "WordSamples" "now" "LWordSamples$State;" ∈ wsX3_ofRow := by decide +kernel
  have m1 : ∀ w ∈ wsX30, w ∈ wsX3_ofRow := by decide +kernel
  have m2 : Cond.fieldLink RX3 77 "WordSamples$State" "lengths" "[I" ∈ wsX3_ofRow := by decide +kernel
  have m3 : ∀ w ∈ wsX10, w ∈ wsX3_ofRow := by decide +kernel
  have m4 : Cond.fieldLink RX3 105 "WordSamples$Words" "size" "I" ∈ wsX3_ofRow := by decide +kernel
  have m5 : ∀ w ∈ wsX20, w ∈ wsX3_ofRow := by decide +kernel
  refine r_aload_n C dX3_ofRow_0 rfl rfl ?_
  refine r_iload_n C dX3_ofRow_1 rfl rfl ?_
  refine r_callV (As := [.int (iI (z))]) (rest := []) (na := 1) C (c_X3_noRow G tc l ad N _ s hX ho hN z hz) gX3_ofRow_X3_noRow rfl rfl rfl (by decide +kernel) ⟨Nat.le_of_ble_eq_true rfl, Nat.le_of_ble_eq_true rfl⟩ (by omega) h0 (show vwCl[3]? = some (RX3, TX3, 11) from rfl) rfl rfl (Nat.le_of_ble_eq_true rfl) dX3_ofRow_2 ⟨Nat.le_of_ble_eq_true rfl, Nat.le_of_ble_eq_true rfl⟩ (aft_I (fun f1 hF2 => ?_))
  rw [hF2]
  refine r_if_eq (tgt := 10) C ⟨by omega, by omega⟩ dX3_ofRow_5 (by decide) (fun b3 => ?_) (fun b3 => ?_)
  · refine r_iload_n C dX3_ofRow_10 rfl rfl ?_
    by_cases s4 : (w) = 0
    · refine r_tin (tgt := 40) C ⟨by omega, by omega⟩ dX3_ofRow_11 (by omega) (by omega) (by rw [s4]; rfl) (by decide) ?_
      refine r_aload_n C dX3_ofRow_40 rfl rfl ?_
      refine r_get (v := .ref (ad (1))) C (by omega) h0 (show vwCl[3]? = some (RX3, TX3, 11) from rfl) m1 0 (by decide) m0 rfl rfl dX3_ofRow_41 ?_
      refine r_get (v := .ref (ad (3))) C (by omega) h1 (show vwCl[1]? = some (RX1, TX1, 4) from rfl) m3 1 (by decide) m2 rfl rfl dX3_ofRow_44 ?_
      refine r_iload_n C dX3_ofRow_47 rfl rfl ?_
      rw [show (.int (iI (z)) : Value) = .int (iI ((z.toNat : Nat) : Int)) from by rw [Int.toNat_of_nonneg (by omega)]]
      refine r_iald (x := (iI (((cur s).2.1 z.toNat : Nat) : Int))) C (by omega) h3 (z.toNat) rfl (by omega) (Nat.le_of_ble_eq_true rfl) (rfl) dX3_ofRow_48 ?_
      exact hret f (((cur s).2.1 z.toNat : Nat) : Int) _ _ dX3_ofRow_49 (by unfold aOfr; rw [if_pos (by omega), if_pos (by omega)]) (⟨hX, fun _ _ => rfl⟩)
    by_cases s5 : (w) = 1
    · refine r_tin (tgt := 50) C ⟨by omega, by omega⟩ dX3_ofRow_11 (by omega) (by omega) (by rw [s5]; rfl) (by decide) ?_
      refine r_aload_n C dX3_ofRow_50 rfl rfl ?_
      refine r_iload_n C dX3_ofRow_51 rfl rfl ?_
      rw [show (.int (iI (z)) : Value) = .int (iI ((z.toNat : Nat) : Int)) from by rw [Int.toNat_of_nonneg (by omega)]]
      refine r_callV (As := [.int (iI ((z.toNat : Nat) : Int))]) (rest := []) (na := 1) C (c_X3_wordsOf G tc l ad N _ s hX ho hN z.toNat (by omega)) gX3_ofRow_X3_wordsOf rfl rfl rfl (by decide +kernel) ⟨Nat.le_of_ble_eq_true rfl, Nat.le_of_ble_eq_true rfl⟩ (by omega) h0 (show vwCl[3]? = some (RX3, TX3, 11) from rfl) rfl rfl (Nat.le_of_ble_eq_true rfl) dX3_ofRow_52 ⟨Nat.le_of_ble_eq_true rfl, Nat.le_of_ble_eq_true rfl⟩ (aft_A (fun f17 hF18 => ?_))
      obtain ⟨hx6, hw7, ow8⟩ := hF18
      obtain ⟨wv9, wc10, wt11, y12, y13, y14, y15, yw16⟩ := id hw7
      refine r_get (v := .int (iI (((wds (cur s) z.toNat).1 : Nat) : Int))) C (by omega) y12 (show vwCl[2]? = some (RX2, TX2, 4) from rfl) m5 3 (by decide) m4 rfl rfl dX3_ofRow_55 ?_
      exact hret f17 (((wds (cur s) z.toNat).1 : Nat) : Int) _ _ dX3_ofRow_58 (by unfold aOfr; rw [if_pos (by omega), if_neg (by omega), if_pos (by omega)]) (⟨hx6, fun q hq => (ow8 _ (by omega))⟩)
    by_cases s19 : (w) = 2
    · refine r_tin (tgt := 59) C ⟨by omega, by omega⟩ dX3_ofRow_11 (by omega) (by omega) (by rw [s19]; rfl) (by decide) ?_
      refine r_aload_n C dX3_ofRow_59 rfl rfl ?_
      refine r_iload_n C dX3_ofRow_60 rfl rfl ?_
      rw [show (.int (iI (z)) : Value) = .int (iI ((z.toNat : Nat) : Int)) from by rw [Int.toNat_of_nonneg (by omega)]]
      refine r_callV (As := [.int (iI ((z.toNat : Nat) : Int))]) (rest := []) (na := 1) C (c_X3_sampleSize G tc l ad N _ s hX ho hN z.toNat (by omega)) gX3_ofRow_X3_sampleSize rfl rfl rfl (by decide +kernel) ⟨Nat.le_of_ble_eq_true rfl, Nat.le_of_ble_eq_true rfl⟩ (by omega) h0 (show vwCl[3]? = some (RX3, TX3, 11) from rfl) rfl rfl (Nat.le_of_ble_eq_true rfl) dX3_ofRow_61 ⟨Nat.le_of_ble_eq_true rfl, Nat.le_of_ble_eq_true rfl⟩ (aft_I (fun f22 hF23 => ?_))
      obtain ⟨hx20, ow21⟩ := hF23
      exact hret f22 ((smp (cur s) z.toNat : Nat) : Int) _ _ dX3_ofRow_64 (by unfold aOfr; rw [if_pos (by omega), if_neg (by omega), if_neg (by omega), if_pos (by omega)]) (⟨hx20, fun q hq => (ow21 _ (by omega))⟩)
    by_cases s24 : (w) = 3
    · refine r_tin (tgt := 65) C ⟨by omega, by omega⟩ dX3_ofRow_11 (by omega) (by omega) (by rw [s24]; rfl) (by decide) ?_
      refine r_aload_n C dX3_ofRow_65 rfl rfl ?_
      refine r_iload_n C dX3_ofRow_66 rfl rfl ?_
      rw [show (.int (iI (z)) : Value) = .int (iI ((z.toNat : Nat) : Int)) from by rw [Int.toNat_of_nonneg (by omega)]]
      refine r_callV (As := [.int (iI ((z.toNat : Nat) : Int))]) (rest := []) (na := 1) C (c_X3_greatestOfSample G tc l ad N _ s hX ho hN z.toNat (by omega)) gX3_ofRow_X3_greatestOfSample rfl rfl rfl (by decide +kernel) ⟨Nat.le_of_ble_eq_true rfl, Nat.le_of_ble_eq_true rfl⟩ (by omega) h0 (show vwCl[3]? = some (RX3, TX3, 11) from rfl) rfl rfl (Nat.le_of_ble_eq_true rfl) dX3_ofRow_67 ⟨Nat.le_of_ble_eq_true rfl, Nat.le_of_ble_eq_true rfl⟩ (aft_I (fun f27 hF28 => ?_))
      obtain ⟨hx25, ow26⟩ := hF28
      exact hret f27 (grt (cur s) z.toNat) _ _ dX3_ofRow_70 (by unfold aOfr; rw [if_pos (by omega), if_neg (by omega), if_neg (by omega), if_neg (by omega), if_pos (by omega)]) (⟨hx25, fun q hq => (ow26 _ (by omega))⟩)
    refine r_tout (tgt := 71) C ⟨by omega, by omega⟩ dX3_ofRow_11 (by omega) (by decide) ?_
    refine r_bipush C ((-2)) (by decide) dX3_ofRow_71 ?_
    exact hret f ((-2)) _ _ dX3_ofRow_73 (by unfold aOfr; rw [if_pos (by omega), if_neg (by omega), if_neg (by omega), if_neg (by omega), if_neg (by omega)]) (⟨hX, fun _ _ => rfl⟩)
  · refine r_iconst C ((-1)) (by decide) dX3_ofRow_8 ?_
    exact hret f ((-1)) _ _ dX3_ofRow_9 (by unfold aOfr; rw [if_neg (by omega)]) (⟨hX, fun _ _ => rfl⟩)
set_option maxHeartbeats 4000000 in
set_option maxRecDepth 100000 in
/-- sample -/
theorem c_X3_sample (G : va_G) (tc : Nat → ClassId) (l : Launch) (ad : Nat → Nat) (N : Nat) (f : Nat → va_E) (s : SG) (hX : XI tc ad f s) (ho : okS s) (hN : 98 ≤ N) (z p w : Int) (hz : inR z) (hp : inR p) (hw : inR w)   : Ct G tc l yX3_sample wsX3_sample { frames := 5, cells := 0, slots := 0, locals := 115 } 0 0 [.ref (ad (0)), .int (iI (z)), .int (iI (p)), .int (iI (w))] ad N f (poI ad N (aSmp s z p w) (fun f' => XI tc ad f' s ∧ ∀ q, 88 ≤ q → f' q = f q)) := by
  obtain ⟨h0, ⟨h1, h2, h3, h4⟩, hHis, hSlo, h40, hWds, hPr, hHd⟩ := id hX
  obtain ⟨⟨⟨a1, a2⟩, ⟨a3, a4⟩, ⟨a5, a6⟩, a7, a8, a9, a10⟩, o2, o3, o4, o5, o6⟩ := id ho
  refine stI (cc := cX3_sample) (maxL := 4) (lv := [(0, .ref (ad (0))), (1, .int (iI (z))), (2, .int (iI (p))), (3, .int (iI (w)))]) (by decide) rfl (Nat.le_of_ble_eq_true rfl) rfl (fun X C hret => ?_)
  have m0 : Cond.fieldLink RX3 115 "WordSamples$Words" "values" "[I" ∈ wsX3_sample := by decide +kernel
  have m1 : ∀ w ∈ wsX20, w ∈ wsX3_sample := by decide +kernel
  have m2 : Cond.fieldLink RX3 118 "WordSamples$Words" "codes" "[I" ∈ wsX3_sample := by decide +kernel
  have m3 : Cond.fieldLink RX3 121 "WordSamples$Words" "times" "[I" ∈ wsX3_sample := by decide +kernel
  refine r_aload_n C dX3_sample_0 rfl rfl ?_
  refine r_iload_n C dX3_sample_1 rfl rfl ?_
  refine r_callV (As := [.int (iI (z))]) (rest := []) (na := 1) C (c_X3_noRow G tc l ad N _ s hX ho hN z hz) gX3_sample_X3_noRow rfl rfl rfl (by decide +kernel) ⟨Nat.le_of_ble_eq_true rfl, Nat.le_of_ble_eq_true rfl⟩ (by omega) h0 (show vwCl[3]? = some (RX3, TX3, 11) from rfl) rfl rfl (Nat.le_of_ble_eq_true rfl) dX3_sample_2 ⟨Nat.le_of_ble_eq_true rfl, Nat.le_of_ble_eq_true rfl⟩ (aft_I (fun f1 hF2 => ?_))
  rw [hF2]
  refine r_if_ne (tgt := 21) C ⟨by omega, by omega⟩ dX3_sample_5 (by decide) (fun b3 => ?_) (fun b3 => ?_)
  · refine r_iconst C ((-1)) (by decide) dX3_sample_21 ?_
    exact hret f ((-1)) _ _ dX3_sample_22 (by unfold aSmp; rw [if_neg (by omega)]) (⟨hX, fun _ _ => rfl⟩)
  · refine r_iload_n C dX3_sample_8 rfl rfl ?_
    refine r_if_lt (tgt := 21) C ⟨by omega, by omega⟩ dX3_sample_9 (by decide) (fun b4 => ?_) (fun b4 => ?_)
    · refine r_iconst C ((-1)) (by decide) dX3_sample_21 ?_
      exact hret f ((-1)) _ _ dX3_sample_22 (by unfold aSmp; rw [if_neg (by omega)]) (⟨hX, fun _ _ => rfl⟩)
    · refine r_iload_n C dX3_sample_12 rfl rfl ?_
      refine r_aload_n C dX3_sample_13 rfl rfl ?_
      have qsm := smp_le (cur s) z.toNat
      have q64 := wds_le ho.1 (r := z.toNat) (by omega)
      refine r_iload_n C dX3_sample_14 rfl rfl ?_
      rw [show (.int (iI (z)) : Value) = .int (iI ((z.toNat : Nat) : Int)) from by rw [Int.toNat_of_nonneg (by omega)]]
      refine r_callV (As := [.int (iI ((z.toNat : Nat) : Int))]) (rest := [.int (iI (p))]) (na := 1) C (c_X3_sampleSize G tc l ad N _ s hX ho hN z.toNat (by omega)) gX3_sample_X3_sampleSize rfl rfl rfl (by decide +kernel) ⟨Nat.le_of_ble_eq_true rfl, Nat.le_of_ble_eq_true rfl⟩ (by omega) h0 (show vwCl[3]? = some (RX3, TX3, 11) from rfl) rfl rfl (Nat.le_of_ble_eq_true rfl) dX3_sample_15 ⟨Nat.le_of_ble_eq_true rfl, Nat.le_of_ble_eq_true rfl⟩ (aft_I (fun f7 hF8 => ?_))
      obtain ⟨hx5, ow6⟩ := hF8
      refine r_icmp_lt (tgt := 23) C ⟨by omega, by omega⟩ ⟨by omega, by omega⟩ dX3_sample_18 (by decide) (fun b9 => ?_) (fun b9 => ?_)
      · obtain ⟨x10, ⟨x11, x12, x13, x14⟩, -⟩ := id hx5
        refine r_iload_n C dX3_sample_23 rfl rfl ?_
        by_cases s15 : (w) = 0
        · refine r_tin (tgt := 52) C ⟨by omega, by omega⟩ dX3_sample_24 (by omega) (by omega) (by rw [s15]; rfl) (by decide) ?_
          refine r_aload_n C dX3_sample_52 rfl rfl ?_
          refine r_iload_n C dX3_sample_53 rfl rfl ?_
          refine r_callV (As := [.int (iI ((z.toNat : Nat) : Int))]) (rest := []) (na := 1) C (c_X3_wordsOf G tc l ad N _ s hx5 ho hN z.toNat (by omega)) gX3_sample_X3_wordsOf rfl rfl rfl (by decide +kernel) ⟨Nat.le_of_ble_eq_true rfl, Nat.le_of_ble_eq_true rfl⟩ (by omega) x10 (show vwCl[3]? = some (RX3, TX3, 11) from rfl) rfl rfl (Nat.le_of_ble_eq_true rfl) dX3_sample_54 ⟨Nat.le_of_ble_eq_true rfl, Nat.le_of_ble_eq_true rfl⟩ (aft_A (fun f27 hF28 => ?_))
          obtain ⟨hx16, hw17, ow18⟩ := hF28
          obtain ⟨wv19, wc20, wt21, y22, y23, y24, y25, yw26⟩ := id hw17
          refine r_get (v := .ref (ad (42 + 4 * z.toNat + 1))) C (by omega) y22 (show vwCl[2]? = some (RX2, TX2, 4) from rfl) m1 0 (by decide) m0 rfl rfl dX3_sample_57 ?_
          refine r_iload_n C dX3_sample_60 rfl rfl ?_
          refine r_iald (x := (iI (((wds (cur s) z.toNat).2.1 p.toNat : Nat) : Int))) C (by omega) y23 (p.toNat) (by omega) (by omega) (Nat.le_of_ble_eq_true rfl) ((yw26 _ (by omega)).1) dX3_sample_61 ?_
          exact hret f27 (((wds (cur s) z.toNat).2.1 p.toNat : Nat) : Int) _ _ dX3_sample_62 (by unfold aSmp; rw [if_pos (by omega), if_pos (by omega)]) (⟨hx16, fun q hq => ((ow18 _ (by omega))).trans (ow6 _ (by omega))⟩)
        by_cases s29 : (w) = 1
        · refine r_tin (tgt := 63) C ⟨by omega, by omega⟩ dX3_sample_24 (by omega) (by omega) (by rw [s29]; rfl) (by decide) ?_
          refine r_aload_n C dX3_sample_63 rfl rfl ?_
          refine r_iload_n C dX3_sample_64 rfl rfl ?_
          refine r_callV (As := [.int (iI ((z.toNat : Nat) : Int))]) (rest := []) (na := 1) C (c_X3_wordsOf G tc l ad N _ s hx5 ho hN z.toNat (by omega)) gX3_sample_X3_wordsOf rfl rfl rfl (by decide +kernel) ⟨Nat.le_of_ble_eq_true rfl, Nat.le_of_ble_eq_true rfl⟩ (by omega) x10 (show vwCl[3]? = some (RX3, TX3, 11) from rfl) rfl rfl (Nat.le_of_ble_eq_true rfl) dX3_sample_65 ⟨Nat.le_of_ble_eq_true rfl, Nat.le_of_ble_eq_true rfl⟩ (aft_A (fun f41 hF42 => ?_))
          obtain ⟨hx30, hw31, ow32⟩ := hF42
          obtain ⟨wv33, wc34, wt35, y36, y37, y38, y39, yw40⟩ := id hw31
          refine r_get (v := .ref (ad (42 + 4 * z.toNat + 2))) C (by omega) y36 (show vwCl[2]? = some (RX2, TX2, 4) from rfl) m1 1 (by decide) m2 rfl rfl dX3_sample_68 ?_
          refine r_iload_n C dX3_sample_71 rfl rfl ?_
          refine r_iald (x := (iI (((wds (cur s) z.toNat).2.2.1 p.toNat : Nat) : Int))) C (by omega) y38 (p.toNat) (by omega) (by omega) (Nat.le_of_ble_eq_true rfl) ((yw40 _ (by omega)).2.1) dX3_sample_72 ?_
          exact hret f41 (((wds (cur s) z.toNat).2.2.1 p.toNat : Nat) : Int) _ _ dX3_sample_73 (by unfold aSmp; rw [if_pos (by omega), if_neg (by omega), if_pos (by omega)]) (⟨hx30, fun q hq => ((ow32 _ (by omega))).trans (ow6 _ (by omega))⟩)
        by_cases s43 : (w) = 2
        · refine r_tin (tgt := 74) C ⟨by omega, by omega⟩ dX3_sample_24 (by omega) (by omega) (by rw [s43]; rfl) (by decide) ?_
          refine r_aload_n C dX3_sample_74 rfl rfl ?_
          refine r_iload_n C dX3_sample_75 rfl rfl ?_
          refine r_callV (As := [.int (iI ((z.toNat : Nat) : Int))]) (rest := []) (na := 1) C (c_X3_wordsOf G tc l ad N _ s hx5 ho hN z.toNat (by omega)) gX3_sample_X3_wordsOf rfl rfl rfl (by decide +kernel) ⟨Nat.le_of_ble_eq_true rfl, Nat.le_of_ble_eq_true rfl⟩ (by omega) x10 (show vwCl[3]? = some (RX3, TX3, 11) from rfl) rfl rfl (Nat.le_of_ble_eq_true rfl) dX3_sample_76 ⟨Nat.le_of_ble_eq_true rfl, Nat.le_of_ble_eq_true rfl⟩ (aft_A (fun f55 hF56 => ?_))
          obtain ⟨hx44, hw45, ow46⟩ := hF56
          obtain ⟨wv47, wc48, wt49, y50, y51, y52, y53, yw54⟩ := id hw45
          refine r_get (v := .ref (ad (42 + 4 * z.toNat + 3))) C (by omega) y50 (show vwCl[2]? = some (RX2, TX2, 4) from rfl) m1 2 (by decide) m3 rfl rfl dX3_sample_79 ?_
          refine r_iload_n C dX3_sample_82 rfl rfl ?_
          refine r_iald (x := (iI (((wds (cur s) z.toNat).2.2.2 p.toNat : Nat) : Int))) C (by omega) y53 (p.toNat) (by omega) (by omega) (Nat.le_of_ble_eq_true rfl) ((yw54 _ (by omega)).2.2) dX3_sample_83 ?_
          exact hret f55 (((wds (cur s) z.toNat).2.2.2 p.toNat : Nat) : Int) _ _ dX3_sample_84 (by unfold aSmp; rw [if_pos (by omega), if_neg (by omega), if_neg (by omega), if_pos (by omega)]) (⟨hx44, fun q hq => ((ow46 _ (by omega))).trans (ow6 _ (by omega))⟩)
        refine r_tout (tgt := 85) C ⟨by omega, by omega⟩ dX3_sample_24 (by omega) (by decide) ?_
        refine r_bipush C ((-2)) (by decide) dX3_sample_85 ?_
        exact hret f7 ((-2)) _ _ dX3_sample_87 (by unfold aSmp; rw [if_pos (by omega), if_neg (by omega), if_neg (by omega), if_neg (by omega)]) (⟨hx5, fun q hq => (ow6 _ (by omega))⟩)
      · refine r_iconst C ((-1)) (by decide) dX3_sample_21 ?_
        exact hret f7 ((-1)) _ _ dX3_sample_22 (by unfold aSmp; rw [if_neg (by omega)]) (⟨hx5, fun q hq => (ow6 _ (by omega))⟩)
set_option maxHeartbeats 4000000 in
set_option maxRecDepth 100000 in
/-- shareDown -/
theorem c_X3_shareDown (G : va_G) (tc : Nat → ClassId) (l : Launch) (ad : Nat → Nat) (N : Nat) (f : Nat → va_E) (p w : Nat) (hp : p ≤ 1000) (hw : w ≤ 1000)   : Ct G tc l yX3_shareDown wsX3_shareDown { frames := 0, cells := 0, slots := 0, locals := 0 } 0 0 [.int (iI ((p : Nat) : Int)), .int (iI ((w : Nat) : Int))] ad N f (poI ad N (((shd p w : Nat) : Int)) (fun f' => f' = f)) := by
  refine stI (cc := cX3_shareDown) (maxL := 2) (lv := [(0, .int (iI ((p : Nat) : Int))), (1, .int (iI ((w : Nat) : Int)))]) (by decide) rfl (Nat.le_of_ble_eq_true rfl) rfl (fun X C hret => ?_)
  refine r_iload_n C dX3_shareDown_0 rfl rfl ?_
  refine r_if_gt (tgt := 8) C ⟨by omega, by omega⟩ dX3_shareDown_1 (by decide) (fun b1 => ?_) (fun b1 => ?_)
  · refine r_iload_n C dX3_shareDown_8 rfl rfl ?_
    refine r_sipush C ((10000 : Nat) : Int) (by decide) dX3_shareDown_9 ?_
    refine r_imul C ((p * 10000 : Nat) : Int) (by omega) dX3_shareDown_12 ?_
    refine r_iload_n C dX3_shareDown_13 rfl rfl ?_
    refine r_idiv C ((p * 10000 / w : Nat) : Int) (Int.natCast_ediv _ _).symm ⟨by omega, by omega⟩ (by omega) ⟨by omega, by omega⟩ (by omega) dX3_shareDown_14 ?_
    exact hret f ((p * 10000 / w : Nat) : Int) _ _ dX3_shareDown_15 (by unfold shd; rw [if_neg (by omega)]) rfl
  · refine r_iconst C ((0 : Nat) : Int) (by decide) dX3_shareDown_4 ?_
    refine r_goto (tgt := 15) C dX3_shareDown_5 (by decide) ?_
    exact hret f ((0 : Nat) : Int) _ _ dX3_shareDown_15 (by unfold shd; rw [if_pos (by omega)]) rfl
set_option maxHeartbeats 4000000 in
set_option maxRecDepth 100000 in
/-- shareUp -/
theorem c_X3_shareUp (G : va_G) (tc : Nat → ClassId) (l : Launch) (ad : Nat → Nat) (N : Nat) (f : Nat → va_E) (p w : Nat) (hp : p ≤ 1000) (hw : w ≤ 1000)   : Ct G tc l yX3_shareUp wsX3_shareUp { frames := 0, cells := 0, slots := 0, locals := 0 } 0 0 [.int (iI ((p : Nat) : Int)), .int (iI ((w : Nat) : Int))] ad N f (poI ad N (((shu p w : Nat) : Int)) (fun f' => f' = f)) := by
  refine stI (cc := cX3_shareUp) (maxL := 2) (lv := [(0, .int (iI ((p : Nat) : Int))), (1, .int (iI ((w : Nat) : Int)))]) (by decide) rfl (Nat.le_of_ble_eq_true rfl) rfl (fun X C hret => ?_)
  refine r_iload_n C dX3_shareUp_0 rfl rfl ?_
  refine r_if_gt (tgt := 8) C ⟨by omega, by omega⟩ dX3_shareUp_1 (by decide) (fun b1 => ?_) (fun b1 => ?_)
  · refine r_iload_n C dX3_shareUp_8 rfl rfl ?_
    refine r_sipush C ((10000 : Nat) : Int) (by decide) dX3_shareUp_9 ?_
    refine r_imul C ((p * 10000 : Nat) : Int) (by omega) dX3_shareUp_12 ?_
    refine r_iload_n C dX3_shareUp_13 rfl rfl ?_
    refine r_iadd C ((p * 10000 + w : Nat) : Int) (by omega) dX3_shareUp_14 ?_
    refine r_iconst C ((1 : Nat) : Int) (by decide) dX3_shareUp_15 ?_
    refine r_isub C ((p * 10000 + w - 1 : Nat) : Int) (by omega) dX3_shareUp_16 ?_
    refine r_iload_n C dX3_shareUp_17 rfl rfl ?_
    refine r_idiv C (((p * 10000 + w - 1) / w : Nat) : Int) (Int.natCast_ediv _ _).symm ⟨by omega, by omega⟩ (by omega) ⟨by omega, by omega⟩ (by omega) dX3_shareUp_18 ?_
    exact hret f (((p * 10000 + w - 1) / w : Nat) : Int) _ _ dX3_shareUp_19 (by unfold shu; rw [if_neg (by omega)]) rfl
  · refine r_iconst C ((0 : Nat) : Int) (by decide) dX3_shareUp_4 ?_
    refine r_goto (tgt := 19) C dX3_shareUp_5 (by decide) ?_
    exact hret f ((0 : Nat) : Int) _ _ dX3_shareUp_19 (by unfold shu; rw [if_pos (by omega)]) rfl
set_option maxHeartbeats 4000000 in
set_option maxRecDepth 100000 in
/-- measure: two rows are run through together -/
theorem c_X0_measure (G : va_G) (tc : Nat → ClassId) (l : Launch) (ad : Nat → Nat) (N : Nat) (f : Nat → va_E) (a b : WW) (ha64 : a.1 ≤ 64) (hb64 : b.1 ≤ 64) (ha : ∀ j, j < a.1 → a.2.1 j < 1000003) (hb : ∀ j, j < b.1 → b.2.1 j < 1000003) (ia ib : Nat) (hN : 98 ≤ N) (hia : ia + 4 ≤ 83) (hib : ib + 4 ≤ 83) (hwa : isWd tc ad f ia a) (hwb : isWd tc ad f ib b) (hpr : iPr tc ad f)   : Ct G tc l yX0_measure wsX0_measure { frames := 1, cells := 0, slots := 0, locals := 21 } 0 0 [.ref (ad (83)), .ref (ad (ia)), .ref (ad (ib))] ad N f (poV ad N (fun f' => isPr tc ad f' a b ∧ ∀ q, (q < 83 ∨ 87 ≤ q) → f' q = f q)) := by
  obtain ⟨x1, x2, x3, x4, e1, e2, e3, p0, p1, p2, p3, z1, z2, z3⟩ := id hpr
  obtain ⟨av, ac, at_, ya0, ya1, ya2, ya3, yaw⟩ := id hwa
  obtain ⟨bv, bc, bt_, yb0, yb1, yb2, yb3, ybw⟩ := id hwb
  refine stV (cc := cX0_measure) (maxL := 8) (lv := [(0, .ref (ad (83))), (1, .ref (ad (ia))), (2, .ref (ad (ib)))]) (by decide) rfl (Nat.le_of_ble_eq_true rfl) rfl (fun X C hret => ?_)
  have m0 : Cond.fieldLink RX0 34 "WordSamples$Words" "size" "I" ∈ wsX0_measure := by decide +kernel
  have m1 : ∀ w ∈ wsX20, w ∈ wsX0_measure := by decide +kernel
  have m2 : Cond.fieldLink RX0 21 "WordSamples$Pair" "firstWords" "I" ∈ wsX0_measure := by decide +kernel
  have m3 : ∀ w ∈ wsX00, w ∈ wsX0_measure := by decide +kernel
  have m4 : Cond.fieldLink RX0 25 "WordSamples$Pair" "secondWords" "I" ∈ wsX0_measure := by decide +kernel
  have m5 : Cond.fieldLink RX0 28 "WordSamples$Pair" "inEither" "I" ∈ wsX0_measure := by decide +kernel
  have m6 : Cond.fieldLink RX0 31 "WordSamples$Pair" "inBoth" "I" ∈ wsX0_measure := by decide +kernel
  have m7 : Cond.fieldLink RX0 15 "WordSamples$Pair" "firstAmong" "[I" ∈ wsX0_measure := by decide +kernel
  have m8 : Cond.fieldLink RX0 18 "WordSamples$Pair" "secondAmong" "[I" ∈ wsX0_measure := by decide +kernel
  have m9 : Cond.fieldLink RX0 9 "WordSamples$Pair" "bothAmong" "[I" ∈ wsX0_measure := by decide +kernel
  have m10 : Cond.constant RX0 43 (1000003) ∈ wsX0_measure := by decide +kernel
  refine r_aload_n C dX0_measure_0 rfl rfl ?_
  refine r_aload_n C dX0_measure_1 rfl rfl ?_
  refine r_get (v := .int (iI ((a.1 : Nat) : Int))) C (by omega) ya0 (show vwCl[2]? = some (RX2, TX2, 4) from rfl) m1 3 (by decide) m0 rfl rfl dX0_measure_2 ?_
  refine r_put (ty := .int) C (by omega) p0 (show vwCl[0]? = some (RX0, TX0, 7) from rfl) m3 tyX0_ok nmX0 3 (by decide) m2 rfl rfl (by decide +kernel) rfl rfl (Nat.le_of_ble_eq_true rfl) dX0_measure_5 (fun f1 hs2 ho3 => ?_)
  have c4 : f1 (83) = eO 0 [.ref (ad (84)), .ref (ad (85)), .ref (ad (86)), .int (iI ((a.1 : Nat) : Int)), .int (x2), .int (x3), .int (x4)] := hs2
  refine r_aload_n C dX0_measure_8 rfl rfl ?_
  refine r_aload_n C dX0_measure_9 rfl rfl ?_
  have c5 : f1 (ib) = eO 2 [.ref (ad (ib + 1)), .ref (ad (ib + 2)), .ref (ad (ib + 3)), .int (iI ((b.1 : Nat) : Int))] := (ho3 _ (by omega)).trans yb0
  refine r_get (v := .int (iI ((b.1 : Nat) : Int))) C (by omega) c5 (show vwCl[2]? = some (RX2, TX2, 4) from rfl) m1 3 (by decide) m0 rfl rfl dX0_measure_10 ?_
  refine r_put (ty := .int) C (by omega) c4 (show vwCl[0]? = some (RX0, TX0, 7) from rfl) m3 tyX0_ok nmX0 4 (by decide) m4 rfl rfl (by decide +kernel) rfl rfl (Nat.le_of_ble_eq_true rfl) dX0_measure_13 (fun f6 hs7 ho8 => ?_)
  have c9 : f6 (83) = eO 0 [.ref (ad (84)), .ref (ad (85)), .ref (ad (86)), .int (iI ((a.1 : Nat) : Int)), .int (iI ((b.1 : Nat) : Int)), .int (x3), .int (x4)] := hs7
  refine r_aload_n C dX0_measure_16 rfl rfl ?_
  refine r_iconst C ((0 : Nat) : Int) (by decide) dX0_measure_17 ?_
  refine r_put (ty := .int) C (by omega) c9 (show vwCl[0]? = some (RX0, TX0, 7) from rfl) m3 tyX0_ok nmX0 5 (by decide) m5 rfl rfl (by decide +kernel) rfl rfl (Nat.le_of_ble_eq_true rfl) dX0_measure_18 (fun f10 hs11 ho12 => ?_)
  have c13 : f10 (83) = eO 0 [.ref (ad (84)), .ref (ad (85)), .ref (ad (86)), .int (iI ((a.1 : Nat) : Int)), .int (iI ((b.1 : Nat) : Int)), .int (iI ((0 : Nat) : Int)), .int (x4)] := hs11
  refine r_aload_n C dX0_measure_21 rfl rfl ?_
  refine r_iconst C ((0 : Nat) : Int) (by decide) dX0_measure_22 ?_
  refine r_put (ty := .int) C (by omega) c13 (show vwCl[0]? = some (RX0, TX0, 7) from rfl) m3 tyX0_ok nmX0 6 (by decide) m6 rfl rfl (by decide +kernel) rfl rfl (Nat.le_of_ble_eq_true rfl) dX0_measure_23 (fun f14 hs15 ho16 => ?_)
  have c17 : f14 (83) = eO 0 [.ref (ad (84)), .ref (ad (85)), .ref (ad (86)), .int (iI ((a.1 : Nat) : Int)), .int (iI ((b.1 : Nat) : Int)), .int (iI ((0 : Nat) : Int)), .int (iI ((0 : Nat) : Int))] := hs15
  refine r_iconst C ((0 : Nat) : Int) (by decide) dX0_measure_26 ?_
  refine r_istore_n (lv' := [(0, .ref (ad (83))), (1, .ref (ad (ia))), (2, .ref (ad (ib))), (3, .int (iI ((0 : Nat) : Int)))]) C dX0_measure_27 rfl (by decide) rfl ?_
  refine r_iconst C ((0 : Nat) : Int) (by decide) dX0_measure_28 ?_
  refine r_istore (lv' := [(0, .ref (ad (83))), (1, .ref (ad (ia))), (2, .ref (ad (ib))), (3, .int (iI ((0 : Nat) : Int))), (4, .int (iI ((0 : Nat) : Int)))]) C dX0_measure_29 (by decide) rfl ?_
  refine r_iconst C ((0 : Nat) : Int) (by decide) dX0_measure_31 ?_
  refine r_istore (lv' := [(0, .ref (ad (83))), (1, .ref (ad (ia))), (2, .ref (ad (ib))), (3, .int (iI ((0 : Nat) : Int))), (4, .int (iI ((0 : Nat) : Int))), (5, .int (iI ((0 : Nat) : Int)))]) C dX0_measure_32 (by decide) rfl ?_
  have hL24 : ∀ (m_25 : Nat) (k : Nat) (d1 : Nat → Int32) (d2 : Nat → Int32) (d3 : Nat → Int32) (f18 : Nat → va_E) (hm19 : f18 (83) = eO 0 [.ref (ad (84)), .ref (ad (85)), .ref (ad (86)), .int (iI ((a.1 : Nat) : Int)), .int (iI ((b.1 : Nat) : Int)), .int (iI ((k : Nat) : Int)), .int (iI (((mg a b (k)).2.2 : Nat) : Int))]) (hm20 : f18 (84) = eI tc 33 (d1)) (hm21 : f18 (85) = eI tc 33 (d2)) (hm22 : f18 (86) = eI tc 33 (d3)) (ho23 : ∀ q, (q < 83 ∨ 87 ≤ q) → f18 q = f14 q) (hk : k ≤ a.1 + b.1) (hinv : (mg a b (k)).1 + (mg a b (k)).2.1 = k + (mg a b (k)).2.2) (hd : ∀ t, t ≤ 32 → t ≤ k → d1 t = iI (((mg a b (t)).2.2 : Nat) : Int) ∧ d2 t = iI (((mg a b (t)).1 : Nat) : Int) ∧ d3 t = iI (((mg a b (t)).2.1 : Nat) : Int)), a.1 + b.1 - k < m_25 → VV X ad N f18 0 0 34 [(0, .ref (ad (83))), (1, .ref (ad (ia))), (2, .ref (ad (ib))), (3, .int (iI (((mg a b (k)).1 : Nat) : Int))), (4, .int (iI (((mg a b (k)).2.1 : Nat) : Int))), (5, .int (iI ((k : Nat) : Int)))] [] := by
    intro m_25
    induction m_25 with
    | zero => intros; omega
    | succ m_25 ih26 =>
      intro k d1 d2 d3 f18 hm19 hm20 hm21 hm22 ho23 hk hinv hd hm27
      refine r_iload C dX0_measure_34 rfl ?_
      have hmi0 := mg_in ha hb k
      refine r_aload_n C dX0_measure_36 rfl rfl ?_
      refine r_get (v := .int (iI ((a.1 : Nat) : Int))) C (by omega) hm19 (show vwCl[0]? = some (RX0, TX0, 7) from rfl) m3 3 (by decide) m2 rfl rfl dX0_measure_37 ?_
      refine r_aload_n C dX0_measure_40 rfl rfl ?_
      refine r_get (v := .int (iI ((b.1 : Nat) : Int))) C (by omega) hm19 (show vwCl[0]? = some (RX0, TX0, 7) from rfl) m3 4 (by decide) m4 rfl rfl dX0_measure_41 ?_
      refine r_iadd C ((a.1 + b.1 : Nat) : Int) (by omega) dX0_measure_44 ?_
      refine r_icmp_ge (tgt := 192) C ⟨by omega, by omega⟩ ⟨by omega, by omega⟩ dX0_measure_45 (by decide) (fun b28 => ?_) (fun b28 => ?_)
      · have hfin := mg_fin ha hb (k := k) (by omega) (by omega) hinv
        have hisP : isPr tc ad f18 a b := ⟨_, _, _, by rw [← hfin.1, ← hfin.2]; exact hm19, hm20, hm21, hm22, fun t h1 h2 => hd t h1 (by omega)⟩
        exact hret f18 _ _ dX0_measure_192 (⟨hisP, fun q hq => (((((ho23 _ (by omega))).trans (ho16 _ (by omega))).trans (ho12 _ (by omega))).trans (ho8 _ (by omega))).trans (ho3 _ (by omega))⟩)
      · have hmi := mg_in ha hb k
        refine r_aload_n C dX0_measure_48 rfl rfl ?_
        refine r_iload_n C dX0_measure_49 rfl rfl ?_
        have c31 : f1 (ia) = eO 2 [.ref (ad (ia + 1)), .ref (ad (ia + 2)), .ref (ad (ia + 3)), .int (iI ((a.1 : Nat) : Int))] := (ho3 _ (by omega)).trans ya0
        have c32 : f6 (ia) = eO 2 [.ref (ad (ia + 1)), .ref (ad (ia + 2)), .ref (ad (ia + 3)), .int (iI ((a.1 : Nat) : Int))] := (ho8 _ (by omega)).trans c31
        have c33 : f10 (ia) = eO 2 [.ref (ad (ia + 1)), .ref (ad (ia + 2)), .ref (ad (ia + 3)), .int (iI ((a.1 : Nat) : Int))] := (ho12 _ (by omega)).trans c32
        have c34 : f14 (ia) = eO 2 [.ref (ad (ia + 1)), .ref (ad (ia + 2)), .ref (ad (ia + 3)), .int (iI ((a.1 : Nat) : Int))] := (ho16 _ (by omega)).trans c33
        have c35 : f18 (ia) = eO 2 [.ref (ad (ia + 1)), .ref (ad (ia + 2)), .ref (ad (ia + 3)), .int (iI ((a.1 : Nat) : Int))] := (ho23 _ (by omega)).trans c34
        refine r_callV (As := [.int (iI (((mg a b (k)).1 : Nat) : Int))]) (rest := []) (na := 1) C (c_X2_valueAt G tc l ad N _ ia a ((hwa).fr (fun q g1 g2 => (((((ho23 _ (by omega))).trans (ho16 _ (by omega))).trans (ho12 _ (by omega))).trans (ho8 _ (by omega))).trans (ho3 _ (by omega)))) (by omega) ha64 ha (((mg a b (k)).1 : Nat) : Int) ⟨by omega, by omega⟩) gX0_measure_X2_valueAt rfl rfl rfl (by decide +kernel) ⟨Nat.le_of_ble_eq_true rfl, Nat.le_of_ble_eq_true rfl⟩ (by omega) c35 (show vwCl[2]? = some (RX2, TX2, 4) from rfl) rfl rfl (Nat.le_of_ble_eq_true rfl) dX0_measure_50 ⟨Nat.le_of_ble_eq_true rfl, Nat.le_of_ble_eq_true rfl⟩ (aft_I (fun f29 hF30 => ?_))
        rw [hF30]
        rw [show (.int (iI (vat a (((mg a b (k)).1 : Nat) : Int))) : Value) = .int (iI ((vatN a (mg a b (k)).1 : Nat) : Int)) from by rw [vat_N]]
        refine r_istore (lv' := [(0, .ref (ad (83))), (1, .ref (ad (ia))), (2, .ref (ad (ib))), (3, .int (iI (((mg a b (k)).1 : Nat) : Int))), (4, .int (iI (((mg a b (k)).2.1 : Nat) : Int))), (5, .int (iI ((k : Nat) : Int))), (6, .int (iI ((vatN a (mg a b (k)).1 : Nat) : Int)))]) C dX0_measure_53 (by decide) rfl ?_
        refine r_aload_n C dX0_measure_55 rfl rfl ?_
        refine r_iload C dX0_measure_56 rfl ?_
        have c38 : f6 (ib) = eO 2 [.ref (ad (ib + 1)), .ref (ad (ib + 2)), .ref (ad (ib + 3)), .int (iI ((b.1 : Nat) : Int))] := (ho8 _ (by omega)).trans c5
        have c39 : f10 (ib) = eO 2 [.ref (ad (ib + 1)), .ref (ad (ib + 2)), .ref (ad (ib + 3)), .int (iI ((b.1 : Nat) : Int))] := (ho12 _ (by omega)).trans c38
        have c40 : f14 (ib) = eO 2 [.ref (ad (ib + 1)), .ref (ad (ib + 2)), .ref (ad (ib + 3)), .int (iI ((b.1 : Nat) : Int))] := (ho16 _ (by omega)).trans c39
        have c41 : f18 (ib) = eO 2 [.ref (ad (ib + 1)), .ref (ad (ib + 2)), .ref (ad (ib + 3)), .int (iI ((b.1 : Nat) : Int))] := (ho23 _ (by omega)).trans c40
        refine r_callV (As := [.int (iI (((mg a b (k)).2.1 : Nat) : Int))]) (rest := []) (na := 1) C (c_X2_valueAt G tc l ad N _ ib b ((hwb).fr (fun q g1 g2 => (((((ho23 _ (by omega))).trans (ho16 _ (by omega))).trans (ho12 _ (by omega))).trans (ho8 _ (by omega))).trans (ho3 _ (by omega)))) (by omega) hb64 hb (((mg a b (k)).2.1 : Nat) : Int) ⟨by omega, by omega⟩) gX0_measure_X2_valueAt rfl rfl rfl (by decide +kernel) ⟨Nat.le_of_ble_eq_true rfl, Nat.le_of_ble_eq_true rfl⟩ (by omega) c41 (show vwCl[2]? = some (RX2, TX2, 4) from rfl) rfl rfl (Nat.le_of_ble_eq_true rfl) dX0_measure_58 ⟨Nat.le_of_ble_eq_true rfl, Nat.le_of_ble_eq_true rfl⟩ (aft_I (fun f36 hF37 => ?_))
        rw [hF37]
        rw [show (.int (iI (vat b (((mg a b (k)).2.1 : Nat) : Int))) : Value) = .int (iI ((vatN b (mg a b (k)).2.1 : Nat) : Int)) from by rw [vat_N]]
        refine r_istore (lv' := [(0, .ref (ad (83))), (1, .ref (ad (ia))), (2, .ref (ad (ib))), (3, .int (iI (((mg a b (k)).1 : Nat) : Int))), (4, .int (iI (((mg a b (k)).2.1 : Nat) : Int))), (5, .int (iI ((k : Nat) : Int))), (6, .int (iI ((vatN a (mg a b (k)).1 : Nat) : Int))), (7, .int (iI ((vatN b (mg a b (k)).2.1 : Nat) : Int)))]) C dX0_measure_61 (by decide) rfl ?_
        have l1 := vatN_le ha (mg a b (k)).1
        have l2 := vatN_le hb (mg a b (k)).2.1
        have n1 := vatN_end ha (mg a b (k)).1
        have n2 := vatN_end hb (mg a b (k)).2.1
        have hJ42 : ∀  (hnot : ¬ (vatN a (mg a b (k)).1 = 1000003 ∧ vatN b (mg a b (k)).2.1 = 1000003)), VV X ad N f18 0 0 80 [(0, .ref (ad (83))), (1, .ref (ad (ia))), (2, .ref (ad (ib))), (3, .int (iI (((mg a b (k)).1 : Nat) : Int))), (4, .int (iI (((mg a b (k)).2.1 : Nat) : Int))), (5, .int (iI ((k : Nat) : Int))), (6, .int (iI ((vatN a (mg a b (k)).1 : Nat) : Int))), (7, .int (iI ((vatN b (mg a b (k)).2.1 : Nat) : Int)))] [] := by
          intro hnot
          obtain ⟨s1, s2, s3⟩ := mg_step a b k hnot
          have hmi2 := mg_in ha hb (k + 1)
          have hJ43 : ∀ (t1 : Nat) (ht1 : (vatN a (mg a b (k)).1 ≤ vatN b (mg a b (k)).2.1 ∧ t1 = 1) ∨ (¬ vatN a (mg a b (k)).1 ≤ vatN b (mg a b (k)).2.1 ∧ t1 = 0)), VV X ad N f18 0 0 93 [(0, .ref (ad (83))), (1, .ref (ad (ia))), (2, .ref (ad (ib))), (3, .int (iI (((mg a b (k)).1 : Nat) : Int))), (4, .int (iI (((mg a b (k)).2.1 : Nat) : Int))), (5, .int (iI ((k : Nat) : Int))), (6, .int (iI ((vatN a (mg a b (k)).1 : Nat) : Int))), (7, .int (iI ((vatN b (mg a b (k)).2.1 : Nat) : Int)))] [.int (iI ((t1 : Nat) : Int)), .int (iI (((mg a b (k)).1 : Nat) : Int))] := by
            intro t1 ht1
            refine r_iadd C (((mg a b (k + 1)).1 : Nat) : Int) (by omega) dX0_measure_93 ?_
            refine r_istore_n (lv' := [(0, .ref (ad (83))), (1, .ref (ad (ia))), (2, .ref (ad (ib))), (3, .int (iI (((mg a b (k + 1)).1 : Nat) : Int))), (4, .int (iI (((mg a b (k)).2.1 : Nat) : Int))), (5, .int (iI ((k : Nat) : Int))), (6, .int (iI ((vatN a (mg a b (k)).1 : Nat) : Int))), (7, .int (iI ((vatN b (mg a b (k)).2.1 : Nat) : Int)))]) C dX0_measure_94 rfl (by decide) rfl ?_
            have hJ44 : ∀ (t2 : Nat) (ht2 : (vatN b (mg a b (k)).2.1 ≤ vatN a (mg a b (k)).1 ∧ t2 = 1) ∨ (¬ vatN b (mg a b (k)).2.1 ≤ vatN a (mg a b (k)).1 ∧ t2 = 0)), VV X ad N f18 0 0 109 [(0, .ref (ad (83))), (1, .ref (ad (ia))), (2, .ref (ad (ib))), (3, .int (iI (((mg a b (k + 1)).1 : Nat) : Int))), (4, .int (iI (((mg a b (k)).2.1 : Nat) : Int))), (5, .int (iI ((k : Nat) : Int))), (6, .int (iI ((vatN a (mg a b (k)).1 : Nat) : Int))), (7, .int (iI ((vatN b (mg a b (k)).2.1 : Nat) : Int)))] [.int (iI ((t2 : Nat) : Int)), .int (iI (((mg a b (k)).2.1 : Nat) : Int))] := by
              intro t2 ht2
              refine r_iadd C (((mg a b (k + 1)).2.1 : Nat) : Int) (by omega) dX0_measure_109 ?_
              refine r_istore (lv' := [(0, .ref (ad (83))), (1, .ref (ad (ia))), (2, .ref (ad (ib))), (3, .int (iI (((mg a b (k + 1)).1 : Nat) : Int))), (4, .int (iI (((mg a b (k + 1)).2.1 : Nat) : Int))), (5, .int (iI ((k : Nat) : Int))), (6, .int (iI ((vatN a (mg a b (k)).1 : Nat) : Int))), (7, .int (iI ((vatN b (mg a b (k)).2.1 : Nat) : Int)))]) C dX0_measure_110 (by decide) rfl ?_
              refine r_aload_n C dX0_measure_112 rfl rfl ?_
              refine r_dup C dX0_measure_113 rfl ?_
              refine r_get (v := .int (iI (((mg a b (k)).2.2 : Nat) : Int))) C (by omega) hm19 (show vwCl[0]? = some (RX0, TX0, 7) from rfl) m3 6 (by decide) m6 rfl rfl dX0_measure_114 ?_
              have hJ45 : ∀ (t3 : Nat) (ht3 : (vatN a (mg a b (k)).1 = vatN b (mg a b (k)).2.1 ∧ t3 = 1) ∨ (¬ vatN a (mg a b (k)).1 = vatN b (mg a b (k)).2.1 ∧ t3 = 0)), VV X ad N f18 0 0 129 [(0, .ref (ad (83))), (1, .ref (ad (ia))), (2, .ref (ad (ib))), (3, .int (iI (((mg a b (k + 1)).1 : Nat) : Int))), (4, .int (iI (((mg a b (k + 1)).2.1 : Nat) : Int))), (5, .int (iI ((k : Nat) : Int))), (6, .int (iI ((vatN a (mg a b (k)).1 : Nat) : Int))), (7, .int (iI ((vatN b (mg a b (k)).2.1 : Nat) : Int)))] [.int (iI ((t3 : Nat) : Int)), .int (iI (((mg a b (k)).2.2 : Nat) : Int)), .ref (ad (83))] := by
                intro t3 ht3
                refine r_iadd C (((mg a b (k + 1)).2.2 : Nat) : Int) (by omega) dX0_measure_129 ?_
                refine r_put (ty := .int) C (by omega) hm19 (show vwCl[0]? = some (RX0, TX0, 7) from rfl) m3 tyX0_ok nmX0 6 (by decide) m6 rfl rfl (by decide +kernel) rfl rfl (Nat.le_of_ble_eq_true rfl) dX0_measure_130 (fun f46 hs47 ho48 => ?_)
                have c49 : f46 (83) = eO 0 [.ref (ad (84)), .ref (ad (85)), .ref (ad (86)), .int (iI ((a.1 : Nat) : Int)), .int (iI ((b.1 : Nat) : Int)), .int (iI ((k : Nat) : Int)), .int (iI (((mg a b (k + 1)).2.2 : Nat) : Int))] := hs47
                refine r_aload_n C dX0_measure_133 rfl rfl ?_
                refine r_dup C dX0_measure_134 rfl ?_
                refine r_get (v := .int (iI ((k : Nat) : Int))) C (by omega) c49 (show vwCl[0]? = some (RX0, TX0, 7) from rfl) m3 5 (by decide) m5 rfl rfl dX0_measure_135 ?_
                refine r_iconst C ((1 : Nat) : Int) (by decide) dX0_measure_138 ?_
                refine r_iadd C ((k + 1 : Nat) : Int) (by omega) dX0_measure_139 ?_
                refine r_put (ty := .int) C (by omega) c49 (show vwCl[0]? = some (RX0, TX0, 7) from rfl) m3 tyX0_ok nmX0 5 (by decide) m5 rfl rfl (by decide +kernel) rfl rfl (Nat.le_of_ble_eq_true rfl) dX0_measure_140 (fun f50 hs51 ho52 => ?_)
                have c53 : f50 (83) = eO 0 [.ref (ad (84)), .ref (ad (85)), .ref (ad (86)), .int (iI ((a.1 : Nat) : Int)), .int (iI ((b.1 : Nat) : Int)), .int (iI ((k + 1 : Nat) : Int)), .int (iI (((mg a b (k + 1)).2.2 : Nat) : Int))] := hs51
                refine r_aload_n C dX0_measure_143 rfl rfl ?_
                refine r_get (v := .int (iI ((k + 1 : Nat) : Int))) C (by omega) c53 (show vwCl[0]? = some (RX0, TX0, 7) from rfl) m3 5 (by decide) m5 rfl rfl dX0_measure_144 ?_
                refine r_bipush C ((32 : Nat) : Int) (by decide) dX0_measure_147 ?_
                refine r_icmp_gt (tgt := 186) C ⟨by omega, by omega⟩ ⟨by omega, by omega⟩ dX0_measure_149 (by decide) (fun b54 => ?_) (fun b54 => ?_)
                · refine r_iinc (lv' := [(0, .ref (ad (83))), (1, .ref (ad (ia))), (2, .ref (ad (ib))), (3, .int (iI (((mg a b (k + 1)).1 : Nat) : Int))), (4, .int (iI (((mg a b (k + 1)).2.1 : Nat) : Int))), (5, .int (iI ((k + 1 : Nat) : Int))), (6, .int (iI ((vatN a (mg a b (k)).1 : Nat) : Int))), (7, .int (iI ((vatN b (mg a b (k)).2.1 : Nat) : Int)))]) C ((k + 1 : Nat) : Int) (by omega) dX0_measure_186 rfl (by decide) rfl ?_
                  refine r_goto (tgt := 34) C dX0_measure_189 (by decide) ?_
                  refine r_sub (ks := [0, 1, 2, 3, 4, 5]) (lv' := [(0, .ref (ad (83))), (1, .ref (ad (ia))), (2, .ref (ad (ib))), (3, .int (iI (((mg a b (k + 1)).1 : Nat) : Int))), (4, .int (iI (((mg a b (k + 1)).2.1 : Nat) : Int))), (5, .int (iI ((k + 1 : Nat) : Int)))]) rfl ?_
                  have c55 : f46 (84) = eI tc 33 (d1) := (ho48 _ (by omega)).trans hm20
                  have c56 : f50 (84) = eI tc 33 (d1) := (ho52 _ (by omega)).trans c55
                  have c57 : f46 (85) = eI tc 33 (d2) := (ho48 _ (by omega)).trans hm21
                  have c58 : f50 (85) = eI tc 33 (d2) := (ho52 _ (by omega)).trans c57
                  have c59 : f46 (86) = eI tc 33 (d3) := (ho48 _ (by omega)).trans hm22
                  have c60 : f50 (86) = eI tc 33 (d3) := (ho52 _ (by omega)).trans c59
                  exact ih26 (k + 1) d1 d2 d3 f50 c53 c56 c58 c60 (fun q hq => (((ho52 _ (by omega))).trans (ho48 _ (by omega))).trans (ho23 _ (by omega))) (by omega) (by omega) (fun t h1 h2 => hd t h1 (by omega)) (by omega)
                · refine r_aload_n C dX0_measure_152 rfl rfl ?_
                  refine r_get (v := .ref (ad (85))) C (by omega) c53 (show vwCl[0]? = some (RX0, TX0, 7) from rfl) m3 1 (by decide) m7 rfl rfl dX0_measure_153 ?_
                  refine r_aload_n C dX0_measure_156 rfl rfl ?_
                  refine r_get (v := .int (iI ((k + 1 : Nat) : Int))) C (by omega) c53 (show vwCl[0]? = some (RX0, TX0, 7) from rfl) m3 5 (by decide) m5 rfl rfl dX0_measure_157 ?_
                  refine r_iload_n C dX0_measure_160 rfl rfl ?_
                  have c61 : f46 (85) = eI tc 33 (d2) := (ho48 _ (by omega)).trans hm21
                  have c62 : f50 (85) = eI tc 33 (d2) := (ho52 _ (by omega)).trans c61
                  refine r_iast C (by omega) c62 (k + 1) rfl (by omega) (Nat.le_of_ble_eq_true rfl) dX0_measure_161 (fun f63 hs64 ho65 => ?_)
                  refine r_aload_n C dX0_measure_162 rfl rfl ?_
                  have c66 : f63 (83) = eO 0 [.ref (ad (84)), .ref (ad (85)), .ref (ad (86)), .int (iI ((a.1 : Nat) : Int)), .int (iI ((b.1 : Nat) : Int)), .int (iI ((k + 1 : Nat) : Int)), .int (iI (((mg a b (k + 1)).2.2 : Nat) : Int))] := (ho65 _ (by omega)).trans c53
                  refine r_get (v := .ref (ad (86))) C (by omega) c66 (show vwCl[0]? = some (RX0, TX0, 7) from rfl) m3 2 (by decide) m8 rfl rfl dX0_measure_163 ?_
                  refine r_aload_n C dX0_measure_166 rfl rfl ?_
                  refine r_get (v := .int (iI ((k + 1 : Nat) : Int))) C (by omega) c66 (show vwCl[0]? = some (RX0, TX0, 7) from rfl) m3 5 (by decide) m5 rfl rfl dX0_measure_167 ?_
                  refine r_iload C dX0_measure_170 rfl ?_
                  have c67 : f46 (86) = eI tc 33 (d3) := (ho48 _ (by omega)).trans hm22
                  have c68 : f50 (86) = eI tc 33 (d3) := (ho52 _ (by omega)).trans c67
                  have c69 : f63 (86) = eI tc 33 (d3) := (ho65 _ (by omega)).trans c68
                  refine r_iast C (by omega) c69 (k + 1) rfl (by omega) (Nat.le_of_ble_eq_true rfl) dX0_measure_172 (fun f70 hs71 ho72 => ?_)
                  refine r_aload_n C dX0_measure_173 rfl rfl ?_
                  have c73 : f70 (83) = eO 0 [.ref (ad (84)), .ref (ad (85)), .ref (ad (86)), .int (iI ((a.1 : Nat) : Int)), .int (iI ((b.1 : Nat) : Int)), .int (iI ((k + 1 : Nat) : Int)), .int (iI (((mg a b (k + 1)).2.2 : Nat) : Int))] := (ho72 _ (by omega)).trans c66
                  refine r_get (v := .ref (ad (84))) C (by omega) c73 (show vwCl[0]? = some (RX0, TX0, 7) from rfl) m3 0 (by decide) m9 rfl rfl dX0_measure_174 ?_
                  refine r_aload_n C dX0_measure_177 rfl rfl ?_
                  refine r_get (v := .int (iI ((k + 1 : Nat) : Int))) C (by omega) c73 (show vwCl[0]? = some (RX0, TX0, 7) from rfl) m3 5 (by decide) m5 rfl rfl dX0_measure_178 ?_
                  refine r_aload_n C dX0_measure_181 rfl rfl ?_
                  refine r_get (v := .int (iI (((mg a b (k + 1)).2.2 : Nat) : Int))) C (by omega) c73 (show vwCl[0]? = some (RX0, TX0, 7) from rfl) m3 6 (by decide) m6 rfl rfl dX0_measure_182 ?_
                  have c74 : f46 (84) = eI tc 33 (d1) := (ho48 _ (by omega)).trans hm20
                  have c75 : f50 (84) = eI tc 33 (d1) := (ho52 _ (by omega)).trans c74
                  have c76 : f63 (84) = eI tc 33 (d1) := (ho65 _ (by omega)).trans c75
                  have c77 : f70 (84) = eI tc 33 (d1) := (ho72 _ (by omega)).trans c76
                  refine r_iast C (by omega) c77 (k + 1) rfl (by omega) (Nat.le_of_ble_eq_true rfl) dX0_measure_185 (fun f78 hs79 ho80 => ?_)
                  refine r_iinc (lv' := [(0, .ref (ad (83))), (1, .ref (ad (ia))), (2, .ref (ad (ib))), (3, .int (iI (((mg a b (k + 1)).1 : Nat) : Int))), (4, .int (iI (((mg a b (k + 1)).2.1 : Nat) : Int))), (5, .int (iI ((k + 1 : Nat) : Int))), (6, .int (iI ((vatN a (mg a b (k)).1 : Nat) : Int))), (7, .int (iI ((vatN b (mg a b (k)).2.1 : Nat) : Int)))]) C ((k + 1 : Nat) : Int) (by omega) dX0_measure_186 rfl (by decide) rfl ?_
                  refine r_goto (tgt := 34) C dX0_measure_189 (by decide) ?_
                  refine r_sub (ks := [0, 1, 2, 3, 4, 5]) (lv' := [(0, .ref (ad (83))), (1, .ref (ad (ia))), (2, .ref (ad (ib))), (3, .int (iI (((mg a b (k + 1)).1 : Nat) : Int))), (4, .int (iI (((mg a b (k + 1)).2.1 : Nat) : Int))), (5, .int (iI ((k + 1 : Nat) : Int)))]) rfl ?_
                  have c81 : f78 (83) = eO 0 [.ref (ad (84)), .ref (ad (85)), .ref (ad (86)), .int (iI ((a.1 : Nat) : Int)), .int (iI ((b.1 : Nat) : Int)), .int (iI ((k + 1 : Nat) : Int)), .int (iI (((mg a b (k + 1)).2.2 : Nat) : Int))] := (ho80 _ (by omega)).trans c73
                  have c82 : f70 (85) = eI tc 33 (upd (d2) (k + 1) ((iI (((mg a b (k + 1)).1 : Nat) : Int)))) := (ho72 _ (by omega)).trans hs64
                  have c83 : f78 (85) = eI tc 33 (upd (d2) (k + 1) ((iI (((mg a b (k + 1)).1 : Nat) : Int)))) := (ho80 _ (by omega)).trans c82
                  have c84 : f78 (86) = eI tc 33 (upd (d3) (k + 1) ((iI (((mg a b (k + 1)).2.1 : Nat) : Int)))) := (ho80 _ (by omega)).trans hs71
                  exact ih26 (k + 1) (upd (d1) (k + 1) ((iI (((mg a b (k + 1)).2.2 : Nat) : Int)))) (upd (d2) (k + 1) ((iI (((mg a b (k + 1)).1 : Nat) : Int)))) (upd (d3) (k + 1) ((iI (((mg a b (k + 1)).2.1 : Nat) : Int)))) f78 c81 hs79 c83 c84 (fun q hq => ((((((ho80 _ (by omega))).trans (ho72 _ (by omega))).trans (ho65 _ (by omega))).trans (ho52 _ (by omega))).trans (ho48 _ (by omega))).trans (ho23 _ (by omega))) (by omega) (by omega) (fun t h1 h2 => if h : t = k + 1 then (by unfold upd; rw [if_pos h, if_pos h, if_pos h, h]; exact ⟨rfl, rfl, rfl⟩) else (by unfold upd; rw [if_neg h, if_neg h, if_neg h]; exact hd t h1 (by omega))) (by omega)
              refine r_iload C dX0_measure_117 rfl ?_
              refine r_iload C dX0_measure_119 rfl ?_
              refine r_icmp_ne (tgt := 128) C ⟨by omega, by omega⟩ ⟨by omega, by omega⟩ dX0_measure_121 (by decide) (fun b85 => ?_) (fun b85 => ?_)
              · refine r_iconst C ((0 : Nat) : Int) (by decide) dX0_measure_128 ?_
                exact hJ45 0 (by omega)
              · refine r_iconst C ((1 : Nat) : Int) (by decide) dX0_measure_124 ?_
                refine r_goto (tgt := 129) C dX0_measure_125 (by decide) ?_
                exact hJ45 1 (by omega)
            refine r_iload C dX0_measure_95 rfl ?_
            refine r_iload C dX0_measure_97 rfl ?_
            refine r_iload C dX0_measure_99 rfl ?_
            refine r_icmp_gt (tgt := 108) C ⟨by omega, by omega⟩ ⟨by omega, by omega⟩ dX0_measure_101 (by decide) (fun b86 => ?_) (fun b86 => ?_)
            · refine r_iconst C ((0 : Nat) : Int) (by decide) dX0_measure_108 ?_
              exact hJ44 0 (by omega)
            · refine r_iconst C ((1 : Nat) : Int) (by decide) dX0_measure_104 ?_
              refine r_goto (tgt := 109) C dX0_measure_105 (by decide) ?_
              exact hJ44 1 (by omega)
          refine r_iload_n C dX0_measure_80 rfl rfl ?_
          refine r_iload C dX0_measure_81 rfl ?_
          refine r_iload C dX0_measure_83 rfl ?_
          refine r_icmp_gt (tgt := 92) C ⟨by omega, by omega⟩ ⟨by omega, by omega⟩ dX0_measure_85 (by decide) (fun b87 => ?_) (fun b87 => ?_)
          · refine r_iconst C ((0 : Nat) : Int) (by decide) dX0_measure_92 ?_
            exact hJ43 0 (by omega)
          · refine r_iconst C ((1 : Nat) : Int) (by decide) dX0_measure_88 ?_
            refine r_goto (tgt := 93) C dX0_measure_89 (by decide) ?_
            exact hJ43 1 (by omega)
        refine r_iload C dX0_measure_63 rfl ?_
        refine r_ldc C ((1000003 : Nat) : Int) (by decide) m10 dX0_measure_65 ?_
        refine r_icmp_ne (tgt := 80) C ⟨by omega, by omega⟩ ⟨by omega, by omega⟩ dX0_measure_67 (by decide) (fun b88 => ?_) (fun b88 => ?_)
        · exact hJ42 (by omega)
        · refine r_iload C dX0_measure_70 rfl ?_
          refine r_ldc C ((1000003 : Nat) : Int) (by decide) m10 dX0_measure_72 ?_
          refine r_icmp_ne (tgt := 80) C ⟨by omega, by omega⟩ ⟨by omega, by omega⟩ dX0_measure_74 (by decide) (fun b89 => ?_) (fun b89 => ?_)
          · exact hJ42 (by omega)
          · refine r_goto (tgt := 192) C dX0_measure_77 (by decide) ?_
            have hfin := mg_fin ha hb (k := k) (by omega) (by omega) hinv
            have hisP : isPr tc ad f18 a b := ⟨_, _, _, by rw [← hfin.1, ← hfin.2]; exact hm19, hm20, hm21, hm22, fun t h1 h2 => hd t h1 (by omega)⟩
            exact hret f18 _ _ dX0_measure_192 (⟨hisP, fun q hq => (((((ho23 _ (by omega))).trans (ho16 _ (by omega))).trans (ho12 _ (by omega))).trans (ho8 _ (by omega))).trans (ho3 _ (by omega))⟩)
  have c90 : f1 (84) = eI tc 33 (e1) := (ho3 _ (by omega)).trans p1
  have c91 : f6 (84) = eI tc 33 (e1) := (ho8 _ (by omega)).trans c90
  have c92 : f10 (84) = eI tc 33 (e1) := (ho12 _ (by omega)).trans c91
  have c93 : f14 (84) = eI tc 33 (e1) := (ho16 _ (by omega)).trans c92
  have c94 : f1 (85) = eI tc 33 (e2) := (ho3 _ (by omega)).trans p2
  have c95 : f6 (85) = eI tc 33 (e2) := (ho8 _ (by omega)).trans c94
  have c96 : f10 (85) = eI tc 33 (e2) := (ho12 _ (by omega)).trans c95
  have c97 : f14 (85) = eI tc 33 (e2) := (ho16 _ (by omega)).trans c96
  have c98 : f1 (86) = eI tc 33 (e3) := (ho3 _ (by omega)).trans p3
  have c99 : f6 (86) = eI tc 33 (e3) := (ho8 _ (by omega)).trans c98
  have c100 : f10 (86) = eI tc 33 (e3) := (ho12 _ (by omega)).trans c99
  have c101 : f14 (86) = eI tc 33 (e3) := (ho16 _ (by omega)).trans c100
  exact hL24 _ 0 e1 e2 e3 f14 c17 c93 c97 c101 (fun _ _ => rfl) (by omega) rfl (fun t h1 h2 => by have e : t = 0 := (by omega); rw [e]; exact ⟨z1, z2, z3⟩) (Nat.lt_succ_self _)
end XR1
end
