/-! BITS OF AN INT; WHAT table ASKS -/
theorem nI_nl {a b : Nat} (h : b ≤ a) (ha : a < 2 ^ 31) : ¬ nI a < nI b := fun q => by have := (nI_ltI ha (by omega)).mp q; omega
theorem bt_ext {x y : Int32} (h : ∀ i, i < 32 → bt x i = bt y i) : x = y := by
  apply Int32.toBitVec_inj.mp
  apply BitVec.eq_of_getLsbD_eq
  intro i hi
  exact h i hi
theorem bt_ge {x : Int32} {i : Nat} (h : 32 ≤ i) : bt x i = false := by
  unfold bt; exact BitVec.getLsbD_of_ge _ _ h
theorem bt_and {x y : Int32} {i : Nat} : bt (x &&& y) i = (bt x i && bt y i) := by
  unfold bt; rw [Int32.toBitVec_and]; exact BitVec.getLsbD_and
theorem bt_or {x y : Int32} {i : Nat} : bt (x ||| y) i = (bt x i || bt y i) := by
  unfold bt; rw [Int32.toBitVec_or]; exact BitVec.getLsbD_or
theorem bt_xor {x y : Int32} {i : Nat} : bt (x ^^^ y) i = (bt x i ^^ bt y i) := by
  unfold bt; rw [Int32.toBitVec_xor]; exact BitVec.getLsbD_xor
theorem bt_0 {i : Nat} : bt 0 i = false := by
  unfold bt; exact BitVec.getLsbD_zero
theorem bt_m1 {i : Nat} (h : i < 32) : bt (-1) i = true := by
  revert i; decide +kernel
theorem bt_1 {i : Nat} : bt 1 i = decide (i = 0) := by
  by_cases h : i < 32
  · revert i; decide +kernel
  · rw [bt_ge (by omega)]; symm; exact decide_eq_false (by omega)
theorem sh_nI : ∀ k, k < 32 → (nI k &&& 31).toBitVec.smod 32 = BitVec.ofNat 32 k := by decide +kernel
theorem bt_sar {x : Int32} {k i : Nat} (hk : k < 32) (hi : i < 32) : bt (x >>> (nI k &&& 31)) i = if i + k < 32 then bt x (i + k) else bt x 31 := by
  unfold bt
  rw [Int32.toBitVec_shiftRight, sh_nI k hk, BitVec.sshiftRight'_ofNat_eq_sshiftRight, BitVec.getLsbD_sshiftRight]
  rw [Nat.mod_eq_of_lt (show k < 2 ^ 32 by omega)]
  by_cases c : i + k < 32
  · rw [if_pos c]
    simp [show ¬ 32 ≤ i by omega, show k + i < 32 by omega, Nat.add_comm]
  · rw [if_neg c]
    simp [show ¬ 32 ≤ i by omega, show ¬ k + i < 32 by omega, BitVec.msb_eq_getLsbD_last]
theorem bt_shl {x : Int32} {k i : Nat} (hk : k < 32) (hi : i < 32) : bt (x <<< (nI k &&& 31)) i = (decide (k ≤ i) && bt x (i - k)) := by
  unfold bt
  rw [Int32.toBitVec_shiftLeft, sh_nI k hk]
  rw [BitVec.shiftLeft_eq', BitVec.getLsbD_shiftLeft, BitVec.toNat_ofNat]
  rw [Nat.mod_eq_of_lt (show k < 2 ^ 32 by omega)]
  simp only [hi, decide_true, Bool.true_and]
  by_cases c : k ≤ i
  · simp [c, show ¬ i < k by omega]
  · simp [c, show i < k by omega]
theorem su_nI : ∀ k, k < 32 → (((nI k).toUInt32 &&& Int32.toUInt32 31).toBitVec % 32) = BitVec.ofNat 32 k := by decide +kernel
theorem bt_shr {x : Int32} {k i : Nat} (hk : k < 32) : bt (iushr x (nI k)) i = bt x (i + k) := by
  unfold bt iushr
  show ((x.toUInt32 >>> _).toBitVec).getLsbD i = _
  rw [UInt32.toBitVec_shiftRight, su_nI k hk]
  rw [BitVec.ushiftRight_eq', BitVec.getLsbD_ushiftRight, BitVec.toNat_ofNat]
  rw [Nat.mod_eq_of_lt (show k < 2 ^ 32 by omega), Nat.add_comm]
  rfl
theorem bt_nz {x : Int32} : x = 0 ↔ ∀ i, i < 32 → bt x i = false := by
  constructor
  · rintro rfl i _; exact bt_0
  · intro h; exact bt_ext (fun i hi => by rw [h i hi, bt_0])
theorem bt_a1 {x : Int32} : (x &&& 1) = 1 ↔ bt x 0 = true := by
  constructor
  · intro h
    have : bt (x &&& 1) 0 = true := by rw [h]; decide
    rw [bt_and] at this
    simp at this
    exact this.1
  · intro h
    refine bt_ext fun i hi => ?_
    rw [bt_and, bt_1]
    by_cases c : i = 0
    · subst c; simp [h]
    · simp [c]
theorem ones_le : ∀ w, w < 33 → 1 ≤ w → ∀ i, i < 32 → bt (onesOf (nI w)) i = decide (i < w) := by decide +kernel
theorem low_le : ∀ k, k < 32 → ∀ i, i < 32 → bt ((1 <<< (nI k &&& 31)) - 1) i = decide (i < k) := by decide +kernel
theorem how_all : ∀ w, w < 12 → nI w - nI w / 4 * 4 = nI (w % 4) ∧ nI w / 4 = nI (w / 4) ∧ nI w &&& 3 = nI (w % 4) ∧ nI w >>> (2 &&& 31) = nI (w / 4) := by decide +kernel
theorem has_bit {x y : Int32} {S : Sx} : fMp_hasBit x y S = some (bi (∃ m, m < 32 ∧ y = nI m ∧ bt x m = true), S) := by
  unfold fMp_hasBit
  rcases Classical.em (vF 32 y) with c | c
  · obtain ⟨m, m1, rfl⟩ := c
    rw [if_neg (nI_pos (by omega)), if_neg (show ¬ (32 : Int32) ≤ nI m from nI_ge (b := 32) m1 (by omega))]
    by_cases q : (iushr x (nI m) &&& 1) = 1
    · rw [if_pos q, bi_t]
      refine ⟨m, m1, rfl, ?_⟩
      have := bt_a1.mp q
      rw [bt_shr m1, Nat.zero_add] at this
      exact this
    · rw [if_neg q, bi_f]
      rintro ⟨m', m2, m3, m4⟩
      have e := (nI_eq (by omega) (by omega)).mp m3
      subst e
      apply q
      rw [bt_a1, bt_shr m1, Nat.zero_add]
      exact m4
  · rw [bi_f (fun ⟨m, m1, m2, _⟩ => c ⟨m, m1, m2⟩)]
    by_cases q : y < 0
    · rw [if_pos q]
    · rw [if_neg q, if_pos (show (32 : Int32) ≤ y from (vF_no (n := 32) (by omega) c).resolve_left q)]
theorem iushr_z {x : Int32} {k : Nat} (hk : k < 32) : iushr x (nI k) = 0 ↔ ∀ a, a < 32 → bt x a = true → a < k := by
  rw [bt_nz]
  constructor
  · intro h a ha hb
    rcases Nat.lt_or_ge a k with c | c
    · exact c
    · have := h (a - k) (by omega)
      rw [bt_shr hk, show a - k + k = a from by omega, hb] at this
      cases this
  · intro h i hi
    rw [bt_shr hk]
    cases e : bt x (i + k) with
    | false => rfl
    | true =>
      rcases Nat.lt_or_ge (i + k) 32 with c | c
      · have := h (i + k) c e
        omega
      · rw [bt_ge c] at e; cases e
theorem low_z {x : Int32} {k : Nat} (hk : k < 32) : (x &&& (((1 <<< (nI k &&& 31)) - 1) ^^^ (-1))) = 0 ↔ ∀ a, a < 32 → bt x a = true → a < k := by
  rw [bt_nz]
  constructor
  · intro h a ha hb
    have := h a ha
    rw [bt_and, bt_xor, low_le k hk a ha, bt_m1 ha, hb] at this
    simpa using this
  · intro h i hi
    rw [bt_and, bt_xor, low_le k hk i hi, bt_m1 hi]
    cases e : bt x i with
    | false => rfl
    | true =>
      have := h i hi e
      simp [this]
theorem sar_b {x : Int32} {m : Nat} (hm : m < 32) : ((x >>> (nI m &&& 31)) &&& 1) = 1 ↔ bt x m = true := by
  rw [bt_a1, bt_sar hm (by omega), if_pos (by omega), Nat.zero_add]
theorem sar2 {x : Int32} : (x >>> (2 &&& 31)).toInt = x.toInt / 4 := by
  show (x >>> (nI 2 &&& 31)).toBitVec.toInt = _
  rw [Int32.toBitVec_shiftRight, sh_nI 2 (by omega), BitVec.sshiftRight'_ofNat_eq_sshiftRight, BitVec.toInt_sshiftRight, Int.shiftRight_eq_div_pow]
  rfl
def hw (g x : Int32) : Prop := ∃ w, w < 12 ∧ x = nI w ∧ w % 4 < 3 ∧ (g = -1 → w < 4) ∧ w ≠ 5
theorem ish_out {x y : Int32} {S : Sx} (h : ¬ vF 12 x) : fMp_isHow x y S = some (0, S) := by
  unfold fMp_isHow
  split
  · rfl
  · split
    · rfl
    · rename_i c1 c2
      split
      · rename_i c3
        exfalso
        apply h
        have e0 : (0 : Int32).toInt = 0 := by decide
        have e2 : (2 : Int32).toInt = 2 := by decide
        rw [Int32.lt_iff_toInt_lt, sar2, e0] at c2
        rw [Int32.le_iff_toInt_le, sar2, e2] at c3
        obtain ⟨j, j1, j2⟩ := nI_of (x := x) (by rw [Int32.lt_iff_toInt_lt, e0]; omega)
        refine ⟨j, ?_, j2⟩
        rw [j2, nI_toInt j1] at c3
        omega
      · rfl
theorem ish_in {w : Nat} {S : Sx} (h : w < 12) : fMp_isHow (nI w) 0 S = some (bi (w % 4 < 3 ∧ w < 4), S) ∧ fMp_isHow (nI w) 1 S = some (bi (w % 4 < 3 ∧ w ≠ 5), S) := by
  obtain ⟨e1, e2, e3, e4⟩ := how_all w h
  unfold fMp_isHow
  rw [e3, e4]
  by_cases c : w % 4 < 3
  · rw [if_neg (show ¬ (2 : Int32) < nI (w % 4) from nI_nl (a := 2) (by omega) (by omega)), if_neg (nI_pos (show w / 4 < 2 ^ 31 by omega)), if_pos (show nI (w / 4) ≤ 2 from nI_le (b := 2) (by omega) (by omega)), if_neg (show ¬ (2 : Int32) < nI (w % 4) from nI_nl (a := 2) (by omega) (by omega)), if_neg (nI_pos (show w / 4 < 2 ^ 31 by omega)), if_pos (show nI (w / 4) ≤ 2 from nI_le (b := 2) (by omega) (by omega))]
    constructor
    · rw [if_pos rfl]
      by_cases d : w < 4
      · rw [if_pos (show nI (w / 4) = 0 by rw [show w / 4 = 0 by omega]; rfl), bi_t ⟨c, d⟩]
      · rw [if_neg (show ¬ nI (w / 4) = 0 from fun q => by have := (nI_eq (b := 0) (by omega) (by omega)).mp q; omega), bi_f (fun q => d q.2)]
    · rw [if_neg (by decide)]
      by_cases d : w = 5
      · subst d; rw [bi_f (fun q => q.2 rfl)]; rfl
      · rw [bi_t ⟨c, d⟩]
        by_cases e : w % 4 = 1
        · rw [if_pos (show nI (w % 4) = 1 by rw [e]; rfl), if_neg (show ¬ nI (w / 4) = 1 from fun q => by have := (nI_eq (b := 1) (by omega) (by omega)).mp q; omega)]
        · rw [if_neg (show ¬ nI (w % 4) = 1 from fun q => by have := (nI_eq (b := 1) (by omega) (by omega)).mp q; omega)]
  · rw [if_pos (show (2 : Int32) < nI (w % 4) from nI_lt (a := 2) (by omega) (by omega)), if_pos (show (2 : Int32) < nI (w % 4) from nI_lt (a := 2) (by omega) (by omega)), bi_f (fun q => c q.1), bi_f (fun q => c q.1)]
    exact ⟨rfl, rfl⟩
theorem ish_0 {x : Int32} {S : Sx} : fMp_isHow x 0 S = some (bi (hw (-1) x), S) := by
  rcases Classical.em (vF 12 x) with c | c
  · obtain ⟨w, w1, rfl⟩ := c
    rw [(ish_in w1).1]
    refine ob_eq ⟨fun ⟨a, b⟩ => ⟨w, w1, rfl, a, fun _ => b, by omega⟩, ?_⟩
    rintro ⟨w', a1, a2, a3, a4, a5⟩
    have := (nI_eq (by omega) (by omega)).mp a2
    subst this
    exact ⟨a3, a4 rfl⟩
  · rw [ish_out c, bi_f (fun ⟨w, a, b, _⟩ => c ⟨w, a, b⟩)]
theorem ish_1 {x g : Int32} {S : Sx} (hg : ¬ g = -1) : fMp_isHow x 1 S = some (bi (hw g x), S) := by
  rcases Classical.em (vF 12 x) with c | c
  · obtain ⟨w, w1, rfl⟩ := c
    rw [(ish_in w1).2]
    refine ob_eq ⟨fun ⟨a, b⟩ => ⟨w, w1, rfl, a, fun q => absurd q hg, b⟩, ?_⟩
    rintro ⟨w', a1, a2, a3, a4, a5⟩
    have := (nI_eq (by omega) (by omega)).mp a2
    subst this
    exact ⟨a3, a5⟩
  · rw [ish_out c, bi_f (fun ⟨w, a, b, _⟩ => c ⟨w, a, b⟩)]
theorem mhw {x0 : Nat} {x1 g x x4 x5 z : Int32} {S : Sx} : fMd_table_74 x0 x1 g x x4 x5 z S = fMd_table_112 x0 x1 g x x4 x5 z (bi (hw g x)) S := by
  unfold fMd_table_74 fMd_table_102 fMd_table_111
  rw [in_12, bd2_mk]
  rcases Classical.em (vF 12 x) with c | c
  · rw [bi_t c, if_neg (by decide)]
    obtain ⟨w, w1, rfl⟩ := c
    obtain ⟨e1, e2, e3, e4⟩ := how_all w w1
    rw [e1]
    by_cases d : w % 4 < 3
    · rw [if_neg (show ¬ (3 : Int32) ≤ nI (w % 4) from nI_ge (b := 3) d (by omega))]
      by_cases g1 : g = -1
      · rw [if_pos g1]
        by_cases e : w < 4
        · rw [if_neg (show ¬ (4 : Int32) ≤ nI w from nI_ge (b := 4) e (by omega)), if_neg (show ¬ nI w = 5 from fun q => by have := (nI_eq (b := 5) (by omega) (by omega)).mp q; omega), bi_t ⟨w, w1, rfl, d, fun _ => e, by omega⟩]
        · rw [if_pos (show (4 : Int32) ≤ nI w from nI_le (a := 4) (by omega) (by omega)), bi_f]
          rintro ⟨w', a1, a2, a3, a4, a5⟩
          have := (nI_eq (by omega) (by omega)).mp a2
          subst this
          exact e (a4 g1)
      · rw [if_neg g1]
        by_cases e : w = 5
        · subst e
          rw [if_pos (show nI 5 = 5 from rfl), bi_f]
          rintro ⟨w', a1, a2, a3, a4, a5⟩
          have := (nI_eq (by omega) (by omega)).mp a2
          omega
        · rw [if_neg (show ¬ nI w = 5 from fun q => by have := (nI_eq (b := 5) (by omega) (by omega)).mp q; omega), bi_t ⟨w, w1, rfl, d, fun q => absurd q g1, e⟩]
    · rw [if_pos (show (3 : Int32) ≤ nI (w % 4) from nI_le (a := 3) (by omega) (by omega)), bi_f]
      rintro ⟨w', a1, a2, a3, a4, a5⟩
      have := (nI_eq (by omega) (by omega)).mp a2
      subst this
      exact d a3
  · rw [bi_f c, if_pos rfl, bi_f (fun ⟨w, a, b, _⟩ => c ⟨w, a, b⟩)]
def aP (na : Nat) (x : Int32) : Prop := ∀ a, a < 32 → bt x a = true → a < na
def mP (na : Nat) (x y : Int32) : Prop := ∃ m, m < na ∧ y = nI m ∧ bt x m = true
def tG (nf na : Nat) (f g x y : Int32) : Prop := vF nf f ∧ gN nf g ∧ f ≠ g ∧ aP na x ∧ mP na x y
