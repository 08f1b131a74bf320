/-! BITS OF A LONG; take AND put -/
def lb (x : Int64) (i : Nat) : Bool := x.toBitVec.getLsbD i
theorem lb_and {x y : Int64} {i : Nat} : lb (x &&& y) i = (lb x i && lb y i) := by
  unfold lb; rw [Int64.toBitVec_and]; exact BitVec.getLsbD_and
theorem lb_or {x y : Int64} {i : Nat} : lb (x ||| y) i = (lb x i || lb y i) := by
  unfold lb; rw [Int64.toBitVec_or]; exact BitVec.getLsbD_or
theorem lb_xor {x y : Int64} {i : Nat} : lb (x ^^^ y) i = (lb x i ^^ lb y i) := by
  unfold lb; rw [Int64.toBitVec_xor]; exact BitVec.getLsbD_xor
theorem lb_ge {x : Int64} {i : Nat} (h : 64 ≤ i) : lb x i = false := by
  unfold lb; exact BitVec.getLsbD_of_ge _ _ h
theorem lu_nI : ∀ k, k < 64 → (((nI k).toInt64.toUInt64 &&& Int64.toUInt64 63).toBitVec % 64) = BitVec.ofNat 64 k := by decide +kernel
theorem lb_shr {x : Int64} {k i : Nat} (hk : k < 64) : lb (lushr x (nI k)) i = lb x (i + k) := by
  unfold lb lushr
  show ((x.toUInt64 >>> _).toBitVec).getLsbD i = _
  rw [UInt64.toBitVec_shiftRight, lu_nI k hk]
  rw [BitVec.ushiftRight_eq', BitVec.getLsbD_ushiftRight, BitVec.toNat_ofNat]
  rw [Nat.mod_eq_of_lt (show k < 2 ^ 64 by omega), Nat.add_comm]
  rfl
theorem ll_nI : ∀ k, k < 64 → ((nI k).toInt64 &&& 63).toBitVec.smod 64 = BitVec.ofNat 64 k := by decide +kernel
theorem lb_shl {x : Int64} {k i : Nat} (hk : k < 64) (hi : i < 64) : lb (lshl x (nI k)) i = (decide (k ≤ i) && lb x (i - k)) := by
  unfold lb lshl
  rw [Int64.toBitVec_shiftLeft, ll_nI k hk]
  rw [BitVec.shiftLeft_eq', BitVec.getLsbD_shiftLeft, BitVec.toNat_ofNat]
  rw [Nat.mod_eq_of_lt (show k < 2 ^ 64 by omega)]
  simp only [hi, decide_true, Bool.true_and]
  by_cases c : k ≤ i
  · simp [c, show ¬ i < k by omega]
  · simp [c, show i < k by omega]
theorem bt_32 {x : Int64} {i : Nat} (hi : i < 32) : bt (Int64.toInt32 x) i = lb x i := by
  unfold bt lb
  rw [Int64.toBitVec_toInt32, BitVec.getLsbD_signExtend]
  simp [hi, show i < 64 by omega]
theorem lb_64 {x : Int32} {i : Nat} (hi : i < 64) : lb (Int32.toInt64 x) i = if i < 32 then bt x i else bt x 31 := by
  unfold bt lb
  rw [Int32.toBitVec_toInt64, BitVec.getLsbD_signExtend]
  by_cases c : i < 32
  · simp [c, hi]
  · simp [c, hi, BitVec.msb_eq_getLsbD_last]
theorem lb_m {i : Nat} (hi : i < 64) : lb (4294967295 : Int64) i = decide (i < 32) := by
  have := (show ∀ i, i < 64 → lb (4294967295 : Int64) i = decide (i < 32) by decide +kernel)
  exact this i hi
theorem lb_m1 {i : Nat} (hi : i < 64) : lb (-1 : Int64) i = true := by
  have := (show ∀ i, i < 64 → lb (-1 : Int64) i = true by decide +kernel)
  exact this i hi
theorem lb_0 {i : Nat} : lb (0 : Int64) i = false := by
  unfold lb; exact BitVec.getLsbD_zero
theorem lb_ones : ∀ w, w < 33 → 1 ≤ w → ∀ i, i < 64 → lb (lushr (-1 : Int64) (nI (64 - w))) i = decide (i < w) := by
  intro w h1 h2 i hi
  rw [lb_shr (by omega)]
  by_cases c : i + (64 - w) < 64
  · rw [lb_m1 c]; symm; exact decide_eq_true (by omega)
  · rw [lb_ge (by omega)]; symm; exact decide_eq_false (by omega)
theorem nI_sub {a b : Nat} (h : b ≤ a) : nI a - nI b = nI (a - b) := by
  have : nI (a - b) + nI b = nI a := by rw [nI_add, show a - b + b = a from by omega]
  rw [← this]
  exact Int32.add_sub_cancel _ _
theorem at_ : ∀ a, a < 512 → nI a >>> (5 &&& 31) = nI (a / 32) ∧ nI a &&& 31 = nI (a % 32) := by decide +kernel
/-- bit j of the Bits whose words are the cell c -/
def cb (v : Nat → Nat → Int32) (c j : Nat) : Bool := bt (v c (j / 32)) (31 - j % 32)
def isBi (b : Nat) : Prop := b + 1 < 951 ∧ kt b = (10, 1) ∧ rto b 0 = some (b + 1) ∧ kt (b + 1) = (100, 15) ∧ ¬ isRow b
theorem bi_rd : isBi 889 := ⟨by decide, by decide, by decide, by decide, by unfold isRow; decide⟩
theorem bi_tp : isBi 891 := ⟨by decide, by decide, by decide, by decide, by unfold isRow; decide⟩
theorem bi_op {i : Nat} (h : i < 128) : isBi (330 + 4 * i) := by
  have := (show ∀ i, i < 128 → kt (330 + 4 * i) = (10, 1) ∧ rto (330 + 4 * i) 0 = some (330 + 4 * i + 1) ∧ kt (330 + 4 * i + 1) = (100, 15) by decide +kernel) i h
  exact ⟨by omega, this.1, this.2.1, this.2.2, by unfold isRow; omega⟩
theorem ckB {β : Type} {o b : Nat} {S : Sx} {f : Unit → Option β} (h : Ly o S) (hb : isBi b) : (ckd S (o + b) 10).bind f = f () := ly_ck h (by have := hb.1; omega) hb.2.1
theorem gXB {β : Type} {o b : Nat} {S : Sx} {f : Nat → Option β} (h : Ly o S) (hb : isBi b) : (gX S 10 0 (o + b)).bind f = f (o + (b + 1)) := ly_gX h (by have := hb.1; omega) hb.2.1 hb.2.2.1 hb.2.2.2.2
theorem aIB {β : Type} {o b j : Nat} {S : Sx} {f : Int32 → Option β} (h : Ly o S) (hb : isBi b) (hj : j < 15) : (aI S (o + (b + 1)) (nI j)).bind f = f (sI S (o + (b + 1)) j) := ly_aI h hb.1 hb.2.2.2.1 hj (by omega)
theorem qIB {β : Type} {o b j : Nat} {S : Sx} {x : Int32} {f : Sx → Option β} (h : Ly o S) (hb : isBi b) (hj : j < 15) : (qI S (o + (b + 1)) (nI j) x).bind f = f (wI S (o + (b + 1)) j x) := ly_qI h hb.1 hb.2.2.2.1 hj (by omega)
theorem lnB {β : Type} {o b : Nat} {S : Sx} {f : Int32 → Option β} (h : Ly o S) (hb : isBi b) : (lnI S (o + (b + 1))).bind f = f (nI 15) := by
  unfold lnI
  rw [h.2.1 (b + 1) hb.1, hb.2.2.2.1]
  rfl
theorem outs_ {o b a w : Nat} {S : Sx} (h : Ly o S) (hb : isBi b) (hw : 1 ≤ w) (hw2 : w ≤ 32) (ha : a + w ≤ 480) : fBi_isOutside (o + b) (nI a) (nI w) S = some (0, S) := by
  unfold fBi_isOutside
  have c1 : ¬ nI w < 1 := nI_nl (b := 1) hw (by omega)
  have c2 : ¬ (32 : Int32) < nI w := nI_nl (a := 32) hw2 (by omega)
  have c3 : ¬ nI a < 0 := nI_pos (by omega)
  have c4 : nI a ≤ 32 * nI 15 - nI w := by
    rw [show (32 : Int32) * nI 15 = nI 480 from by decide, nI_sub (by omega)]
    exact nI_le (by omega) (by omega)
  rw [if_neg c1, if_neg c2, if_neg c3, gXB h hb, lnB h hb, if_pos c4]
/-- the two words at word i, as one -/
def pr2 (v : Nat → Nat → Int32) (c i : Nat) (X : Int64) : Prop := ∀ m, m < 64 → lb X (63 - m) = (decide (32 * i + m < 480) && cb v c (32 * i + m))
theorem pair_ {o b i : Nat} {S : Sx} (h : Ly o S) (hb : isBi b) (hi : i < 15) : ∃ X, fBi_pairAt (o + b) (nI i) S = some (X, S) ∧ pr2 (V o S) (b + 1) i X := by
  unfold fBi_pairAt fBi_pairAt_28
  rw [gXB h hb, lnB h hb, nI_1]
  by_cases c : i + 1 < 15
  · refine ⟨_, by rw [if_neg (nI_ge c (by omega)), gXB h hb, aIB h hb c, gXB h hb, aIB h hb hi], ?_⟩
    intro m hm
    rw [lb_or, show (32 : Int32) = nI 32 from rfl, lb_shl (by omega) (by omega), lb_64 (by omega), lb_and, lb_64 (by omega), lb_m (by omega)]
    unfold cb V
    rw [decide_eq_true (show 32 * i + m < 480 by omega), Bool.true_and]
    by_cases d : m < 32
    · rw [decide_eq_true (show 32 ≤ 63 - m by omega), decide_eq_false (show ¬ 63 - m < 32 by omega), if_pos (show 63 - m - 32 < 32 by omega)]
      rw [show (32 * i + m) / 32 = i from by omega, show (32 * i + m) % 32 = m from by omega, show 63 - m - 32 = 31 - m from by omega]
      simp
    · rw [decide_eq_false (show ¬ 32 ≤ 63 - m by omega), decide_eq_true (show 63 - m < 32 by omega), if_pos (show 63 - m < 32 by omega)]
      rw [show (32 * i + m) / 32 = i + 1 from by omega, show (32 * i + m) % 32 = m - 32 from by omega, show 63 - m = 31 - (m - 32) from by omega]
      simp
  · refine ⟨_, by rw [if_pos (nI_le (by omega) (by omega)), gXB h hb, aIB h hb hi], ?_⟩
    intro m hm
    rw [lb_or, show (32 : Int32) = nI 32 from rfl, lb_shl (by omega) (by omega), lb_64 (by omega), lb_0]
    unfold cb V
    by_cases d : m < 32
    · rw [decide_eq_true (show 32 ≤ 63 - m by omega), if_pos (show 63 - m - 32 < 32 by omega), decide_eq_true (show 32 * i + m < 480 by omega)]
      rw [show (32 * i + m) / 32 = i from by omega, show (32 * i + m) % 32 = m from by omega, show 63 - m - 32 = 31 - m from by omega]
      simp
    · rw [decide_eq_false (show ¬ 32 ≤ 63 - m by omega), decide_eq_false (show ¬ 32 * i + m < 480 by omega)]
      simp
theorem take_ {o b a w : Nat} {S : Sx} (h : Ly o S) (hb : isBi b) (hw : 1 ≤ w) (hw2 : w ≤ 32) (ha : a + w ≤ 480) : ∃ r, fBi_take (o + b) (nI a) (nI w) S = some (r, S) ∧ ∀ k, k < 32 → bt r k = (decide (k < w) && cb (V o S) (b + 1) (a + w - 1 - k)) := by
  obtain ⟨a1, a2⟩ := at_ a (by omega)
  obtain ⟨X, x1, x2⟩ := pair_ (i := a / 32) h hb (by omega)
  have e : (64 : Int32) - nI (a % 32) - nI w = nI (64 - a % 32 - w) := by
    rw [show (64 : Int32) = nI 64 from rfl, nI_sub (by omega), nI_sub (by omega)]
  have e2 : (32 : Int32) - nI w = nI (32 - w) := by rw [show (32 : Int32) = nI 32 from rfl, nI_sub (by omega)]
  refine ⟨Int64.toInt32 (lushr X (nI (64 - a % 32 - w))) &&& onesOf (nI w), ?_, ?_⟩
  · unfold fBi_take
    rw [ckB h hb, outs_ h hb hw hw2 ha, bd2_mk, if_pos rfl, ckB h hb, a1, x1, bd2_mk, a2, e]
    rfl
  · intro k hk
    rw [bt_and, ones_le w (by omega) hw k hk]
    by_cases c : k < w
    · rw [decide_eq_true c, Bool.and_true, Bool.true_and, bt_32 hk, lb_shr (by omega)]
      have := x2 (a % 32 + w - 1 - k) (by omega)
      rw [show 63 - (a % 32 + w - 1 - k) = k + (64 - a % 32 - w) from by omega, show 32 * (a / 32) + (a % 32 + w - 1 - k) = a + w - 1 - k from by omega, decide_eq_true (show a + w - 1 - k < 480 by omega), Bool.true_and] at this
      exact this
    · rw [decide_eq_false c, Bool.and_false, Bool.false_and]
/-- memory after a piece that writes into one cell alone -/
def Ec (o : Nat) (S S' : Sx) (c : Nat) : Prop := Ly o S' ∧ sR S' = sR S ∧ sJ S' = sJ S ∧ ∀ c' k, c' ≠ c → V o S' c' k = V o S c' k
theorem Ec_wI {o c k : Nat} {x : Int32} {S S1 : Sx} (h : Ec o S S1 c) : Ec o S (wI S1 (o + c) k x) c := by
  refine ⟨Ly_wI h.1, by rw [sR_wI]; exact h.2.1, by rw [sJ_wI]; exact h.2.2.1, fun c' k' hc => ?_⟩
  rw [V_wI, u2_n (Or.inl hc)]; exact h.2.2.2 c' k' hc
theorem Ec_id {o c : Nat} {S : Sx} (h : Ly o S) : Ec o S S c := ⟨h, rfl, rfl, fun _ _ _ => rfl⟩
theorem Ec_tr {o c : Nat} {S S1 S2 : Sx} (h : Ec o S S1 c) (h2 : Ec o S1 S2 c) : Ec o S S2 c := ⟨h2.1, h2.2.1.trans h.2.1, h2.2.2.1.trans h.2.2.1, fun c' k hc => (h2.2.2.2 c' k hc).trans (h.2.2.2 c' k hc)⟩
set_option maxHeartbeats 1000000 in
theorem put_ {o b a w : Nat} {x : Int32} {S : Sx} (h : Ly o S) (hb : isBi b) (hw : 1 ≤ w) (hw2 : w ≤ 32) (ha : a + w ≤ 480) : ∃ S1, fBi_put (o + b) (nI a) (nI w) x S = some S1 ∧ Ec o S S1 (b + 1) ∧ ∀ j, j < 480 → cb (V o S1) (b + 1) j = if a ≤ j ∧ j < a + w then bt x (a + w - 1 - j) else cb (V o S) (b + 1) j := by
  obtain ⟨a1, a2⟩ := at_ a (by omega)
  have hi : a / 32 < 15 := by omega
  obtain ⟨X, x1, x2⟩ := pair_ (i := a / 32) h hb hi
  have e : (64 : Int32) - nI (a % 32) - nI w = nI (64 - a % 32 - w) := by
    rw [show (64 : Int32) = nI 64 from rfl, nI_sub (by omega), nI_sub (by omega)]
  have e2 : (64 : Int32) - nI w = nI (64 - w) := by rw [show (64 : Int32) = nI 64 from rfl, nI_sub (by omega)]
  have Y : ∃ Y : Int64, ((X &&& (lshl (lushr (-1 : Int64) (nI (64 - w))) (nI (64 - a % 32 - w)) ^^^ (-1 : Int64))) ||| (lshl (Int32.toInt64 x) (nI (64 - a % 32 - w)) &&& lshl (lushr (-1 : Int64) (nI (64 - w))) (nI (64 - a % 32 - w)))) = Y ∧ ∀ m, m < 64 → lb Y (63 - m) = if a % 32 ≤ m ∧ m < a % 32 + w then bt x (a % 32 + w - 1 - m) else lb X (63 - m) := by
    refine ⟨_, rfl, fun m hm => ?_⟩
    rw [lb_or, lb_and, lb_xor, lb_and, lb_shl (by omega) (by omega), lb_shl (by omega) (by omega), lb_m1 (by omega)]
    by_cases c : 64 - a % 32 - w ≤ 63 - m
    · rw [decide_eq_true c, lb_ones w (by omega) hw _ (by omega), lb_64 (by omega)]
      by_cases d : 63 - m - (64 - a % 32 - w) < w
      · rw [decide_eq_true d, if_pos (show 63 - m - (64 - a % 32 - w) < 32 by omega), if_pos (show a % 32 ≤ m ∧ m < a % 32 + w by omega), show 63 - m - (64 - a % 32 - w) = a % 32 + w - 1 - m from by omega]
        simp
      · rw [decide_eq_false d, if_neg (show ¬ (a % 32 ≤ m ∧ m < a % 32 + w) by omega)]
        simp
    · rw [decide_eq_false c, if_neg (show ¬ (a % 32 ≤ m ∧ m < a % 32 + w) by omega)]
      simp
  obtain ⟨Y, y1, y2⟩ := Y
  have E0 : Ec o S S (b + 1) := Ec_id h
  have key : ∀ j, j < 480 → ∀ m, j = 32 * (a / 32) + m → m < 64 → lb Y (63 - m) = if a ≤ j ∧ j < a + w then bt x (a + w - 1 - j) else cb (V o S) (b + 1) j := by
    intro j hj m e hm
    rw [y2 m hm, x2 m hm, ← e, decide_eq_true hj, Bool.true_and]
    by_cases c : a % 32 ≤ m ∧ m < a % 32 + w
    · rw [if_pos c, if_pos (by omega), show a % 32 + w - 1 - m = a + w - 1 - j from by omega]
    · rw [if_neg c, if_neg (by omega)]
  unfold fBi_put
  rw [ckB h hb, outs_ h hb hw hw2 ha, bd2_mk, if_pos rfl, ckB h hb, a1, x1, bd2_mk, a2, e, e2, y1, gXB h hb, qIB h hb hi, gXB (Ly_wI h) hb, lnB (Ly_wI h) hb, nI_1, show (32 : Int32) = nI 32 from rfl]
  by_cases c : a / 32 + 1 < 15
  · refine ⟨wI (wI S (o + (b + 1)) (a / 32) (Int64.toInt32 (lushr Y (nI 32)))) (o + (b + 1)) (a / 32 + 1) (Int64.toInt32 Y), ?_, Ec_wI (Ec_wI E0), ?_⟩
    · rw [if_neg (nI_ge c (by omega)), gXB (Ly_wI h) hb, qIB (Ly_wI h) hb c]
    · intro j hj
      unfold cb
      rw [V_wI, V_wI]
      by_cases d1 : j / 32 = a / 32 + 1
      · rw [d1, u2_s, bt_32 (by omega)]
        have := key j hj (32 + j % 32) (by omega) (by omega)
        rw [show 63 - (32 + j % 32) = 31 - j % 32 from by omega] at this
        rw [this]
        unfold cb
        rw [d1]
      · rw [u2_n (Or.inr d1)]
        by_cases d2 : j / 32 = a / 32
        · rw [d2, u2_s, bt_32 (by omega), lb_shr (by omega)]
          have := key j hj (j % 32) (by omega) (by omega)
          rw [show 63 - j % 32 = 31 - j % 32 + 32 from by omega] at this
          rw [this]
          unfold cb
          rw [d2]
        · rw [u2_n (Or.inr d2), if_neg (by omega)]
  · refine ⟨wI S (o + (b + 1)) (a / 32) (Int64.toInt32 (lushr Y (nI 32))), ?_, Ec_wI E0, ?_⟩
    · rw [if_pos (nI_le (by omega) (by omega))]
    · intro j hj
      unfold cb
      rw [V_wI]
      by_cases d2 : j / 32 = a / 32
      · rw [d2, u2_s, bt_32 (by omega), lb_shr (by omega)]
        have := key j hj (j % 32) (by omega) (by omega)
        rw [show 63 - j % 32 = 31 - j % 32 + 32 from by omega] at this
        rw [this]
        unfold cb
        rw [d2]
      · rw [u2_n (Or.inr d2), if_neg (by omega)]
