/-! TABLES STAY AS THEY MUST -/
theorem two_p : ∀ r : Nat, r &&& (r + 1) = 0 → ∃ k, r + 1 = 2 ^ k := by
  intro r
  induction r using Nat.strongRecOn with
  | _ r ih =>
    intro h
    by_cases c : r = 0
    · exact ⟨0, by rw [c]⟩
    · by_cases d : r % 2 = 1
      · have e : (r / 2) &&& (r / 2 + 1) = 0 := by
          apply Nat.eq_of_testBit_eq
          intro i
          have q : (r &&& (r + 1)).testBit (i + 1) = false := by rw [h]; exact Nat.zero_testBit _
          rw [Nat.testBit_and, Nat.testBit_succ, Nat.testBit_succ, show (r + 1) / 2 = r / 2 + 1 from by omega] at q
          rw [Nat.testBit_and, Nat.zero_testBit]
          exact q
        obtain ⟨k, hk⟩ := ih (r / 2) (by omega) e
        refine ⟨k + 1, ?_⟩
        rw [Nat.pow_succ, ← hk]
        omega
      · exfalso
        apply c
        have e : ∀ i, r.testBit i = false := by
          intro i
          cases i with
          | zero => rw [Nat.testBit_zero]; simp [d]
          | succ i =>
            have q : (r &&& (r + 1)).testBit (i + 1) = false := by rw [h]; exact Nat.zero_testBit _
            rw [Nat.testBit_and, Nat.testBit_succ, Nat.testBit_succ, show (r + 1) / 2 = r / 2 from by omega, Bool.and_self] at q
            rw [Nat.testBit_succ]; exact q
        exact Nat.eq_of_testBit_eq (fun i => by rw [e i, Nat.zero_testBit])
theorem low_of {x : Int32} (h : x &&& (x + 1) = 0) : ∃ k, k ≤ 32 ∧ ∀ i, i < 32 → bt x i = decide (i < k) := by
  have lt := x.toBitVec.isLt
  have e : x.toBitVec.toNat &&& ((x.toBitVec.toNat + 1) % 2 ^ 32) = 0 := by
    have q := congrArg (fun y : Int32 => y.toBitVec.toNat) h
    simp only [Int32.toBitVec_and, Int32.toBitVec_add, BitVec.toNat_and, BitVec.toNat_add] at q
    exact q
  have key : ∃ k, k ≤ 32 ∧ x.toBitVec.toNat = 2 ^ k - 1 := by
    by_cases c : x.toBitVec.toNat + 1 = 2 ^ 32
    · exact ⟨32, Nat.le_refl _, by omega⟩
    · rw [Nat.mod_eq_of_lt (by omega)] at e
      obtain ⟨k, hk⟩ := two_p _ e
      refine ⟨k, ?_, by omega⟩
      have : 2 ^ k ≤ 2 ^ 32 := by omega
      exact (Nat.pow_le_pow_iff_right (by omega)).mp this
  obtain ⟨k, hk, hx⟩ := key
  refine ⟨k, hk, fun i hi => ?_⟩
  show x.toBitVec.getLsbD i = _
  rw [← BitVec.testBit_toNat, hx, Nat.testBit_two_pow_sub_one]
theorem pm_of {y : Int32} {w : Nat} (h1 : 1 ≤ w) (h2 : w ≤ 32) (h : mOk 1 (y &&& onesOf (nI w)) (onesOf (nI w))) : pmk (y &&& onesOf (nI w)) := by
  unfold mOk at h
  rw [if_neg (by decide)] at h
  have h := h.resolve_left (by decide)
  obtain ⟨k, hk, hb⟩ := low_of h
  have B : ∀ i, i < 32 → (decide (i < w) && !(bt y i && decide (i < w))) = decide (i < k) := by
    intro i hi
    rw [← hb i hi, bt_and, bt_xor, bt_and, ones_le w (by omega) h1 i hi, bt_m1 hi, Bool.xor_true]
  have kw : k ≤ w := by
    rcases Nat.lt_or_ge w k with c | c
    · have := B w (by omega)
      rw [decide_eq_false (Nat.lt_irrefl w), decide_eq_true c] at this
      simp at this
    · exact c
  refine ⟨w, k, h1, h2, kw, ?_⟩
  refine bt_ext fun i hi => ?_
  unfold pmv
  have lk : bt (if k = 0 then 0 else onesOf (nI k)) i = decide (i < k) := by
    by_cases c : k = 0
    · rw [if_pos c, bt_0, c]; rfl
    · rw [if_neg c]; exact ones_le k (by omega) (by omega) i hi
  rw [bt_and, bt_and, bt_xor, lk, bt_m1 hi, ones_le w (by omega) h1 i hi, Bool.xor_true, ← B i hi]
  cases bt y i <;> cases decide (i < w) <;> rfl
/-- an entry that comes leaves a table that may stand -/
theorem TV_in {v : Nat → Nat → Int32} {nf ns na nt np t : Nat} {T : TC} {e : Nat → Int32} (hp : PR v nf ns na nt np) (ht : t < nt) (hV : TV v na t T) (hU : TU T) (ok : okIn (v (128 + 22 * t) 4) (v (128 + 22 * t) 7) (v (128 + 22 * t) 3) (v (128 + 22 * t) 6) (v (128 + 22 * t) 8) T (ctE (v (128 + 22 * t) 3) (v (128 + 22 * t) 6) e)) : TV v na t (insT T (ctE (v (128 + 22 * t) 3) (v (128 + 22 * t) 6) e)) ∧ TU (insT T (ctE (v (128 + 22 * t) 3) (v (128 + 22 * t) 6) e)) := by
  obtain ⟨⟨b1, b2, b3, b4, b5⟩, _, _, _, _, _, hFd, _, _, h9, _⟩ := hp
  obtain ⟨⟨f0, f1, f2, f3, f4⟩, hg, ⟨_, hF3⟩, ⟨_, hG3⟩, ⟨a1, a2⟩, _⟩ := h9 t ht
  obtain ⟨o1, o2, ⟨m, m1, m2, m3⟩, o4, o5⟩ := ok
  obtain ⟨w, w1, w2, w3, w4⟩ := hFd f0 f1
  rw [hF3] at o1
  rw [hG3] at o2
  rw [a1] at m3
  have x5 : ctE (v (128 + 22 * t) 3) (v (128 + 22 * t) 6) e 5 = e 5 := rfl
  constructor
  · refine ⟨by show T.1 + 1 ≤ 20; omega, ?_⟩
    intro i hi
    have hi' : i < T.1 + 1 := hi
    show epx _ _ ((if i = T.1 then _ else T.2 i)) ∧ (∃ a, a < na ∧ (if i = T.1 then _ else T.2 i) 5 = nI a ∧ _) ∧ (_ → (if i = T.1 then _ else T.2 i) 2 = 0 ∧ (if i = T.1 then _ else T.2 i) 3 = 0)
    by_cases c : i = T.1
    · rw [if_pos c]
      refine ⟨⟨?_, ?_⟩, ⟨m, a2 m m1 m3, m2, m3⟩, ?_⟩
      · intro q
        rw [q, f4, w3] at o1
        show pmk (e 1 &&& v (128 + 22 * t) 3)
        rw [f4, w3]
        exact pm_of w1 w2 o1
      · intro q
        rcases hg with ⟨g1, g2, g3, g4⟩ | ⟨g0, g1, g2, g3, g4⟩
        · rw [g4] at q; exact absurd q (by decide)
        · obtain ⟨w', w1', w2', w3', w4'⟩ := hFd g0 g1
          rw [q, g4, w3'] at o2
          show pmk (e 3 &&& v (128 + 22 * t) 6)
          rw [g4, w3']
          exact pm_of w1' w2' o2
      · intro q
        rcases hg with ⟨g1, g2, g3, g4⟩ | ⟨g0, g1, g2, g3, g4⟩
        · constructor
          · show e 2 &&& (e 3 &&& v (128 + 22 * t) 6) = 0
            rw [g3, and_0, and_0]
          · show e 3 &&& v (128 + 22 * t) 6 = 0
            rw [g3, and_0]
        · rw [g2] at q; exact absurd q (nN1 (by omega))
    · rw [if_neg c]; exact hV.2 i (by omega)
  · intro i j hi hj hs
    have hi' : i < T.1 + 1 := hi
    have hj' : j < T.1 + 1 := hj
    have hs' : sK4 ((if i = T.1 then _ else T.2 i)) ((if j = T.1 then _ else T.2 j)) := hs
    have no := fnd_n _ _ o4
    by_cases ci : i = T.1
    · by_cases cj : j = T.1
      · omega
      · rw [if_pos ci, if_neg cj] at hs'
        exact absurd ⟨hs'.1.symm, hs'.2.1.symm, hs'.2.2.1.symm, hs'.2.2.2.symm⟩ (no j (by omega) (by omega))
    · by_cases cj : j = T.1
      · rw [if_neg ci, if_pos cj] at hs'
        exact absurd hs' (no i (by omega) (by omega))
      · rw [if_neg ci, if_neg cj] at hs'
        exact hU i j (by omega) (by omega) hs'
theorem TV_re {v : Nat → Nat → Int32} {na t i0 : Nat} {T : TC} (hi0 : i0 < T.1) (hV : TV v na t T) (hU : TU T) : TV v na t (remT T i0) ∧ TU (remT T i0) := by
  constructor
  · refine ⟨by have := hV.1; show T.1 - 1 ≤ 20; omega, ?_⟩
    intro i hi
    have hi' : i < T.1 - 1 := hi
    show epx _ _ ((if i < i0 then T.2 i else T.2 (i + 1))) ∧ (∃ a, a < na ∧ (if i < i0 then T.2 i else T.2 (i + 1)) 5 = nI a ∧ _) ∧ (_ → (if i < i0 then T.2 i else T.2 (i + 1)) 2 = 0 ∧ (if i < i0 then T.2 i else T.2 (i + 1)) 3 = 0)
    by_cases c : i < i0
    · rw [if_pos c]; exact hV.2 i (by omega)
    · rw [if_neg c]; exact hV.2 (i + 1) (by omega)
  · intro i j hi hj hs
    have hi' : i < T.1 - 1 := hi
    have hj' : j < T.1 - 1 := hj
    have hs' : sK4 ((if i < i0 then T.2 i else T.2 (i + 1))) ((if j < i0 then T.2 j else T.2 (j + 1))) := hs
    by_cases ci : i < i0
    · by_cases cj : j < i0
      · rw [if_pos ci, if_pos cj] at hs'; exact hU i j (by omega) (by omega) hs'
      · rw [if_pos ci, if_neg cj] at hs'; have := hU i (j + 1) (by omega) (by omega) hs'; omega
    · by_cases cj : j < i0
      · rw [if_neg ci, if_pos cj] at hs'; have := hU (i + 1) j (by omega) (by omega) hs'; omega
      · rw [if_neg ci, if_neg cj] at hs'; have := hU (i + 1) (j + 1) (by omega) (by omega) hs'; omega
theorem TV_chg {v : Nat → Nat → Int32} {nf ns na nt np t : Nat} {T : TC} {e : Nat → Int32} {kd : Int32} (hp : PR v nf ns na nt np) (ht : t < nt) (hV : TV v na t T) (hU : TU T) : TV v na t (chg v t kd e T).2 ∧ TU (chg v t kd e T).2 := by
  unfold chg
  by_cases c : kd = 1
  · rw [if_pos c]
    rcases Classical.em (okIn (v (128 + 22 * t) 4) (v (128 + 22 * t) 7) (v (128 + 22 * t) 3) (v (128 + 22 * t) 6) (v (128 + 22 * t) 8) T (ctE (v (128 + 22 * t) 3) (v (128 + 22 * t) 6) e)) with ok | ok
    · rw [if_pos ok]; exact TV_in hp ht hV hU ok
    · rw [if_neg ok]; exact ⟨hV, hU⟩
  · rw [if_neg c]
    cases f : fnd T (ctE (v (128 + 22 * t) 3) (v (128 + 22 * t) 6) e) T.1 0 with
    | none => exact ⟨hV, hU⟩
    | some i0 =>
      have := fnd_s _ _ _ f
      exact TV_re (by omega) hV hU
