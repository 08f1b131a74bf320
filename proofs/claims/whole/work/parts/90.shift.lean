/-! ONE CYCLE: what leaves, and who goes on -/
/-- the queue after all have gone on by a stage, before one enters -/
def QX (o : Nat) (S : Sx) (vm : Nat → Nat → Int32) (nf na nt np L : Nat) (fs ta sa : Nat → Nat) (en gn cm ce : Nat) (b : Nat → Nat) (Tn : Nat → Nat → TC) (Wn : Nat → Nat → Int32) : Prop :=
  (gn ≤ en ∧ en ≤ cm ∧ cm ≤ en + 40 ∧ b 0 = en ∧ b L = gn ∧ b 1 = en) ∧
  (∀ s, 1 ≤ s → s < L → (V o S 326 s = -1 ∧ b (s + 1) = b s) ∨ (V o S 326 s = nI (b (s + 1)) ∧ b s = b (s + 1) + 1 ∧ ∃ ci, vm 945 (b (s + 1) % 128) = nI ci ∧ ci + s + 1 = ce)) ∧
  (∀ n, n < gn → gn ≤ n + 64 → goneR (V o S) vm L n) ∧
  (∀ j, j < cm - en → lineR (V o S) vm nt (en + j) j) ∧
  (∀ s, 1 ≤ s → s < L → b s = b (s + 1) + 1 → flyR (V o S) vm nf nt np fs ta sa Tn Wn (b (s + 1)) s) ∧
  (∀ t, t < nt → CTb o S t (Tn (b (ta t + 1)) t) ∧ MTv vm t (Tn en t) ∧ ∀ n, gn ≤ n → n ≤ en → TV (V o S) na t (Tn n t) ∧ TU (Tn n t)) ∧
  (∀ j, j < 64 → V o S 327 j = Wn (b (sa (j / 16) + 1)) j ∧ vm 928 j = Wn en j)
/-- what goes on before the work of a cycle may change, in the class -/
def FX (o : Nat) (S S1 : Sx) : Prop := Ly o S1 ∧ sR S1 = sR S ∧ sJ S1 = sJ S ∧ ∀ c k, ¬ (328 ≤ c ∧ c < 888) → c ≠ 326 → ¬ (c = 1 ∧ 7 ≤ k) → V o S1 c k = V o S c k
theorem shift_ {o : Nat} {S S1 S2 : Sx} {vm vm' : Nat → Nat → Int32} {nf na nt np L : Nat} {fs ta sa : Nat → Nat} {en gn cm ce : Nat} {b : Nat → Nat} {Tn : Nat → Nat → TC} {Wn : Nat → Nat → Int32} (hL1 : 1 ≤ L) (hL : L ≤ 12) (hnt : nt ≤ 8) (hta : ∀ t, t < nt → ta t < L) (hsa : ∀ r, r < 4 → sa r < L) (hQ : QC o S vm nf na nt np L fs ta sa L en gn cm ce b Tn Wn)
    (hS1 : FL1 o S S1 (gn % 128)) (hg : b (L - 1) = gn + 1 → goneR (V o S1) vm L gn) (h1 : b (L - 1) = gn → S1 = S) (hS2 : Ef o S1 S2 (fun c k => if c = 326 ∧ 1 ≤ k ∧ k ≤ L - 1 then V o S1 326 (k - 1) else V o S1 c k)) (hvm : ∀ c k, (919 ≤ c) → vm' c k = vm c k) (h908 : ∀ k, vm' 908 k = vm 908 k) :
    QX o S2 vm' nf na nt np L fs ta sa en (b (L - 1)) cm (ce + 1) (fun s => if s = 0 then en else b (s - 1)) Tn Wn := by
  have hb := QC_b hQ
  obtain ⟨⟨a1, a2, a3, a4, a5⟩, A2, A3, A4, A5, A6, A7⟩ := hQ
  have m0 := b_mono hb (L - 1) 0 (by omega)
  rw [Nat.zero_add, a4] at m0
  have bL : b (L - 1) = gn ∨ b (L - 1) = gn + 1 := by
    have := hb (L - 1) (by omega)
    rw [show L - 1 + 1 = L from by omega, a5] at this
    omega
  have mL := b_mono hb L 0 (by omega)
  rw [Nat.zero_add, a4, a5] at mL
  obtain ⟨L2, R2, J2, V2⟩ := hS2
  have e2 : ∀ c k, c ≠ 326 → V o S2 c k = V o S1 c k := by
    intro c k w
    rw [V2]
    show (if _ then _ else _) = _
    rw [if_neg (by omega)]
  have e326 : ∀ k, 1 ≤ k → k < L → V o S2 326 k = V o S 326 (k - 1) := by
    intro k k1 k2
    rw [V2]
    show (if _ then _ else _) = _
    rw [if_pos ⟨rfl, by omega, by omega⟩, hS1.2.2.2 _ _ (by omega) (by omega)]
  have e1 : ∀ c k, ¬ (328 + 4 * (gn % 128) ≤ c ∧ c < 332 + 4 * (gn % 128)) → ¬ (c = 1 ∧ k = 8) → V o S1 c k = V o S c k := hS1.2.2.2
  have ep : ∀ c k, pc c k → V o S2 c k = V o S c k := by
    intro c k w
    unfold pc at w
    rw [e2 _ _ (by omega), e1 _ _ (by omega) (by omega)]
  have epl : ∀ n', n' % 128 ≠ gn % 128 → plE (V o S) (V o S2) n' := by
    intro n' w c k w1 w2
    rw [e2 _ _ (by omega), e1 _ _ (by omega) (by omega)]
  have epl1 : ∀ n', plE (V o S1) (V o S2) n' := fun n' c k w1 w2 => e2 _ _ (by omega)
  have ehd : ∀ n', hdE (V o S) (V o S2) n' := by
    intro n' c k w1 w2
    rw [e2 _ _ (by omega), e1 _ _ (by omega) (by omega)]
  have tdr : ∀ n', tdE vm vm' n' := fun n' => ⟨fun c w => hvm c _ (by omega), fun i w => hvm _ _ (by omega)⟩
  have lst : b (L - 1) ≠ gn → ∀ n', n' % 128 = gn % 128 → n' = gn ∨ n' + 128 ≤ gn ∨ gn + 128 ≤ n' := fun _ n' w => by omega
  refine ⟨⟨by omega, a2, a3, if_pos rfl, ?_, ?_⟩, ?_, ?_, ?_, ?_, ?_, ?_⟩
  · show (if L = 0 then en else b (L - 1)) = _
    rw [if_neg (by omega)]
  · show (if 1 = 0 then en else b (1 - 1)) = _
    rw [if_neg (by omega)]; exact a4
  · intro s s1 s2
    show (_ ∧ (if s + 1 = 0 then en else b (s + 1 - 1)) = (if s = 0 then en else b (s - 1))) ∨ (_ = nI (if s + 1 = 0 then en else b (s + 1 - 1)) ∧ (if s = 0 then en else b (s - 1)) = (if s + 1 = 0 then en else b (s + 1 - 1)) + 1 ∧ ∃ ci, vm' 945 ((if s + 1 = 0 then en else b (s + 1 - 1)) % 128) = nI ci ∧ _)
    rw [if_neg (show ¬ s + 1 = 0 by omega), if_neg (show ¬ s = 0 by omega), show s + 1 - 1 = s from by omega, e326 s s1 s2, hvm 945 _ (by omega)]
    have := A2 (s - 1) (by omega)
    rw [show s - 1 + 1 = s from by omega] at this
    rcases this with w | ⟨w1, w2, ci, w3, w4⟩
    · exact Or.inl w
    · exact Or.inr ⟨w1, w2, ci, w3, by omega⟩
  · intro n w1 w2
    by_cases c : n = gn
    · subst c
      exact goneR_cg (epl1 n) (tdr n) (hg (by omega))
    · exact goneR_cg (epl n (by omega)) (tdr n) (A3 n (by omega) (by omega))
  · intro j hj
    by_cases c : b (L - 1) = gn
    · have hSS : S1 = S := h1 c
      refine lineR_cg ?_ (fun c k w1 w2 => hvm c k (by omega)) (A4 j hj)
      intro c' k' w1 w2
      rw [e2 _ _ (by omega), hSS]
    · exact lineR_cg (epl (en + j) (by omega)) (fun c k w1 w2 => hvm c k (by omega)) (A4 j hj)
  · intro s s1 s2
    show (if s = 0 then en else b (s - 1)) = (if s + 1 = 0 then en else b (s + 1 - 1)) + 1 → flyR _ _ _ _ _ _ _ _ _ _ (if s + 1 = 0 then en else b (s + 1 - 1)) s
    rw [if_neg (show ¬ s + 1 = 0 by omega), if_neg (show ¬ s = 0 by omega), show s + 1 - 1 = s from by omega]
    intro w
    have F := A5 (s - 1) (by omega) (by rw [show s - 1 + 1 = s from by omega]; exact w)
    rw [if_pos (by omega), show s - 1 + 1 = s from by omega] at F
    by_cases c : b (L - 1) = gn
    · have hSS : S1 = S := h1 c
      refine flyR_cg hnt ep ?_ (ehd _) (tdr _) F
      intro c' k' w1 w2
      rw [e2 _ _ (by omega), hSS]
    · have k1 := b_mono hb (L - 1 - s) s (by omega)
      rw [show s + (L - 1 - s) = L - 1 from by omega] at k1
      have k2 := b_mono hb s 0 (by omega)
      rw [Nat.zero_add, a4] at k2
      exact flyR_cg hnt ep (epl _ (by omega)) (ehd _) (tdr _) F
  · intro t ht
    obtain ⟨B1, B2, B3⟩ := A6 t ht
    have := hta t ht
    refine ⟨?_, ?_, ?_⟩
    · show CTb o S2 t (Tn (if ta t + 1 = 0 then en else b (ta t + 1 - 1)) t)
      rw [if_neg (by omega), show ta t + 1 - 1 = ta t from by omega]
      unfold vb at B1
      rw [if_pos this] at B1
      refine CTb_cg (by omega) (by rw [R2, hS1.2.1]) (fun c k w1 w2 => ?_) B1
      have := (e2 c k (by omega)).trans (e1 c k (by omega) (by omega))
      exact this
    · obtain ⟨M0, M1, M2⟩ := B2
      refine ⟨M0, by rw [hvm _ _ (by omega)]; exact M1, fun i hi q hq hg => ?_⟩
      rw [h908] at hg
      rw [hvm _ _ (by omega)]; exact M2 i hi q hq hg
    · intro n w1 w2
      obtain ⟨C1, C2⟩ := B3 n (by omega) w2
      exact ⟨TV_cg ep C1, C2⟩
  · intro j hj
    obtain ⟨B1, B2⟩ := A7 j hj
    have := hsa (j / 16) (by omega)
    unfold vb at B1
    rw [if_pos this] at B1
    constructor
    · show _ = Wn (if sa (j / 16) + 1 = 0 then en else b (sa (j / 16) + 1 - 1)) j
      rw [if_neg (by omega), show sa (j / 16) + 1 - 1 = sa (j / 16) from by omega, ← B1, e2 _ _ (by omega), e1 _ _ (by omega) (by omega)]
    · rw [hvm _ _ (by omega)]; exact B2
/-- none enters -/
theorem noenter_ {o : Nat} {S : Sx} {vm : Nat → Nat → Int32} {nf na nt np L : Nat} {fs ta sa : Nat → Nat} {en gn cm ce : Nat} {b : Nat → Nat} {Tn : Nat → Nat → TC} {Wn : Nat → Nat → Int32} (hnt : nt ≤ 8) (hQ : QX o S vm nf na nt np L fs ta sa en gn cm ce b Tn Wn) : QC o (wI S (o + 326) 0 (-1)) vm nf na nt np L fs ta sa 0 en gn cm ce b Tn Wn := by
  obtain ⟨⟨a1, a2, a3, a4, a5, a6⟩, A2, A3, A4, A5, A6, A7⟩ := hQ
  have e : ∀ c k, c ≠ 326 → V o (wI S (o + 326) 0 (-1)) c k = V o S c k := fun c k w => by rw [V_wI, u2_n (Or.inl w)]
  have ep : ∀ c k, pc c k → V o (wI S (o + 326) 0 (-1)) c k = V o S c k := fun c k w => e c k (by unfold pc at w; omega)
  have tdr : ∀ n', tdE vm vm n' := fun n' => ⟨fun _ _ => rfl, fun _ _ => rfl⟩
  refine ⟨⟨a1, a2, a3, a4, a5⟩, ?_, ?_, ?_, ?_, ?_, ?_⟩
  · intro s hs
    by_cases c : s = 0
    · subst c
      left
      exact ⟨by rw [V_wI, u2_s], by rw [a4]; exact a6⟩
    · rw [V_wI, u2_n (by omega)]
      exact A2 s (by omega) hs
  · intro n w1 w2; exact goneR_cg (fun c k _ _ => e c k (by omega)) (tdr n) (A3 n w1 w2)
  · intro j hj; exact lineR_cg (fun c k _ _ => e c k (by omega)) (fun _ _ _ _ => rfl) (A4 j hj)
  · intro s hs w
    rw [if_neg (by omega)]
    have c : s ≠ 0 := by intro q; subst q; rw [Nat.zero_add, a4, a6] at w; omega
    exact flyR_cg hnt ep (fun c k _ _ => e c k (by omega)) (fun c k _ _ => e c k (by omega)) (tdr _) (A5 s (by omega) hs w)
  · intro t ht
    obtain ⟨B1, B2, B3⟩ := A6 t ht
    refine ⟨?_, B2, fun n w1 w2 => ⟨TV_cg ep (B3 n w1 w2).1, (B3 n w1 w2).2⟩⟩
    unfold vb
    rw [if_neg (by omega)]
    exact CTb_cut (by omega) (by omega) B1
  · intro j hj
    unfold vb
    rw [if_neg (by omega), e _ _ (by omega)]
    exact A7 j hj
theorem flyR_T {vc vm : Nat → Nat → Int32} {nf nt np : Nat} {fs ta sa : Nat → Nat} {Tn Tn' : Nat → Nat → TC} {Wn Wn' : Nat → Nat → Int32} {n wk : Nat} (e1 : Tn' n = Tn n) (e2 : Tn' (n + 1) = Tn (n + 1)) (e3 : Wn' n = Wn n) (e4 : Wn' (n + 1) = Wn (n + 1)) (h : flyR vc vm nf nt np fs ta sa Tn Wn n wk) : flyR vc vm nf nt np fs ta sa Tn' Wn' n wk := by
  unfold flyR pktR entR at *
  have ex : Wx sa Wn' n wk = Wx sa Wn n wk := by funext j; unfold Wx; rw [e3, e4]
  rw [e1, e2, e3, e4, ex]
  exact h
