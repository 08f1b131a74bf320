/-! A STAGE WORKS -/
theorem b_mono {L : Nat} {b : Nat → Nat} (h : ∀ s, s < L → b (s + 1) = b s ∨ b s = b (s + 1) + 1) : ∀ d s, s + d ≤ L → b (s + d) ≤ b s ∧ b s ≤ b (s + d) + d := by
  intro d
  induction d with
  | zero => intro s _; exact ⟨Nat.le_refl _, Nat.le_refl _⟩
  | succ d ih =>
    intro s hs
    obtain ⟨i1, i2⟩ := ih s (by omega)
    have := h (s + d) (by omega)
    rw [show s + (d + 1) = s + d + 1 from by omega]
    omega
theorem QC_b {o : Nat} {S : Sx} {vm : Nat → Nat → Int32} {nf na nt np L : Nat} {fs ta sa : Nat → Nat} {i en gn cm ce : Nat} {b : Nat → Nat} {Tn : Nat → Nat → TC} {Wn : Nat → Nat → Int32} (h : QC o S vm nf na nt np L fs ta sa i en gn cm ce b Tn Wn) : ∀ s, s < L → b (s + 1) = b s ∨ b s = b (s + 1) + 1 := by
  intro s hs
  rcases h.2.1 s hs with q | q
  · exact Or.inl q.2
  · exact Or.inr q.2.1
theorem vb_i {b : Nat → Nat} {i s : Nat} (h : s ≠ i) : vb b (i + 1) s = vb b i s := by
  unfold vb
  by_cases c : s < i
  · rw [if_pos c, if_pos (by omega)]
  · rw [if_neg c, if_neg (by omega)]
theorem vb_e {b : Nat → Nat} {i : Nat} : vb b (i + 1) i = b i ∧ vb b i i = b (i + 1) := by
  unfold vb
  exact ⟨if_pos (by omega), if_neg (by omega)⟩
/-- stage i has worked: what must be shown of it -/
theorem QC_step {o : Nat} {S S1 : Sx} {vm : Nat → Nat → Int32} {nf na nt np L : Nat} {fs ta sa : Nat → Nat} {i en gn cm ce : Nat} {b : Nat → Nat} {Tn : Nat → Nat → TC} {Wn : Nat → Nat → Int32} (hQ : QC o S vm nf na nt np L fs ta sa i en gn cm ce b Tn Wn) (hnt : nt ≤ 8) (hL : L ≤ 12) (hi : i < L) (hocc : b i = b (i + 1) + 1)
    (e1 : ∀ k, V o S1 326 k = V o S 326 k) (ep : ∀ c k, pc c k → V o S1 c k = V o S c k) (epl : ∀ n', n' % 128 ≠ b (i + 1) % 128 → plE (V o S) (V o S1) n') (ehd : ∀ n', n' % 16 ≠ b (i + 1) % 16 → hdE (V o S) (V o S1) n') (hfl : flyR (V o S1) vm nf nt np fs ta sa Tn Wn (b (i + 1)) (i + 1))
    (htb : ∀ t, t < nt → CTb o S1 t (Tn (vb b (i + 1) (ta t)) t)) (har : ∀ j, j < 64 → V o S1 327 j = Wn (vb b (i + 1) (sa (j / 16))) j) : QC o S1 vm nf na nt np L fs ta sa (i + 1) en gn cm ce b Tn Wn := by
  have hb := QC_b hQ
  obtain ⟨⟨a1, a2, a3, a4, a5⟩, A2, A3, A4, A5, A6, A7⟩ := hQ
  have m0 := b_mono hb (L - (i + 1)) (i + 1) (by omega)
  have m1 := b_mono hb i 0 (by omega)
  have m2 := b_mono hb L 0 (by omega)
  rw [show i + 1 + (L - (i + 1)) = L from by omega, a5] at m0
  rw [Nat.zero_add, a4] at m1 m2
  rw [a5] at m2
  have tdr : ∀ n', tdE vm vm n' := fun n' => ⟨fun _ _ => rfl, fun _ _ => rfl⟩
  refine ⟨⟨a1, a2, a3, a4, a5⟩, ?_, ?_, ?_, ?_, ?_, ?_⟩
  · intro s hs; rw [e1]; exact A2 s hs
  · intro n' h1 h2
    exact goneR_cg (epl n' (by omega)) (tdr n') (A3 n' h1 h2)
  · intro j hj
    exact lineR_cg (epl (en + j) (by omega)) (fun _ _ _ _ => rfl) (A4 j hj)
  · intro s hs hso
    by_cases c : s = i
    · subst c
      rw [if_pos (by omega)]
      exact hfl
    · have e : (if s < i + 1 then s + 1 else s) = if s < i then s + 1 else s := by
        by_cases d : s < i
        · rw [if_pos d, if_pos (by omega)]
        · rw [if_neg d, if_neg (by omega)]
      rw [e]
      have ne : b (s + 1) ≠ b (i + 1) ∧ b (s + 1) < en ∧ gn ≤ b (s + 1) := by
        have k1 := b_mono hb s 0 (by omega)
        have k2 := b_mono hb (L - (s + 1)) (s + 1) (by omega)
        rw [Nat.zero_add, a4] at k1
        rw [show s + 1 + (L - (s + 1)) = L from by omega, a5] at k2
        rcases Nat.lt_or_ge s i with d | d
        · have := b_mono hb (i - (s + 1)) (s + 1) (by omega)
          rw [show s + 1 + (i - (s + 1)) = i from by omega] at this
          omega
        · have := b_mono hb (s - (i + 1)) (i + 1) (by omega)
          rw [show i + 1 + (s - (i + 1)) = s from by omega] at this
          omega
      exact flyR_cg hnt ep (epl _ (by omega)) (ehd _ (by omega)) (tdr _) (A5 s hs hso)
  · intro t ht
    obtain ⟨_, B2, B3⟩ := A6 t ht
    exact ⟨htb t ht, B2, fun n h1 h2 => ⟨TV_cg ep (B3 n h1 h2).1, (B3 n h1 h2).2⟩⟩
  · intro j hj
    exact ⟨har j hj, (A7 j hj).2⟩
/-- an empty stage -/
theorem QC_none {o : Nat} {S : Sx} {vm : Nat → Nat → Int32} {nf na nt np L : Nat} {fs ta sa : Nat → Nat} {i en gn cm ce : Nat} {b : Nat → Nat} {Tn : Nat → Nat → TC} {Wn : Nat → Nat → Int32} (hQ : QC o S vm nf na nt np L fs ta sa i en gn cm ce b Tn Wn) (hi : i < L) (hno : b (i + 1) = b i) : QC o S vm nf na nt np L fs ta sa (i + 1) en gn cm ce b Tn Wn := by
  obtain ⟨A1, A2, A3, A4, A5, A6, A7⟩ := hQ
  have ev : ∀ s, vb b (i + 1) s = vb b i s := by
    intro s
    by_cases c : s = i
    · subst c; rw [vb_e.1, vb_e.2, hno]
    · exact vb_i c
  refine ⟨A1, A2, A3, A4, ?_, ?_, ?_⟩
  · intro s hs hso
    have c : s ≠ i := by intro w; subst w; omega
    have e : (if s < i + 1 then s + 1 else s) = if s < i then s + 1 else s := by
      by_cases d : s < i
      · rw [if_pos d, if_pos (by omega)]
      · rw [if_neg d, if_neg (by omega)]
    rw [e]; exact A5 s hs hso
  · intro t ht; rw [ev]; exact A6 t ht
  · intro j hj; rw [ev]; exact A7 j hj
theorem pN_self {vc : Nat → Nat → Int32} {h nx : Nat} (e : vc (840 + 3 * h) 5 = nI nx) : pN vc h (hsC vc h (vc 327), nx) = vc := by
  funext c k
  unfold pN pH hsC
  by_cases c1 : c = 841 + 3 * h
  · rw [if_pos c1, c1]; rfl
  · rw [if_neg c1]
    by_cases c2 : c = 840 + 3 * h ∧ k = 6
    · rw [if_pos c2, c2.1, c2.2]; rfl
    · rw [if_neg c2]
      by_cases c3 : c = 840 + 3 * h ∧ k = 7
      · rw [if_pos c3, c3.1, c3.2]; rfl
      · rw [if_neg c3]
        by_cases c4 : c = 327
        · rw [if_pos c4, c4]; rfl
        · rw [if_neg c4]
          by_cases c5 : c = 840 + 3 * h ∧ k = 5
          · rw [c5.1, c5.2, u2_s, e]
          · rw [u2_n (by omega)]
theorem pN_ar {vc : Nat → Nat → Int32} {h : Nat} {r : HS × Nat} {j : Nat} (hh : h < 16) : pN vc h r 327 j = r.1.ar j := by unfold pN; rw [pH_a]
theorem pN_6 {vc : Nat → Nat → Int32} {h : Nat} {r : HS × Nat} : pN vc h r (840 + 3 * h) 6 = r.1.po := by unfold pN pH; rw [if_neg (by omega), if_pos ⟨rfl, rfl⟩]
theorem pN_7 {vc : Nat → Nat → Int32} {h : Nat} {r : HS × Nat} : pN vc h r (840 + 3 * h) 7 = r.1.dr := by unfold pN pH; rw [if_neg (by omega), if_neg (by omega), if_pos ⟨rfl, rfl⟩]
theorem toldR_e {vc vm : Nat → Nat → Int32} {wd od : Nat → Nat} {tkn m pl nf : Nat} {A : Nat → Prop} {R R' : HS} (hnf : nf ≤ 16) (hod : ∀ i, i < tkn → od i < nf) (e : HSe A R R') (h : toldR vc vm wd od tkn m pl R) : toldR vc vm wd od tkn m pl R' := by
  obtain ⟨e1, e2, e3, e4⟩ := e
  rcases h with ⟨h1, h2⟩ | ⟨h1, h2, h3, h4, h5, h6⟩
  · exact Or.inl ⟨by rw [← e3]; exact h1, h2⟩
  · refine Or.inr ⟨by rw [← e3]; exact h1, h2, by rw [← e2]; exact h3, h4, ?_, h6⟩
    intro j hj
    rw [h5 j hj]
    exact (pbits_cg tkn (fun _ _ => rfl) (fun i hi => (e1 (od i) (by have := hod i hi; omega)).symm) rfl).symm
theorem HSe_sy {A : Nat → Prop} {s s' : HS} (h : HSe A s s') : HSe A s' s := ⟨fun k hk => (h.1 k hk).symm, h.2.1.symm, h.2.2.1.symm, fun i hi ha => (h.2.2.2 i hi ha).symm⟩
/-- a packet goes through the steps of stage i -/
theorem pkt_work {o : Nat} {S : Sx} {vm : Nat → Nat → Int32} {nf ns na nt np L : Nat} {fs ta sa : Nat → Nat} {i en gn cm ce : Nat} {b : Nat → Nat} {Tn : Nat → Nat → TC} {Wn : Nat → Nat → Int32} (hLy : Ly o S) (hp : PR (V o S) nf ns na nt np) (hR : LRv (V o S) nt np L fs ta sa) (hQ : QC o S vm nf na nt np L fs ta sa i en gn cm ce b Tn Wn) (hi : i < L) (hocc : b i = b (i + 1) + 1)
    (hk : V o S (328 + 4 * (b (i + 1) % 128)) 3 = vm 940 (b (i + 1) % 128)) (h0 : vm 940 (b (i + 1) % 128) = 0) (hT : ∀ t, Tn (b (i + 1) + 1) t = Tn (b (i + 1)) t) (h5 : V o S (328 + 4 * (b (i + 1) % 128)) 5 = 0) (hP : pktR (V o S) vm nf np fs sa Tn Wn (b (i + 1)) i) :
    ∃ S1, fLi_workIn_62 fuel (o + 1) (nI i) (o + (840 + 3 * (b (i + 1) % 16))) (nI (fs i)) S = some S1 ∧ Ly o S1 ∧ sR S1 = sR S ∧ sJ S1 = sJ S ∧ (∀ c k, c ≠ 327 → ¬ (840 ≤ c ∧ c < 888) → V o S1 c k = V o S c k) ∧ QC o S1 vm nf na nt np L fs ta sa (i + 1) en gn cm ce b Tn Wn := by
  have hb := QC_b hQ
  have hQ0 := hQ
  obtain ⟨⟨a1, a2, a3, a4, a5⟩, A2, A3, A4, A5, A6, A7⟩ := hQ
  obtain ⟨⟨l1, l2⟩, ⟨f0, fL⟩, fm, f321, f4, fta, fpt, fsa, fpr, hto⟩ := hR
  obtain ⟨nx, m, tkn, od, p1, p2, p3, p4, p5, p6, p7, p8, p9, p10, p11⟩ := hP
  have hp0 := hp
  obtain ⟨⟨b1, b2, b3, b4, b5⟩, _⟩ := hp
  have fmono : ∀ d s, s + d ≤ L → fs s ≤ fs (s + d) := by
    intro d
    induction d with
    | zero => intro s _; exact Nat.le_refl _
    | succ d ih =>
      intro s hs
      have q1 := ih s (by omega)
      have q2 := fm (s + d) (by omega)
      rw [show s + (d + 1) = s + d + 1 from by omega]
      omega
  have fle : fs (i + 1) ≤ np := by have := fmono (L - (i + 1)) (i + 1) (by omega); rw [show i + 1 + (L - (i + 1)) = L from by omega, fL] at this; exact this
  have fi := fm i hi
  have m0 := b_mono hb (L - (i + 1)) (i + 1) (by omega)
  have m1 := b_mono hb i 0 (by omega)
  rw [show i + 1 + (L - (i + 1)) = L from by omega, a5] at m0
  rw [Nat.zero_add, a4] at m1
  generalize hn : b (i + 1) = n at *
  have hh : n % 16 < 16 := by omega
  have eself := pN_self (vc := V o S) p2
  have inst : ∀ s, s < L → ∀ p, fs i ≤ p → p < fs (i + 1) → fs s ≤ p → p < fs (s + 1) → s = i := by
    intro s hs p w1 w2 w3 w4
    rcases Nat.lt_trichotomy s i with c | c | c
    · have := fmono (i - (s + 1)) (s + 1) (by omega)
      rw [show s + 1 + (i - (s + 1)) = i from by omega] at this
      omega
    · exact c
    · have := fmono (s - (i + 1)) (i + 1) (by omega)
      rw [show i + 1 + (s - (i + 1)) = s from by omega] at this
      omega
  have vbi : vb b i i = n := by rw [vb_e.2, hn]
  have TVn : ∀ t, t < nt → TV (V o S) na t (Tn n t) := fun t ht => ((A6 t ht).2.2 n (by omega) (by omega)).1
  obtain ⟨S1, w1, w2⟩ := wk_l (o := o) (h := n % 16) (st := i) (hi := fs (i + 1)) (v := V o S) (T := Tn n) hh (by omega) fle hp0 hto (f321 (i + 1) (by omega)) (fs (i + 1) - fs i) (fs i) fuel (hsC (V o S) (n % 16) (V o S 327), nx) S (by omega) (by unfold fuel; omega) hLy p1 (fun c k => by rw [eself]; rfl)
    (fun p' q1 q2 t q3 q4 => by
      have q5 := fpt p' (by omega) t q3 q4
      have q6 := inst (ta t) (fta t q4).1 p' q1 q2 q5.1 q5.2
      refine ⟨?_, TVn t q4⟩
      have := (A6 t q4).1
      rw [q6, vbi] at this
      exact this)
  obtain ⟨w3, w4, w5, w6⟩ := w2
  generalize hr1 : runS (V o S) (Tn n) (fs (i + 1) - fs i) (fs i) (hsC (V o S) (n % 16) (V o S 327), nx) = r1 at *
  generalize hr2 : runS (V o S) (Tn n) (fs (i + 1) - fs i) (fs i) (hsC (V o S) (n % 16) (Wx sa Wn n i), nx) = r2
  have usesI : ∀ p', fs i ≤ p' → p' < fs (i + 1) → ∀ r, r < 4 → uS (V o S) nt p' r → sa r = i := by
    intro p' q1 q2 r hr hu
    have := fpr p' (by omega) r hr hu
    exact inst (sa r) (fsa r hr) p' q1 q2 this.1 this.2
  -- the run on the class's arrays and the run on the operation's own
  have E : HSe (fun r => sa r = i) r1.1 r2.1 ∧ r1.2 = r2.2 := by
    have := runS_e (A := fun r => sa r = i) (T := Tn n) hp0 fle TVn (fs (i + 1) - fs i) (fs i) (hsC (V o S) (n % 16) (V o S 327), nx) (hsC (V o S) (n % 16) (Wx sa Wn n i), nx) (by omega) (fun p' q1 q2 r hr hu => usesI p' q1 q2 r hr hu)
      ⟨fun _ _ => rfl, rfl, rfl, fun j hj ha => by
        show V o S 327 j = Wx sa Wn n i j
        have := (A7 j hj).1
        rw [ha, vbi] at this
        rw [this]
        unfold Wx
        rw [if_neg (by omega)]⟩ rfl
    rw [hr1, hr2] at this
    exact this
  have rest : runS (V o S) (Tn n) (np - fs i) (fs i) (hsC (V o S) (n % 16) (Wx sa Wn n i), nx) = runS (V o S) (Tn n) (np - fs (i + 1)) (fs (i + 1)) r2 := by
    rw [show np - fs i = (fs (i + 1) - fs i) + (np - fs (i + 1)) from by omega, runS_add, hr2, show fs i + (fs (i + 1) - fs i) = fs (i + 1) from by omega]
  rw [rest] at p10 p11
  -- arrays of stages up to i aren't touched by the rest
  have kept : ∀ j, j < 64 → sa (j / 16) ≤ i → r2.1.ar j = Wn (n + 1) j := by
    intro j hj hs
    rw [← p10 j hj]
    symm
    refine runS_f (T := Tn n) hp0 (Nat.le_refl np) TVn (np - fs (i + 1)) (fs (i + 1)) r2 (by omega) (fun p' q1 q2 hu => ?_)
    have q3 := fpr p' q2 (j / 16) (by omega) hu
    have := fmono (i - sa (j / 16)) (sa (j / 16) + 1) (by omega)
    rw [show sa (j / 16) + 1 + (i - sa (j / 16)) = i + 1 from by omega] at this
    omega
  have other : ∀ j, j < 64 → sa (j / 16) ≠ i → r2.1.ar j = Wx sa Wn n i j ∧ r1.1.ar j = V o S 327 j := by
    intro j hj hs
    constructor
    · rw [← hr2]
      exact runS_f (T := Tn n) hp0 fle TVn _ _ _ (by omega) (fun p' q1 q2 hu => hs (usesI p' q1 q2 (j / 16) (by omega) hu))
    · rw [← hr1]
      exact runS_f (T := Tn n) hp0 fle TVn _ _ _ (by omega) (fun p' q1 q2 hu => hs (usesI p' q1 q2 (j / 16) (by omega) hu))
  have ep : ∀ c k, pc c k → V o S1 c k = V o S c k := by
    intro c k q
    rw [w6, pN_n]
    unfold pc at q
    omega
  have wfr : ∀ c k, c ≠ 327 → ¬ (840 ≤ c ∧ c < 888) → V o S1 c k = V o S c k := by
    intro c k q1 q2
    rw [w6, pN_n (by omega)]
  refine ⟨S1, w1, w3, w4, w5, wfr, ?_⟩
  refine QC_step hQ0 b4 l2 hi (by rw [hn]; exact hocc) (fun k => wfr _ _ (by omega) (by omega)) ep ?_ ?_ ?_ ?_ ?_
  · intro n' _ c k q1 q2
    exact wfr _ _ (by omega) (by omega)
  · intro n' q c k q1 q2
    rw [hn] at q
    rw [w6, pN_n (by omega)]
  · rw [hn]
    refine ⟨by rw [wfr _ _ (by omega) (by omega)]; exact hk, Or.inl ⟨h0, hT, Or.inr ⟨by rw [wfr _ _ (by omega) (by omega)]; exact h5, ?_⟩⟩⟩
    have hr12 : r1.2 ≤ np := by
      have : ∀ m p s, p + m ≤ np → s.2 ≤ np → (runS (V o S) (Tn n) m p s).2 ≤ np := by
        intro m
        induction m with
        | zero => intro p s _ h; exact h
        | succ m ih => intro p s q h; exact ih (p + 1) _ (by omega) (stp_le hto (by omega) h)
      rw [← hr1]
      exact this _ _ _ (by omega) p1
    have HE : HSe (fun _ => True) (hsC (V o S1) (n % 16) (Wx sa Wn n (i + 1))) r2.1 := by
      refine ⟨fun k hk16 => ?_, ?_, ?_, fun j hj _ => ?_⟩
      · show V o S1 (841 + 3 * (n % 16)) k = _
        rw [w6, pN_w]; exact E.1.1 k hk16
      · show V o S1 (840 + 3 * (n % 16)) 6 = _
        rw [w6, pN_6]; exact E.1.2.1
      · show V o S1 (840 + 3 * (n % 16)) 7 = _
        rw [w6, pN_7]; exact E.1.2.2.1
      · show Wx sa Wn n (i + 1) j = _
        unfold Wx
        by_cases c : sa (j / 16) ≤ i
        · rw [if_pos (by omega), kept j hj c]
        · rw [if_neg (by omega), (other j hj (by omega)).1]
          unfold Wx
          rw [if_neg (by omega)]
    have RE := runS_e (A := fun _ => True) (T := Tn n) hp0 (Nat.le_refl np) TVn (np - fs (i + 1)) (fs (i + 1)) (hsC (V o S1) (n % 16) (Wx sa Wn n (i + 1)), r1.2) r2 (by omega) (fun _ _ _ _ _ _ => trivial) HE E.2
    refine ⟨r1.2, m, tkn, od, hr12, ?_, p3, ?_, p5, ?_, ?_, ?_, ?_, ?_, ?_⟩
    · rw [w6, pN_5]
    · rw [wfr _ _ (by omega) (by omega)]; exact p4
    · rw [w6, pN_n (by omega)]; exact p6
    · intro q hq
      rw [w6, pN_n (by omega)]; exact p7 q hq
    · rw [wdv_cg ep]; exact p8
    · rw [w6, pN_7, ← hr1]
      exact runS_dr _ _ _ p9
    · intro j hj
      rw [runS_cg ep, RE.1.2.2.2 j hj trivial]; exact p10 j hj
    · rw [runS_cg ep, wdv_cg ep]
      have t1 := toldR_e b1 (fun i hi => (p7 i hi).2) (HSe_sy RE.1) p11
      exact toldR_cg p3 (fun c k q1 q2 => wfr _ _ (by omega) (by omega)) ⟨fun _ _ => rfl, fun _ _ => rfl⟩ t1
  · intro t ht
    have := (A6 t ht).1
    refine CTb_cg (by omega) w4 (fun c k q1 q2 => wfr c k (by omega) (by omega)) ?_
    by_cases c : ta t = i
    · rw [c, vb_e.1, hocc, hT]
      rw [c, vbi] at this
      exact this
    · rw [vb_i c]; exact this
  · intro j hj
    rw [w6, pN_ar hh]
    by_cases c : sa (j / 16) = i
    · rw [E.1.2.2.2 j hj c, kept j hj (by omega), c, vb_e.1, hocc]
    · rw [(other j hj c).2, vb_i c]; exact (A7 j hj).1
