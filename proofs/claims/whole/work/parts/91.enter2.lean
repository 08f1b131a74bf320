/-! ONE CYCLE: one enters -/
theorem QC_enter {o : Nat} {S S1 : Sx} {vm vm1 : Nat → Nat → Int32} {nf na nt np L : Nat} {fs ta sa : Nat → Nat} {en gn cm ce cy : Nat} {b : Nat → Nat} {Tn Tn' : Nat → Nat → TC} {Wn Wn' : Nat → Nat → Int32} (hL1 : 1 ≤ L) (hL12 : L ≤ 12) (hnt : nt ≤ 8) (hta : ∀ t, t < nt → ta t < L) (hsa : ∀ r, r < 4 → sa r < L) (hQ : QX o S vm nf na nt np L fs ta sa en gn cm ce b Tn Wn) (hlt : en < cm) (hce : ce = cy + 1)
    (c1 : ∀ c k, ¬ (840 + 3 * (en % 16) ≤ c ∧ c < 843 + 3 * (en % 16)) → ¬ (c = 328 + 4 * (en % 128) ∧ k = 5) → ¬ (c = 1 ∧ k = 7) → V o S1 c k = V o S c k) (hR : sR S1 = sR S) (m1 : ∀ c q, ¬ dfC (en % 128) c q → vm1 c q = vm c q) (hln : ∀ vc n' j, j < cm - en - 1 → lineR vc vm nt n' (j + 1) → lineR vc vm1 nt n' j) (hci : vm1 945 (en % 128) = nI cy)
    (hT : ∀ n, n ≤ en → Tn' n = Tn n) (hW : ∀ n, n ≤ en → Wn' n = Wn n) (hfl : flyR (V o (wI S1 (o + 326) 0 (nI en))) vm1 nf nt np fs ta sa Tn' Wn' en 0) (htb : ∀ t, t < nt → MTv vm1 t (Tn' (en + 1) t) ∧ TV (V o S) na t (Tn' (en + 1) t) ∧ TU (Tn' (en + 1) t)) (har : ∀ j, j < 64 → vm1 928 j = Wn' (en + 1) j) :
    QC o (wI S1 (o + 326) 0 (nI en)) vm1 nf na nt np L fs ta sa 0 (en + 1) gn cm ce (fun s => if s = 0 then en + 1 else b s) Tn' Wn' := by
  obtain ⟨⟨a1, a2, a3, a4, a5, a6⟩, A2, A3, A4, A5, A6, A7⟩ := hQ
  have hb : ∀ s, s < L → b (s + 1) = b s ∨ b s = b (s + 1) + 1 := by
    intro s hs
    by_cases c : s = 0
    · subst c; left; rw [Nat.zero_add, a4]; exact a6
    · rcases A2 s (by omega) hs with w | w
      · exact Or.inl w.2
      · exact Or.inr w.2.1
  have mL := b_mono hb L 0 (by omega)
  rw [Nat.zero_add, a4, a5] at mL
  have hb1 : ∀ s, s + 1 ≤ L → gn ≤ b (s + 1) ∧ b (s + 1) ≤ en := by
    intro s hs
    have k1 := b_mono hb (L - (s + 1)) (s + 1) (by omega)
    rw [show s + 1 + (L - (s + 1)) = L from by omega, a5] at k1
    have k2 := b_mono hb (s + 1) 0 (by omega)
    rw [Nat.zero_add, a4] at k2
    omega
  have e : ∀ c k, ¬ (840 + 3 * (en % 16) ≤ c ∧ c < 843 + 3 * (en % 16)) → ¬ (c = 328 + 4 * (en % 128) ∧ k = 5) → ¬ (c = 1 ∧ k = 7) → c ≠ 326 → V o (wI S1 (o + 326) 0 (nI en)) c k = V o S c k := by
    intro c k w1 w2 w3 w4
    rw [V_wI, u2_n (Or.inl w4)]; exact c1 c k w1 w2 w3
  have ep : ∀ c k, pc c k → V o (wI S1 (o + 326) 0 (nI en)) c k = V o S c k := fun c k w => by unfold pc at w; exact e c k (by omega) (by omega) (by omega) (by omega)
  have epl : ∀ n', n' % 128 ≠ en % 128 → plE (V o S) (V o (wI S1 (o + 326) 0 (nI en))) n' := fun n' w c k w1 w2 => e c k (by omega) (by omega) (by omega) (by omega)
  have ehd : ∀ n', n' % 16 ≠ en % 16 → hdE (V o S) (V o (wI S1 (o + 326) 0 (nI en))) n' := fun n' w c k w1 w2 => e c k (by omega) (by omega) (by omega) (by omega)
  have tdr : ∀ n', n' % 128 ≠ en % 128 → tdE vm vm1 n' := fun n' w => ⟨fun c q => m1 c _ (by unfold dfC; omega), fun i q => m1 _ _ (by unfold dfC; omega)⟩
  refine ⟨⟨by omega, by omega, by omega, if_pos rfl, ?_⟩, ?_, ?_, ?_, ?_, ?_, ?_⟩
  · show (if L = 0 then en + 1 else b L) = gn
    rw [if_neg (by omega)]; exact a5
  · intro s hs
    show (_ ∧ (if s + 1 = 0 then en + 1 else b (s + 1)) = (if s = 0 then en + 1 else b s)) ∨ (_ = nI (if s + 1 = 0 then en + 1 else b (s + 1)) ∧ (if s = 0 then en + 1 else b s) = (if s + 1 = 0 then en + 1 else b (s + 1)) + 1 ∧ ∃ ci, vm1 945 ((if s + 1 = 0 then en + 1 else b (s + 1)) % 128) = nI ci ∧ _)
    rw [if_neg (show ¬ s + 1 = 0 by omega)]
    by_cases c : s = 0
    · subst c
      right
      rw [if_pos rfl, Nat.zero_add, a6]
      exact ⟨by rw [V_wI, u2_s], rfl, cy, hci, by omega⟩
    · rw [if_neg c, V_wI, u2_n (by omega), c1 _ _ (by omega) (by omega) (by omega)]
      rcases A2 s (by omega) hs with w | ⟨w1, w2, ci, w3, w4⟩
      · exact Or.inl w
      · refine Or.inr ⟨w1, w2, ci, ?_, w4⟩
        have := hb1 s (by omega)
        have k2 := b_mono hb (s - 1) 1 (by omega)
        rw [show 1 + (s - 1) = s from by omega, a6] at k2
        rw [m1 _ _ (by unfold dfC; omega)]; exact w3
  · intro n w1 w2
    exact goneR_cg (epl n (by omega)) (tdr n (by omega)) (A3 n w1 w2)
  · intro j hj
    have := A4 (j + 1) (by omega)
    rw [show en + (j + 1) = en + 1 + j from by omega] at this
    exact lineR_cg (epl _ (by omega)) (fun _ _ _ _ => rfl) (hln _ _ j (by omega) this)
  · intro s hs
    show (if s = 0 then en + 1 else b s) = (if s + 1 = 0 then en + 1 else b (s + 1)) + 1 → flyR _ _ _ _ _ _ _ _ _ _ (if s + 1 = 0 then en + 1 else b (s + 1)) (if s < 0 then s + 1 else s)
    rw [if_neg (show ¬ s + 1 = 0 by omega), if_neg (show ¬ s < 0 by omega)]
    intro w
    by_cases c : s = 0
    · subst c
      rw [Nat.zero_add, a6]; exact hfl
    · rw [if_neg c] at w
      have := hb1 s (by omega)
      have k2 := b_mono hb (s - 1) 1 (by omega)
      rw [show 1 + (s - 1) = s from by omega, a6] at k2
      refine flyR_T (hT _ (by omega)) (hT _ (by omega)) (hW _ (by omega)) (hW _ (by omega)) (flyR_cg hnt ep (epl _ (by omega)) (ehd _ (by omega)) (tdr _ (by omega)) (A5 s (by omega) hs w))
  · intro t ht
    obtain ⟨B1, B2, B3⟩ := A6 t ht
    obtain ⟨C1, C2, C3⟩ := htb t ht
    have t1 := hta t ht
    have t2 := hb1 (ta t) (by omega)
    refine ⟨?_, C1, ?_⟩
    · show CTb o _ t (Tn' (vb (fun s => if s = 0 then en + 1 else b s) 0 (ta t)) t)
      unfold vb
      rw [if_neg (by omega)]
      show CTb o _ t (Tn' (if ta t + 1 = 0 then en + 1 else b (ta t + 1)) t)
      rw [if_neg (by omega), hT _ (by omega)]
      exact CTb_cut (by omega) (by omega) (CTb_cg (by omega) hR (fun c k w1 w2 => c1 c k (by omega) (by omega) (by omega)) B1)
    · intro n w1 w2
      by_cases d : n = en + 1
      · subst d; exact ⟨TV_cg ep C2, C3⟩
      · rw [hT n (by omega)]
        exact ⟨TV_cg ep (B3 n w1 (by omega)).1, (B3 n w1 (by omega)).2⟩
  · intro j hj
    obtain ⟨B1, B2⟩ := A7 j hj
    have t1 := hsa (j / 16) (by omega)
    have t2 := hb1 (sa (j / 16)) (by omega)
    refine ⟨?_, har j hj⟩
    show _ = Wn' (vb (fun s => if s = 0 then en + 1 else b s) 0 (sa (j / 16))) j
    unfold vb
    rw [if_neg (by omega)]
    show _ = Wn' (if sa (j / 16) + 1 = 0 then en + 1 else b (sa (j / 16) + 1)) j
    rw [if_neg (by omega), hW _ (by omega), e _ _ (by omega) (by omega) (by omega) (by omega)]
    exact B1
theorem enter_ {o : Nat} {S T : Sx} {nf ns na nt np L : Nat} {fs ta sa rk : Nat → Nat} {en gn cm ce cy : Nat} {b : Nat → Nat} {Tn : Nat → Nat → TC} {Wn : Nat → Nat → Int32} (hLS : Ly o S) (hLT : Ly o T) (hcm : cm < 1000) (hp : PR (V o S) nf ns na nt np) (ep : ∀ c k, pc c k → V o T c k = V o S c k) (hW : WY (V o S) ns rk) (hR : LRv (V o S) nt np L fs ta sa) (hQ : QX o S (V o T) nf na nt np L fs ta sa en gn cm ce b Tn Wn) (hlt : en < cm) (hce : ce = cy + 1) (h7 : V o S 1 7 = nI en) (h54 : V o T 893 54 = nI en) (h53 : V o T 893 53 = nI (cm - en)) (h56 : V o T 893 56 = nI cy) :
    ∃ S1 T1 b' Tn' Wn', fLi_enter (o + 1) S = some (nI en, S1) ∧ fMd_doFirst (o + 893) T = some T1 ∧ FE o S S1 (en % 16) (en % 128) ∧ V o S1 1 7 = nI (en + 1) ∧ FD o T T1 en (cm - en - 1) ∧ QC o (wI S1 (o + 326) 0 (nI en)) (V o T1) nf na nt np L fs ta sa 0 (en + 1) gn cm ce b' Tn' Wn' := by
  have hR0 := hR
  obtain ⟨⟨l1, l2⟩, ⟨f0, fL⟩, fm, f321, f4, fta, fpt, fsa, fpr, hto⟩ := hR
  have hp0 := hp
  obtain ⟨⟨b1, b2, b3, b4, b5⟩, _⟩ := hp
  have hpT : PR (V o T) nf ns na nt np := PR_cg ep hp0
  have hWT : WY (V o T) ns rk := WY_cg b2 ep hW
  have htoT : toO (V o T) np := by
    intro p hpp w
    rw [ep 913 _ (by unfold pc; omega)] at w
    rw [ep 917 _ (by unfold pc; omega)]
    exact hto p hpp w
  have hQ0 := hQ
  obtain ⟨⟨a1, a2, a3, a4, a5, a6⟩, A2, A3, A4, A5, A6, A7⟩ := hQ
  have ln := A4 0 (by omega)
  rw [Nat.add_zero] at ln
  obtain ⟨l3, l5, lk⟩ := ln
  have h53' : V o T 893 53 = nI (cm - en - 1 + 1) := by rw [h53, show cm - en - 1 + 1 = cm - en from by omega]
  have TVS : ∀ t, t < nt → MTv (V o T) t (Tn en t) ∧ TV (V o S) na t (Tn en t) ∧ TU (Tn en t) := fun t ht => ⟨(A6 t ht).2.1, ((A6 t ht).2.2 en (by omega) (by omega)).1, ((A6 t ht).2.2 en (by omega) (by omega)).2⟩
  have ftal : ∀ t, t < nt → ta t < L := fun t ht => (fta t ht).1
  rcases lk with ⟨k1, m, k2, k3, k4, k5, k6⟩ | ⟨k1, ⟨t, t1, t2, t3⟩, k3, k4⟩
  · rw [k1] at l3
    obtain ⟨R, S1, r1, r2, r3, r4, r5⟩ := enterP hLS (show en < 1000 by omega) k2 hp0 hW h7 l3 k3 l5
    have a0 : aOK2 ns 0 := Or.inr (Or.inr ⟨0, hW.one, rfl⟩)
    have hRT : rdP (V o T) (mb (V o T) 933 0) m 136 0 r0 = some R := by
      rw [← r1]
      exact (rdP_b hp0 hW ep (fun j hj => by rw [k5 j hj, Nat.mul_zero]) 136 0 r0 a0).symm
    obtain ⟨T1, d1, d2, d3, d4, d5, d6⟩ := doF_p (o := o) (n := en) (k := cm - en - 1) (cy := cy) (m := m) (Tb := Tn en) hLT (by omega) (by omega) k2 hpT hWT htoT h54 h53' h56 k1 k4 (fun t ht => ⟨(TVS t ht).1, TV_cg ep (TVS t ht).2.1⟩) hRT
    have e2 : ∀ c k, ¬ (840 + 3 * (en % 16) ≤ c ∧ c < 843 + 3 * (en % 16)) → ¬ (c = 328 + 4 * (en % 128) ∧ k = 5) → ¬ (c = 1 ∧ k = 7) → c ≠ 326 → V o (wI S1 (o + 326) 0 (nI en)) c k = V o S c k := by
      intro c k w1 w2 w3 w4
      rw [V_wI, u2_n (Or.inl w4)]; exact r3.2.2.2 c k w1 w2 w3
    have ep2 : ∀ c k, pc c k → V o (wI S1 (o + 326) 0 (nI en)) c k = V o S c k := fun c k w => by unfold pc at w; exact e2 c k (by omega) (by omega) (by omega) (by omega)
    have f2 : V o (wI S1 (o + 326) 0 (nI en)) (328 + 4 * (en % 128)) 3 = V o T1 940 (en % 128) := by rw [e2 _ _ (by omega) (by omega) (by omega) (by omega), l3, d3]
    have mtb : ∀ t, t < nt → MTv (V o T1) t (Tn en t) := by
      intro t ht
      obtain ⟨M0, M1, M2⟩ := (TVS t ht).1
      refine ⟨M0, by rw [d5 _ _ (by omega)]; exact M1, fun i hi q hq hg => ?_⟩
      have e908 : V o T1 908 t = V o T 908 t := d2.2.2.2.1 _ _ (by unfold dfC; omega)
      rw [e908] at hg
      rw [d5 _ _ (by omega)]; exact M2 i hi q hq hg
    have d2' := d2
    obtain ⟨_, _, _, D4, _, _, D7⟩ := d2
    rcases d6 with ⟨g1, g2, g3, g4, g5⟩ | ⟨r', s, g1, g2, g3, g4, g5, g6, g7, g8⟩
    · rcases r5 with ⟨x1, x2⟩ | ⟨r', x1, _⟩
      rotate_left
      · rw [g1] at x1; cases x1
      obtain ⟨Tn', tE, tL⟩ : ∃ Tn' : Nat → Nat → TC, Tn' (en + 1) = Tn en ∧ ∀ n, n ≤ en → Tn' n = Tn n := ⟨fun n => if n = en + 1 then Tn en else Tn n, if_pos rfl, fun n hn => if_neg (by omega)⟩
      obtain ⟨Wn', wE, wL⟩ : ∃ Wn' : Nat → Nat → Int32, Wn' (en + 1) = Wn en ∧ ∀ n, n ≤ en → Wn' n = Wn n := ⟨fun n => if n = en + 1 then Wn en else Wn n, if_pos rfl, fun n hn => if_neg (by omega)⟩
      refine ⟨S1, T1, (fun s => if s = 0 then en + 1 else b s), Tn', Wn', r2, d1, r3, r4, d2', ?_⟩
      refine QC_enter (cy := cy) l1 l2 b4 ftal fsa hQ0 hlt hce r3.2.2.2 r3.2.1 D4 (fun vc n' j hj h => D7 vc nt n' j hj h) d4 tL wL ⟨f2, Or.inl ⟨d3, ?_, Or.inl ⟨?_, g2, g3, g4, ?_⟩⟩⟩ ?_ ?_
      · intro t; rw [tE, tL en (Nat.le_refl _)]
      · rw [V_wI, u2_n (by omega)]; exact x2
      · intro j; rw [wE, wL en (Nat.le_refl _)]
      · intro t ht; rw [tE]; exact ⟨mtb t ht, (TVS t ht).2⟩
      · intro j hj; rw [wE, g5]; exact (A7 j hj).2
    · rcases r5 with ⟨x1, _⟩ | ⟨r2', x1, x2, x3, x4, x5, x6, x7⟩
      · rw [g1] at x1; cases x1
      have er : r2' = r' := by rw [x1] at g1; exact Option.some.inj g1
      subst er
      obtain ⟨Tn', tE, tL⟩ : ∃ Tn' : Nat → Nat → TC, Tn' (en + 1) = Tn en ∧ ∀ n, n ≤ en → Tn' n = Tn n := ⟨fun n => if n = en + 1 then Tn en else Tn n, if_pos rfl, fun n hn => if_neg (by omega)⟩
      obtain ⟨Wn', wE, wL⟩ : ∃ Wn' : Nat → Nat → Int32, Wn' (en + 1) = V o T1 928 ∧ ∀ n, n ≤ en → Wn' n = Wn n := ⟨fun n => if n = en + 1 then V o T1 928 else Wn n, if_pos rfl, fun n hn => if_neg (by omega)⟩
      refine ⟨S1, T1, (fun s => if s = 0 then en + 1 else b s), Tn', Wn', r2, d1, r3, r4, d2', ?_⟩
      have hdv : ∀ c k, 840 + 3 * (en % 16) ≤ c → c < 843 + 3 * (en % 16) → V o (wI S1 (o + 326) 0 (nI en)) c k = V o S1 c k := fun c k w1 w2 => by rw [V_wI, u2_n (by omega)]
      have TV0 : ∀ t, t < nt → TV (V o S) na t (Tn en t) := fun t ht => (TVS t ht).2.1
      -- the class's run and the reference's are one
      have HE : HSe (fun _ => True) (hsC (V o (wI S1 (o + 326) 0 (nI en))) (en % 16) (Wx sa Wn' en 0)) s := by
        refine ⟨fun k hk => ?_, ?_, ?_, fun j hj _ => ?_⟩
        · show V o (wI S1 (o + 326) 0 (nI en)) (841 + 3 * (en % 16)) k = _
          rw [hdv _ _ (by omega) (by omega), g3 k hk]; exact x3.1 k hk
        · show V o (wI S1 (o + 326) 0 (nI en)) (840 + 3 * (en % 16)) 6 = _
          rw [hdv _ _ (by omega) (by omega), x6, g4]
        · show V o (wI S1 (o + 326) 0 (nI en)) (840 + 3 * (en % 16)) 7 = _
          rw [hdv _ _ (by omega) (by omega), x7, g5]
        · show Wx sa Wn' en 0 j = _
          unfold Wx
          rw [if_neg (by omega), wL en (Nat.le_refl _), g6]
          exact (A7 j hj).2.symm
      have RE := runS_e (A := fun _ => True) (T := Tn en) hp0 (Nat.le_refl np) TV0 np 0 (hsC (V o (wI S1 (o + 326) 0 (nI en))) (en % 16) (Wx sa Wn' en 0), 0) (s, 0) (by omega) (fun _ _ _ _ _ _ => trivial) HE rfl
      have rT : runS (V o T) (Tn en) np 0 (s, 0) = runS (V o S) (Tn en) np 0 (s, 0) := runS_cg ep _ _ _
      have wdT : wdv (V o T) = wdv (V o S) := wdv_cg ep
      rw [rT] at g7 g8
      rw [wdT] at g8
      refine QC_enter (cy := cy) l1 l2 b4 ftal fsa hQ0 hlt hce r3.2.2.2 r3.2.1 D4 (fun vc n' j hj h => D7 vc nt n' j hj h) d4 tL wL ⟨f2, Or.inl ⟨d3, ?_, Or.inr ⟨?_, ?_⟩⟩⟩ ?_ ?_
      · intro t; rw [tE, tL en (Nat.le_refl _)]
      · rw [V_wI, u2_n (by omega)]; exact x2
      · refine ⟨0, m, r2'.tk, r2'.od, by omega, ?_, k2, ?_, ?_, ?_, ?_, ?_, ?_, ?_, ?_⟩
        · rw [hdv _ _ (by omega) (by omega)]; exact x5
        · rw [e2 _ _ (by omega) (by omega) (by omega) (by omega)]; exact k3
        · rw [x4.cn]; exact cnB_le 16
        · rw [hdv _ _ (by omega) (by omega)]; exact x3.2.2.1
        · intro i hi
          exact ⟨by rw [hdv _ _ (by omega) (by omega)]; exact x3.2.1 i hi, x4.od i hi⟩
        · rw [wdv_cg ep2, ← x4.of]; exact x4.le
        · rw [hdv _ _ (by omega) (by omega)]; exact Or.inl x7
        · intro j hj
          rw [f0, Nat.sub_zero, runS_cg ep2, tL en (Nat.le_refl _), wE, g7]
          exact RE.1.2.2.2 j hj trivial
        · rw [f0, Nat.sub_zero, runS_cg ep2, tL en (Nat.le_refl _), wdv_cg ep2]
          refine toldR_e b1 (fun i hi => x4.od i hi) (HSe_sy RE.1) ?_
          rcases g8 with ⟨q1, q2, q3, q4⟩ | ⟨q1, q2, q3, q4, q5, q6⟩
          · exact Or.inl ⟨q1, q2, q3, q4⟩
          · refine Or.inr ⟨q1, q2, q3, q4, ?_, q6⟩
            intro j hj
            rw [q5 j hj]
            refine pbits_cg r2'.tk (fun _ _ => rfl) (fun _ _ => rfl) ?_
            have := k5 j hj
            rw [Nat.mul_zero] at this
            rw [← this]
            exact (cb_cg (fun k => e2 _ _ (by omega) (by omega) (by omega) (by omega))).symm
      · intro t ht; rw [tE]; exact ⟨mtb t ht, (TVS t ht).2⟩
      · intro j hj; rw [wE]
  · have ne0 : ¬ V o S (328 + 4 * (en % 128)) 3 = 0 := by
      rw [l3]
      rcases k1 with w | w
      · rw [w]; decide
      · rw [w]; decide
    have EE := enterE hLS (show en < 1000 by omega) h7 ne0
    obtain ⟨M1, V1', U1⟩ := TVS t t1
    obtain ⟨T1, d1, d2, d3, d4, d5, d6, d7, d8, d9⟩ := doF_e (o := o) (n := en) (k := cm - en - 1) (cy := cy) (t := t) (Tb := Tn en t) (kd := V o T 931 0) (e := V o S (329 + 4 * (en % 128))) hLT (by omega) (by omega) hpT h54 h53' h56 k1 rfl t1 t3 (fun q hq => by have := k3 q hq; rw [Nat.mul_zero, Nat.zero_add] at this; exact this.symm) (fun w => by obtain ⟨y1, y2, y3, y4⟩ := k4 w; exact ⟨y1.symm, y2.symm, y3.symm, y4.symm⟩) M1 (TV_cg ep V1') U1
    rw [chg_cg (show t < 8 by omega) ep] at d4 d8
    have d2' := d2
    obtain ⟨_, _, _, D4, _, _, D7⟩ := d2
    have FE1 : FE o S (wI S (o + 1) 7 (nI en + 1)) (en % 16) (en % 128) := ⟨Ly_wI hLS, sR_wI, sJ_wI, fun c k w1 w2 w3 => by rw [V_wI, u2_n (by omega)]⟩
    obtain ⟨Tn', tE, tL⟩ : ∃ Tn' : Nat → Nat → TC, Tn' (en + 1) = (fun t' => if t' = t then (chg (V o S) t (V o T 931 0) (V o S (329 + 4 * (en % 128))) (Tn en t)).2 else Tn en t') ∧ ∀ n, n ≤ en → Tn' n = Tn n := ⟨fun n => if n = en + 1 then (fun t' => if t' = t then (chg (V o S) t (V o T 931 0) (V o S (329 + 4 * (en % 128))) (Tn en t)).2 else Tn en t') else Tn n, if_pos rfl, fun n hn => if_neg (by omega)⟩
    obtain ⟨Wn', wE, wL⟩ : ∃ Wn' : Nat → Nat → Int32, Wn' (en + 1) = Wn en ∧ ∀ n, n ≤ en → Wn' n = Wn n := ⟨fun n => if n = en + 1 then Wn en else Wn n, if_pos rfl, fun n hn => if_neg (by omega)⟩
    refine ⟨wI S (o + 1) 7 (nI en + 1), T1, (fun s => if s = 0 then en + 1 else b s), Tn', Wn', EE, d1, FE1, by rw [V_wI, u2_s, nI_1], d2', ?_⟩
    have e2 : ∀ c k, ¬ (c = 1 ∧ k = 7) → c ≠ 326 → V o (wI (wI S (o + 1) 7 (nI en + 1)) (o + 326) 0 (nI en)) c k = V o S c k := by
      intro c k w1 w2
      rw [V_wI, V_wI, u2_n (by omega), u2_n (by omega)]
    have ep2 : ∀ c k, pc c k → V o (wI (wI S (o + 1) 7 (nI en + 1)) (o + 326) 0 (nI en)) c k = V o S c k := fun c k w => by unfold pc at w; exact e2 c k (by omega) (by omega)
    refine QC_enter (cy := cy) l1 l2 b4 ftal fsa hQ0 hlt hce FE1.2.2.2 sR_wI D4 (fun vc n' j hj h => D7 vc nt n' j hj h) d7 tL wL ⟨?_, Or.inr ⟨by rw [d3]; exact k1, d5, d6, ?_, t, t1, ?_, ?_, Or.inr ⟨Nat.zero_le _, ?_⟩⟩⟩ ?_ ?_
    · rw [e2 _ _ (by omega) (by omega), d3]; exact l3
    · intro j; rw [wE, wL en (Nat.le_refl _)]
    · rw [e2 _ _ (by omega) (by omega)]; exact t2
    · intro t' ht'; rw [tE, tL en (Nat.le_refl _)]; exact if_neg ht'
    · rw [tE, tL en (Nat.le_refl _), d3, d4, chg_cg (show t < 8 by omega) ep2, show V o (wI (wI S (o + 1) 7 (nI en + 1)) (o + 326) 0 (nI en)) (329 + 4 * (en % 128)) = V o S (329 + 4 * (en % 128)) from funext fun k => e2 _ _ (by omega) (by omega)]
      show (_, (if t = t then _ else _)) = _
      rw [if_pos rfl]
    · intro t' ht'
      rw [tE]
      show MTv _ t' (if t' = t then _ else _) ∧ TV _ _ t' (if t' = t then _ else _) ∧ TU (if t' = t then _ else _)
      by_cases c : t' = t
      · subst c
        rw [if_pos rfl]
        exact ⟨d8, TV_chg hp0 ht' V1' U1⟩
      · rw [if_neg c]
        obtain ⟨⟨Y0, Y1, Y2⟩, Y3⟩ := TVS t' ht'
        refine ⟨⟨Y0, by rw [d9 _ _ (by omega)]; exact Y1, fun i hi q hq hg => ?_⟩, Y3⟩
        have e908 : V o T1 908 t' = V o T 908 t' := D4 _ _ (by unfold dfC; omega)
        rw [e908] at hg
        rw [d9 _ _ (by omega)]; exact Y2 i hi q hq hg
    · intro j hj
      rw [wE, d9 _ _ (by omega)]; exact (A7 j hj).2
