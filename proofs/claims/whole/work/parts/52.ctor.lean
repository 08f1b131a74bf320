/-! THE CONSTRUCTORS -/
theorem bd_arr {o n c k kd akd len : Nat} {P Q : Nat → Nat → Prop} {S : Sx} (h : Bd o n P Q S) (hk : kt n = (akd, len)) (hc : c < n) (hkc : (kt c).1 = kd) (hr : rto c k = some n) (hn : ∀ k, rto n k = none) (hq : ∀ k, ¬ isp n k) :
    ∃ S1 S2, mk S akd len = some (o + n, S1) ∧ pX S1 kd k (o + c) (o + n) = some S2 ∧ Bd o (n + 1) (fun c' k' => P c' k' ∧ ¬ (c' = c ∧ k' = k)) Q S2 := by
  obtain ⟨S1, e1, b1⟩ := bd_mk h hk
  obtain ⟨S2, e2, b2⟩ := bd_pX b1 (c := c) (k := k) (v := n) (kd := kd) (by omega) hkc hr
  refine ⟨S1, S2, e1, e2, b2.mono ?_ ?_⟩
  · intro c' k' v _ h2 h3
    rcases h3 with ⟨h3 | h3, h4⟩
    · exact ⟨h3, h4⟩
    · subst h3; rw [hn k'] at h2; cases h2
  · intro c' k' _ h2 h3
    rcases h3 with h3 | h3
    · exact h3
    · subst h3; exact absurd h2 (hq k')
/-- an array of references: its own are still to be set -/
theorem bd_arrX {o n c k kd akd len : Nat} {P Q : Nat → Nat → Prop} {S : Sx} (h : Bd o n P Q S) (hk : kt n = (akd, len)) (hc : c < n) (hkc : (kt c).1 = kd) (hr : rto c k = some n) (hq : ∀ k, ¬ isp n k) :
    ∃ S1 S2, mk S akd len = some (o + n, S1) ∧ pX S1 kd k (o + c) (o + n) = some S2 ∧ Bd o (n + 1) (fun c' k' => (P c' k' ∨ c' = n) ∧ ¬ (c' = c ∧ k' = k)) Q S2 := by
  obtain ⟨S1, e1, b1⟩ := bd_mk h hk
  obtain ⟨S2, e2, b2⟩ := bd_pX b1 (c := c) (k := k) (v := n) (kd := kd) (by omega) hkc hr
  refine ⟨S1, S2, e1, e2, b2.mono (fun _ _ _ _ _ x => x) ?_⟩
  intro c' k' _ h2 h3
  rcases h3 with h3 | h3
  · exact h3
  · subst h3; exact absurd h2 (hq k')
/-- an object: its references are still to be set -/
theorem bd_obj {o n kd len : Nat} {P Q : Nat → Nat → Prop} {S : Sx} (h : Bd o n P Q S) (hk : kt n = (kd, len)) (hq : ∀ k, ¬ isp n k) : ∃ S1, mk S kd len = some (o + n, S1) ∧ Bd o (n + 1) (fun c' k' => P c' k' ∨ c' = n) Q S1 := by
  obtain ⟨S1, e1, b1⟩ := bd_mk h hk
  refine ⟨S1, e1, b1.mono (fun _ _ _ _ _ x => x) ?_⟩
  intro c' k' _ h2 h3
  rcases h3 with h3 | h3
  · exact h3
  · subst h3; exact absurd h2 (hq k')
theorem isp_no {n : Nat} (h : n ≠ 320 ∧ n ≠ 326 ∧ n ≠ 893) (k : Nat) : ¬ isp n k := by unfold isp; omega

theorem kt_St : ∀ i, i < 8 → kt (8 + 5 * i) = (2, 8) ∧ kt (8 + 5 * i + 1) = (100, 4) ∧ kt (8 + 5 * i + 1 + 1) = (100, 4) ∧ kt (8 + 5 * i + 1 + 1 + 1) = (100, 4) ∧ kt (8 + 5 * i + 1 + 1 + 1 + 1) = (100, 4) := by decide +kernel
theorem rto_St : ∀ i, i < 8 → rto (8 + 5 * i) 0 = some (8 + 5 * i + 1) ∧ rto (8 + 5 * i) 1 = some (8 + 5 * i + 1 + 1) ∧ rto (8 + 5 * i) 2 = some (8 + 5 * i + 1 + 1 + 1) ∧ rto (8 + 5 * i) 3 = some (8 + 5 * i + 1 + 1 + 1 + 1) ∧ rto 4 i = some (8 + 5 * i) := by decide +kernel
theorem rto_Stn {i j k : Nat} (hi : i < 8) (hj : 0 < j) (h5 : j < 5) : rto (8 + 5 * i + j) k = none := by
  unfold rto
  rw [if_neg (by omega), if_pos (by omega), if_neg (by omega)]
theorem rto_Stk {i k v : Nat} (hi : i < 8) (h : rto (8 + 5 * i) k = some v) : k < 4 := by
  unfold rto at h
  rw [if_neg (by omega), if_pos (by omega)] at h
  exact (ite_some h).1.2
theorem bd_St {o i : Nat} {P Q : Nat → Nat → Prop} {S : Sx} (h : Bd o (8 + 5 * i) P Q S) (hi : i < 8) : ∃ S1 S2, mk S 2 8 = some (o + (8 + 5 * i), S1) ∧ fSt_init (o + (8 + 5 * i)) S1 = some S2 ∧ Bd o (8 + 5 * i + 1 + 1 + 1 + 1 + 1) P Q S2 := by
  obtain ⟨k0, k1, k2, k3, k4⟩ := kt_St i hi
  obtain ⟨r0, r1, r2, r3, _⟩ := rto_St i hi
  have kk : (kt (8 + 5 * i)).1 = 2 := by rw [k0]
  obtain ⟨S1, e1, b1⟩ := bd_obj h k0 (isp_no (by omega))
  obtain ⟨T1, S2, d1, e2, b2⟩ := bd_arr b1 k1 (by omega) kk r0 (fun k => rto_Stn (j := 1) hi (by omega) (by omega)) (isp_no (by omega))
  obtain ⟨T2, S3, d2, e3, b3⟩ := bd_arr b2 k2 (by omega) kk r1 (fun k => rto_Stn (j := 2) hi (by omega) (by omega)) (isp_no (by omega))
  obtain ⟨T3, S4, d3, e4, b4⟩ := bd_arr b3 k3 (by omega) kk r2 (fun k => rto_Stn (j := 3) hi (by omega) (by omega)) (isp_no (by omega))
  obtain ⟨T4, S5, d4, e5, b5⟩ := bd_arr b4 k4 (by omega) kk r3 (fun k => rto_Stn (j := 4) hi (by omega) (by omega)) (isp_no (by omega))
  refine ⟨S1, S5, e1, ?_, b5.mono ?_ (fun _ _ _ _ x => x)⟩
  · unfold fSt_init
    rw [bd2_some d1, bind_ok e2, bd2_some d2, bind_ok e3, bd2_some d3, bind_ok e4, bd2_some d4, bind_ok e5]
  · intro c k v _ hr hp
    obtain ⟨⟨⟨⟨hp, n0⟩, n1⟩, n2⟩, n3⟩ := hp
    rcases hp with hp | hp
    · exact hp
    · subst hp
      have := rto_Stk hi hr
      omega
theorem bd_Sts {o : Nat} {P Q : Nat → Nat → Prop} (hP : ¬ P 2 1) : ∀ (n i : Nat) (S : Sx), n + i = 8 → Bd o (8 + 5 * i) (fun c k => P c k ∨ (c = 4 ∧ i ≤ k)) Q S → ∃ S', fPr_init_50 (n + 1) (o + 2) (nI i) S = fPr_init_77 17 (o + 2) 0 S' ∧ Bd o 48 P Q S' := by
  intro n
  induction n with
  | zero =>
    intro i S hi h
    have e : i = 8 := by omega
    subst e
    refine ⟨S, ?_, h.mono ?_ (fun _ _ _ _ x => x)⟩
    · rw [fPr_init_50]
      have hc : (8 : Int32) ≤ nI 8 := by decide
      rw [if_pos hc]
    · intro c k v _ hr hp
      rcases hp with hp | ⟨hp, hk⟩
      · exact hp
      · subst hp
        unfold rto at hr
        simp only [show (4 : Nat) < 8 from by decide, if_true] at hr
        have := (ite_some hr).1
        omega
  | succ n ih =>
    intro i S hi h
    have hlt : i < 8 := by omega
    obtain ⟨_, _, _, _, r4⟩ := rto_St i hlt
    obtain ⟨k0, _, _, _, _⟩ := kt_St i hlt
    obtain ⟨S1, S2, e1, e2, b2⟩ := bd_St h hlt
    obtain ⟨S3, e3, b3⟩ := bd_qX b2 (c := 4) (k := i) (v := 8 + 5 * i) (kd := 2) (len := 8) (by omega) (by omega) (by decide) hlt (by omega) (by rw [k0]) r4
    obtain ⟨S', e4, b4⟩ := ih (i + 1) S3 (by omega) (b3.mono (P' := fun c k => P c k ∨ (c = 4 ∧ i + 1 ≤ k)) (by
      intro c k v _ _ hp
      rcases hp with ⟨hp | ⟨h1, h2⟩, h3⟩
      · exact Or.inl hp
      · exact Or.inr ⟨h1, by omega⟩) (fun _ _ _ _ x => x))
    refine ⟨S', ?_, b4⟩
    rw [fPr_init_50]
    have hc : ¬ (8 : Int32) ≤ nI i := nI_ge (b := 8) hlt (by omega)
    rw [if_neg hc, bind_ok (bd_gX h (c := 2) (k := 1) (v := 4) (kd := 1) (by omega) (by decide) (by decide) (by intro x; rcases x with x | x; exact hP x; omega)), bd2_some e1, bind_ok e2, bind_ok e3, nI_1]
    exact e4

theorem kt_Ac : ∀ i, i < 16 → kt (48 + 5 * i) = (3, 5) ∧ kt (48 + 5 * i + 1) = (100, 4) ∧ kt (48 + 5 * i + 1 + 1) = (100, 4) ∧ kt (48 + 5 * i + 1 + 1 + 1) = (100, 4) ∧ kt (48 + 5 * i + 1 + 1 + 1 + 1) = (100, 4) := by decide +kernel
theorem rto_Ac : ∀ i, i < 16 → rto (48 + 5 * i) 0 = some (48 + 5 * i + 1) ∧ rto (48 + 5 * i) 1 = some (48 + 5 * i + 1 + 1) ∧ rto (48 + 5 * i) 2 = some (48 + 5 * i + 1 + 1 + 1) ∧ rto (48 + 5 * i) 3 = some (48 + 5 * i + 1 + 1 + 1 + 1) ∧ rto 5 i = some (48 + 5 * i) := by decide +kernel
theorem rto_Acn {i j k : Nat} (hi : i < 16) (hj : 0 < j) (h5 : j < 5) : rto (48 + 5 * i + j) k = none := by
  unfold rto
  rw [if_neg (by omega), if_pos (by omega), if_neg (by omega)]
theorem rto_Ack {i k v : Nat} (hi : i < 16) (h : rto (48 + 5 * i) k = some v) : k < 4 := by
  unfold rto at h
  rw [if_neg (by omega), if_pos (by omega)] at h
  exact (ite_some h).1.2
theorem bd_Ac {o i : Nat} {P Q : Nat → Nat → Prop} {S : Sx} (h : Bd o (48 + 5 * i) P Q S) (hi : i < 16) : ∃ S1 S2, mk S 3 5 = some (o + (48 + 5 * i), S1) ∧ fAc_init (o + (48 + 5 * i)) S1 = some S2 ∧ Bd o (48 + 5 * i + 1 + 1 + 1 + 1 + 1) P Q S2 := by
  obtain ⟨k0, k1, k2, k3, k4⟩ := kt_Ac i hi
  obtain ⟨r0, r1, r2, r3, _⟩ := rto_Ac i hi
  have kk : (kt (48 + 5 * i)).1 = 3 := by rw [k0]
  obtain ⟨S1, e1, b1⟩ := bd_obj h k0 (isp_no (by omega))
  obtain ⟨T1, S2, d1, e2, b2⟩ := bd_arr b1 k1 (by omega) kk r0 (fun k => rto_Acn (j := 1) hi (by omega) (by omega)) (isp_no (by omega))
  obtain ⟨T2, S3, d2, e3, b3⟩ := bd_arr b2 k2 (by omega) kk r1 (fun k => rto_Acn (j := 2) hi (by omega) (by omega)) (isp_no (by omega))
  obtain ⟨T3, S4, d3, e4, b4⟩ := bd_arr b3 k3 (by omega) kk r2 (fun k => rto_Acn (j := 3) hi (by omega) (by omega)) (isp_no (by omega))
  obtain ⟨T4, S5, d4, e5, b5⟩ := bd_arr b4 k4 (by omega) kk r3 (fun k => rto_Acn (j := 4) hi (by omega) (by omega)) (isp_no (by omega))
  refine ⟨S1, S5, e1, ?_, b5.mono ?_ (fun _ _ _ _ x => x)⟩
  · unfold fAc_init
    rw [bd2_some d1, bind_ok e2, bd2_some d2, bind_ok e3, bd2_some d3, bind_ok e4, bd2_some d4, bind_ok e5]
  · intro c k v _ hr hp
    obtain ⟨⟨⟨⟨hp, n0⟩, n1⟩, n2⟩, n3⟩ := hp
    rcases hp with hp | hp
    · exact hp
    · subst hp
      have := rto_Ack hi hr
      omega
theorem bd_Acs {o : Nat} {P Q : Nat → Nat → Prop} (hP : ¬ P 2 2) : ∀ (n i : Nat) (S : Sx), n + i = 16 → Bd o (48 + 5 * i) (fun c k => P c k ∨ (c = 5 ∧ i ≤ k)) Q S → ∃ S', fPr_init_77 (n + 1) (o + 2) (nI i) S = fPr_init_104 9 (o + 2) 0 S' ∧ Bd o 128 P Q S' := by
  intro n
  induction n with
  | zero =>
    intro i S hi h
    have e : i = 16 := by omega
    subst e
    refine ⟨S, ?_, h.mono ?_ (fun _ _ _ _ x => x)⟩
    · rw [fPr_init_77]
      have hc : (16 : Int32) ≤ nI 16 := by decide
      rw [if_pos hc]
    · intro c k v _ hr hp
      rcases hp with hp | ⟨hp, hk⟩
      · exact hp
      · subst hp
        unfold rto at hr
        simp only [show (5 : Nat) < 8 from by decide, if_true] at hr
        have := (ite_some hr).1
        omega
  | succ n ih =>
    intro i S hi h
    have hlt : i < 16 := by omega
    obtain ⟨_, _, _, _, r4⟩ := rto_Ac i hlt
    obtain ⟨k0, _, _, _, _⟩ := kt_Ac i hlt
    obtain ⟨S1, S2, e1, e2, b2⟩ := bd_Ac h hlt
    obtain ⟨S3, e3, b3⟩ := bd_qX b2 (c := 5) (k := i) (v := 48 + 5 * i) (kd := 3) (len := 16) (by omega) (by omega) (by decide) hlt (by omega) (by rw [k0]) r4
    obtain ⟨S', e4, b4⟩ := ih (i + 1) S3 (by omega) (b3.mono (P' := fun c k => P c k ∨ (c = 5 ∧ i + 1 ≤ k)) (by
      intro c k v _ _ hp
      rcases hp with ⟨hp | ⟨h1, h2⟩, h3⟩
      · exact Or.inl hp
      · exact Or.inr ⟨h1, by omega⟩) (fun _ _ _ _ x => x))
    refine ⟨S', ?_, b4⟩
    rw [fPr_init_77]
    have hc : ¬ (16 : Int32) ≤ nI i := nI_ge (b := 16) hlt (by omega)
    rw [if_neg hc, bind_ok (bd_gX h (c := 2) (k := 2) (v := 5) (kd := 1) (by omega) (by decide) (by decide) (by intro x; rcases x with x | x; exact hP x; omega)), bd2_some e1, bind_ok e2, bind_ok e3, nI_1]
    exact e4

theorem kt_Ta : ∀ i, i < 8 → kt (128 + 22 * i) = (4, 10) ∧ kt (128 + 22 * i + 1) = (205, 20) ∧ rto (128 + 22 * i) 0 = some (128 + 22 * i + 1) ∧ rto 6 i = some (128 + 22 * i) ∧ ∀ j, j < 20 → kt (128 + 22 * i + 1 + 1 + j) = (5, 8) ∧ rto (128 + 22 * i + 1) j = some (128 + 22 * i + 1 + 1 + j) := by decide +kernel
theorem rto_Tan {i j k : Nat} (hi : i < 8) (h5 : j < 20) : rto (128 + 22 * i + 1 + 1 + j) k = none := by
  unfold rto
  rw [if_neg (by omega), if_neg (by omega), if_pos (by omega), if_neg (by omega), if_neg (by omega)]
theorem rto_Tak {i k v : Nat} (hi : i < 8) (h : rto (128 + 22 * i) k = some v) : k < 1 := by
  unfold rto at h
  rw [if_neg (by omega), if_neg (by omega), if_pos (by omega)] at h
  by_cases c : (128 + 22 * i - 128) % 22 = 0 ∧ k < 1
  · exact c.2
  · rw [if_neg c, if_neg (by omega)] at h; cases h
theorem rto_Taj {i k v : Nat} (hi : i < 8) (h : rto (128 + 22 * i + 1) k = some v) : k < 20 := by
  unfold rto at h
  rw [if_neg (by omega), if_neg (by omega), if_pos (by omega), if_neg (by omega)] at h
  exact (ite_some h).1.2
theorem bd_Tal {o t : Nat} {P Q : Nat → Nat → Prop} (ht : t < 8) (hP : ¬ P (128 + 22 * t) 0) : ∀ (n i : Nat) (S : Sx), n + i = 20 → Bd o (128 + 22 * t + 1 + 1 + i) (fun c k => P c k ∨ (c = 128 + 22 * t + 1 ∧ i ≤ k)) Q S → ∃ S', fTa_init_15 (n + 1) (o + (128 + 22 * t)) (nI i) S = some S' ∧ Bd o (128 + 22 * t + 22) P Q S' := by
  obtain ⟨k0, k1, r0, r1, hj⟩ := kt_Ta t ht
  intro n
  induction n with
  | zero =>
    intro i S hi h
    have e : i = 20 := by omega
    subst e
    refine ⟨S, ?_, h.mono ?_ (fun _ _ _ _ x => x)⟩
    · rw [fTa_init_15]
      have hc : (20 : Int32) ≤ nI 20 := by decide
      rw [if_pos hc]
    · intro c k v _ hr hp
      rcases hp with hp | ⟨hp, hk⟩
      · exact hp
      · subst hp
        have := rto_Taj ht hr
        omega
  | succ n ih =>
    intro i S hi h
    have hlt : i < 20 := by omega
    obtain ⟨k2, r2⟩ := hj i hlt
    obtain ⟨S1, e1, b1⟩ := bd_obj h k2 (isp_no (by omega))
    obtain ⟨S3, e3, b3⟩ := bd_qX b1 (c := 128 + 22 * t + 1) (k := i) (v := 128 + 22 * t + 1 + 1 + i) (kd := 5) (len := 20) (by omega) (by omega) k1 hlt (by omega) (by rw [k2]) r2
    obtain ⟨S', e4, b4⟩ := ih (i + 1) S3 (by omega) (b3.mono (P' := fun c k => P c k ∨ (c = 128 + 22 * t + 1 ∧ i + 1 ≤ k)) (by
      intro c k v _ hr hp
      rcases hp with ⟨(hp | ⟨h1, h2⟩) | hp, h3⟩
      · exact Or.inl hp
      · exact Or.inr ⟨h1, by omega⟩
      · subst hp; rw [rto_Tan ht hlt] at hr; cases hr) (fun _ _ _ _ x => x))
    refine ⟨S', ?_, b4⟩
    rw [fTa_init_15]
    have hc : ¬ (20 : Int32) ≤ nI i := nI_ge (b := 20) hlt (by omega)
    have ei : fEn_init (o + (128 + 22 * t + 1 + 1 + i)) S1 = some S1 := rfl
    rw [if_neg hc, bind_ok (bd_gX h (c := 128 + 22 * t) (k := 0) (v := 128 + 22 * t + 1) (kd := 4) (by omega) (by rw [k0]) r0 (by intro x; rcases x with x | x; exact hP x; omega)), bd2_some e1, bind_ok ei, bind_ok e3, nI_1]
    exact e4
theorem bd_Ta {o t : Nat} {P Q : Nat → Nat → Prop} {S : Sx} (h : Bd o (128 + 22 * t) P Q S) (ht : t < 8) (hP : ¬ P (128 + 22 * t) 0) : ∃ S1 S2, mk S 4 10 = some (o + (128 + 22 * t), S1) ∧ fTa_init (o + (128 + 22 * t)) S1 = some S2 ∧ Bd o (128 + 22 * t + 22) P Q S2 := by
  obtain ⟨k0, k1, r0, r1, hj⟩ := kt_Ta t ht
  obtain ⟨S1, e1, b1⟩ := bd_obj h k0 (isp_no (by omega))
  obtain ⟨T1, S2, d1, e2, b2⟩ := bd_arrX b1 (kd := 4) k1 (by omega) (by rw [k0]) r0 (isp_no (by omega))
  obtain ⟨S3, e3, b3⟩ := bd_Tal ht hP 20 0 S2 (by omega) (b2.mono (by
    intro c k v _ hr hp
    rcases hp with ⟨(hp | hp) | hp, h3⟩
    · exact Or.inl hp
    · subst hp
      have := rto_Tak ht hr
      omega
    · exact Or.inr ⟨hp, by omega⟩) (fun _ _ _ _ x => x))
  refine ⟨S1, S3, e1, ?_, b3⟩
  unfold fTa_init
  rw [bd2_some d1, bind_ok e2]
  exact e3
theorem bd_Tas {o : Nat} {P Q : Nat → Nat → Prop} (hP : ¬ P 2 3) (hP2 : ∀ t, t < 8 → ¬ P (128 + 22 * t) 0) : ∀ (n i : Nat) (S : Sx), n + i = 8 → Bd o (128 + 22 * i) (fun c k => P c k ∨ (c = 6 ∧ i ≤ k)) Q S → ∃ S', fPr_init_104 (n + 1) (o + 2) (nI i) S = fPr_init_131 17 (o + 2) 0 S' ∧ Bd o 304 P Q S' := by
  intro n
  induction n with
  | zero =>
    intro i S hi h
    have e : i = 8 := by omega
    subst e
    refine ⟨S, ?_, h.mono ?_ (fun _ _ _ _ x => x)⟩
    · rw [fPr_init_104]
      have hc : (8 : Int32) ≤ nI 8 := by decide
      rw [if_pos hc]
    · intro c k v _ hr hp
      rcases hp with hp | ⟨hp, hk⟩
      · exact hp
      · subst hp
        unfold rto at hr
        simp only [show (6 : Nat) < 8 from by decide, if_true] at hr
        have := (ite_some hr).1
        omega
  | succ n ih =>
    intro i S hi h
    have hlt : i < 8 := by omega
    obtain ⟨k0, k1, r0, r1, hj⟩ := kt_Ta i hlt
    obtain ⟨S1, S2, e1, e2, b2⟩ := bd_Ta h hlt (by intro x; rcases x with x | x; exact hP2 i hlt x; omega)
    obtain ⟨S3, e3, b3⟩ := bd_qX b2 (c := 6) (k := i) (v := 128 + 22 * i) (kd := 4) (len := 8) (by omega) (by omega) (by decide) hlt (by omega) (by rw [k0]) r1
    obtain ⟨S', e4, b4⟩ := ih (i + 1) S3 (by omega) (b3.mono (P' := fun c k => P c k ∨ (c = 6 ∧ i + 1 ≤ k)) (by
      intro c k v _ _ hp
      rcases hp with ⟨hp | ⟨h1, h2⟩, h3⟩
      · exact Or.inl hp
      · exact Or.inr ⟨h1, by omega⟩) (fun _ _ _ _ x => x))
    refine ⟨S', ?_, b4⟩
    rw [fPr_init_104]
    have hc : ¬ (8 : Int32) ≤ nI i := nI_ge (b := 8) hlt (by omega)
    rw [if_neg hc, bind_ok (bd_gX h (c := 2) (k := 3) (v := 6) (kd := 1) (by omega) (by decide) (by decide) (by intro x; rcases x with x | x; exact hP x; omega)), bd2_some e1, bind_ok e2, bind_ok e3, nI_1]
    exact e4
theorem kt_Sp : ∀ i, i < 16 → kt (304 + i) = (6, 5) ∧ rto 7 i = some (304 + i) := by decide +kernel
theorem rto_Spn {i k : Nat} (hi : i < 16) : rto (304 + i) k = none := by
  unfold rto
  rw [if_neg (by omega), if_neg (by omega), if_neg (by omega), if_pos (by omega), if_neg (by omega), if_neg (by omega), if_neg (by omega)]
theorem bd_Sps {o : Nat} {P Q : Nat → Nat → Prop} (hP : ¬ P 2 4) : ∀ (n i : Nat) (S : Sx), n + i = 16 → Bd o (304 + i) (fun c k => P c k ∨ (c = 7 ∧ i ≤ k)) Q S → ∃ S', fPr_init_131 (n + 1) (o + 2) (nI i) S = some S' ∧ Bd o 320 P Q S' := by
  intro n
  induction n with
  | zero =>
    intro i S hi h
    have e : i = 16 := by omega
    subst e
    refine ⟨S, ?_, h.mono ?_ (fun _ _ _ _ x => x)⟩
    · rw [fPr_init_131]
      have hc : (16 : Int32) ≤ nI 16 := by decide
      rw [if_pos hc]
    · intro c k v _ hr hp
      rcases hp with hp | ⟨hp, hk⟩
      · exact hp
      · subst hp
        unfold rto at hr
        simp only [show (7 : Nat) < 8 from by decide, if_true] at hr
        have := (ite_some hr).1
        omega
  | succ n ih =>
    intro i S hi h
    have hlt : i < 16 := by omega
    obtain ⟨k0, r1⟩ := kt_Sp i hlt
    obtain ⟨S1, e1, b1⟩ := bd_obj h k0 (isp_no (by omega))
    obtain ⟨S3, e3, b3⟩ := bd_qX b1 (c := 7) (k := i) (v := 304 + i) (kd := 6) (len := 16) (by omega) (by omega) (by decide) hlt (by omega) (by rw [k0]) r1
    obtain ⟨S', e4, b4⟩ := ih (i + 1) S3 (by omega) (b3.mono (P' := fun c k => P c k ∨ (c = 7 ∧ i + 1 ≤ k)) (by
      intro c k v _ hr hp
      rcases hp with ⟨(hp | ⟨h1, h2⟩) | hp, h3⟩
      · exact Or.inl hp
      · exact Or.inr ⟨h1, by omega⟩
      · subst hp; rw [rto_Spn hlt] at hr; cases hr) (fun _ _ _ _ x => x))
    refine ⟨S', ?_, b4⟩
    rw [fPr_init_131]
    have hc : ¬ (16 : Int32) ≤ nI i := nI_ge (b := 16) hlt (by omega)
    have ei : fSp_init (o + (304 + i)) S1 = some S1 := rfl
    rw [if_neg hc, bind_ok (bd_gX h (c := 2) (k := 4) (v := 7) (kd := 1) (by omega) (by decide) (by decide) (by intro x; rcases x with x | x; exact hP x; omega)), bd2_some e1, bind_ok ei, bind_ok e3, nI_1]
    exact e4
theorem rto_2 (k : Nat) : rto 3 k = none := rfl
theorem rto_c1 {k v : Nat} (h : rto 2 k = some v) : k < 5 := by
  unfold rto at h
  exact (ite_some h).1
theorem bd_Pr {o : Nat} {P Q : Nat → Nat → Prop} {S : Sx} (h : Bd o 2 P Q S) (hP : ∀ c k, 1 < c → ¬ P c k) : ∃ S1 S2, mk S 1 10 = some (o + 2, S1) ∧ fPr_init (o + 2) S1 = some S2 ∧ Bd o 320 P Q S2 := by
  obtain ⟨S1, e1, b1⟩ := bd_obj h (kd := 1) (len := 10) (by decide) (isp_no (by omega))
  obtain ⟨T1, S2, d1, e2, b2⟩ := bd_arr b1 (c := 2) (k := 0) (kd := 1) (akd := 100) (len := 16) (by decide) (by omega) (by decide) (by decide) rto_2 (isp_no (by omega))
  obtain ⟨T2, S3, d2, e3, b3⟩ := bd_arrX b2 (c := 2) (k := 1) (kd := 1) (akd := 202) (len := 8) (by decide) (by omega) (by decide) (by decide) (isp_no (by omega))
  obtain ⟨T3, S4, d3, e4, b4⟩ := bd_arrX b3 (c := 2) (k := 2) (kd := 1) (akd := 203) (len := 16) (by decide) (by omega) (by decide) (by decide) (isp_no (by omega))
  obtain ⟨T4, S5, d4, e5, b5⟩ := bd_arrX b4 (c := 2) (k := 3) (kd := 1) (akd := 204) (len := 8) (by decide) (by omega) (by decide) (by decide) (isp_no (by omega))
  obtain ⟨T5, S6, d5, e6, b6⟩ := bd_arrX b5 (c := 2) (k := 4) (kd := 1) (akd := 206) (len := 16) (by decide) (by omega) (by decide) (by decide) (isp_no (by omega))
  have b7 : Bd o 8 (fun c k => (P c k ∨ c = 5 ∨ c = 6 ∨ c = 7) ∨ (c = 4 ∧ 0 ≤ k)) Q S6 := b6.mono (by
    intro c k v _ hr hp
    by_cases hp0 : P c k
    · exact Or.inl (Or.inl hp0)
    by_cases c1 : c = 2
    · subst c1
      have := rto_c1 hr
      omega
    simp only [hp0, c1, false_or, false_and, and_false, not_false_eq_true, and_true] at hp
    by_cases c3 : c = 4
    · exact Or.inr ⟨c3, by omega⟩
    · exact Or.inl (Or.inr (by omega))) (fun _ _ _ _ x => x)
  obtain ⟨S7, e7, b8⟩ := bd_Sts (P := fun c k => P c k ∨ c = 5 ∨ c = 6 ∨ c = 7) (by intro x; rcases x with x | x; exact hP 2 1 (by omega) x; omega) 8 0 S6 (by omega) b7
  obtain ⟨S8, e8, b9⟩ := bd_Acs (P := fun c k => P c k ∨ c = 6 ∨ c = 7) (by intro x; rcases x with x | x; exact hP 2 2 (by omega) x; omega) 16 0 S7 (by omega) (b8.mono (by
    intro c k v _ hr hp
    rcases hp with hp | hp | hp | hp
    · exact Or.inl (Or.inl hp)
    · exact Or.inr ⟨hp, by omega⟩
    · exact Or.inl (Or.inr (Or.inl hp))
    · exact Or.inl (Or.inr (Or.inr hp))) (fun _ _ _ _ x => x))
  obtain ⟨S9, e9, b10⟩ := bd_Tas (P := fun c k => P c k ∨ c = 7) (by intro x; rcases x with x | x; exact hP 2 3 (by omega) x; omega) (by intro t ht x; rcases x with x | x; exact hP _ 0 (by omega) x; omega) 8 0 S8 (by omega) (b9.mono (by
    intro c k v _ hr hp
    rcases hp with hp | hp | hp
    · exact Or.inl (Or.inl hp)
    · exact Or.inr ⟨hp, by omega⟩
    · exact Or.inl (Or.inr hp)) (fun _ _ _ _ x => x))
  obtain ⟨S10, e10, b11⟩ := bd_Sps (P := P) (hP 2 4 (by omega)) 16 0 S9 (by omega) (b10.mono (by
    intro c k v _ hr hp
    rcases hp with hp | hp
    · exact Or.inl hp
    · exact Or.inr ⟨hp, by omega⟩) (fun _ _ _ _ x => x))
  refine ⟨S1, S10, e1, ?_, b11⟩
  unfold fPr_init
  rw [bd2_some d1, bind_ok e2, bd2_some d2, bind_ok e3, bd2_some d3, bind_ok e4, bd2_some d4, bind_ok e5, bd2_some d5, bind_ok e6]
  exact e7.trans (e8.trans (e9.trans e10))
/-- an array's elements i .. n - 1 are v -/
def flR (S : Sx) (a i n : Nat) (v : Int32) : Sx := (S.1, (fun b j => if b = a ∧ i ≤ j ∧ j < n then v else S.2.1 b j), S.2.2)
theorem fill_5 {a n : Nat} {v : Int32} (hn : n < 10000) : ∀ (f i : Nat) (S : Sx), n < f + i → i ≤ n → sK S a = some (100, n) → fJA_fill_5 f a v (nI i) (nI n) S = some (flR S a i n v) := by
  intro f
  induction f with
  | zero => intro i S h1 h2; omega
  | succ f ih =>
    intro i S h1 h2 hk
    rw [fJA_fill_5]
    by_cases e : i = n
    · subst e
      have hc : nI i ≤ nI i := nI_le (Nat.le_refl _) (by omega)
      rw [if_pos hc]
      unfold flR
      congr 1
      refine Prod.ext rfl (Prod.ext ?_ rfl)
      funext b j
      dsimp only
      rw [if_neg (by omega)]
    · have hc : ¬ nI n ≤ nI i := nI_ge (by omega) (by omega)
      have hq : qI S a (nI i) v = some (wI S a i v) := by
        unfold qI
        rw [if_pos (aOK_nI hk (by omega) (by omega)), nI_clamp (by omega)]
      rw [if_neg hc, bind_ok hq, nI_1, ih (i + 1) (wI S a i v) (by omega) (by omega) hk]
      congr 1
      refine Prod.ext rfl (Prod.ext ?_ rfl)
      funext b j
      show (if b = a ∧ i + 1 ≤ j ∧ j < n then v else (wI S a i v).2.1 b j) = if b = a ∧ i ≤ j ∧ j < n then v else S.2.1 b j
      unfold wI u2
      dsimp only
      by_cases q : b = a ∧ i + 1 ≤ j ∧ j < n
      · rw [if_pos q, if_pos ⟨q.1, by omega, q.2.2⟩]
      · rw [if_neg q]
        by_cases q2 : b = a ∧ j = i
        · rw [if_pos q2, if_pos ⟨q2.1, by omega, by omega⟩]
        · rw [if_neg q2, if_neg (by rintro ⟨x, y, z⟩; apply q2; exact ⟨x, by
            rcases Nat.lt_or_ge i j with w | w
            · exact absurd ⟨x, w, z⟩ q
            · omega⟩)]
theorem fill_ok {S : Sx} {a n : Nat} {v : Int32} (hk : sK S a = some (100, n)) (hn : n < 10000) : fJA_fill a v S = some (flR S a 0 n v) := by
  unfold fJA_fill
  have e : lnI S a = some (nI n) := by unfold lnI; rw [hk]; rfl
  rw [bind_ok e]
  exact fill_5 hn fuel 0 S (by unfold fuel; omega) (by omega) hk
theorem rto_no {c k : Nat} (h : c = 321 ∨ c = 322 ∨ c = 323 ∨ c = 326 ∨ c = 327 ∨ c = 888 ∨ c = 890 ∨ c = 892) : rto c k = none := by
  rcases h with h | h | h | h | h | h | h | h <;> subst h <;> rfl
theorem rto_320 {k v : Nat} (h : rto 320 k = some v) : k < 3 := by
  rcases Nat.lt_or_ge k 3 with q | q
  · exact q
  · exfalso
    unfold rto at h
    rw [if_neg (by omega), if_neg (by omega), if_neg (by omega), if_pos (by omega), if_neg (by omega), if_neg (by omega), if_neg (by omega)] at h
    cases h
theorem rto_1 {k v : Nat} (h : rto 1 k = some v) : k < 6 := by
  rcases Nat.lt_or_ge k 6 with q | q
  · exact q
  · exfalso
    unfold rto at h
    rw [if_pos (by omega), if_neg (by omega), if_pos rfl, if_neg (by omega), if_neg (by omega), if_neg (by omega)] at h
    cases h
theorem rto_324 {k v : Nat} (h : rto 324 k = some v) : k < 128 := by
  rcases Nat.lt_or_ge k 128 with q | q
  · exact q
  · exfalso
    unfold rto at h
    rw [if_neg (by omega), if_neg (by omega), if_neg (by omega), if_pos (by omega), if_neg (by omega), if_neg (by omega), if_neg (by omega)] at h
    cases h
theorem rto_325 {k v : Nat} (h : rto 325 k = some v) : k < 16 := by
  rcases Nat.lt_or_ge k 16 with q | q
  · exact q
  · exfalso
    unfold rto at h
    rw [if_neg (by omega), if_neg (by omega), if_neg (by omega), if_pos (by omega), if_neg (by omega), if_neg (by omega), if_neg (by omega)] at h
    cases h
theorem bd_La {o : Nat} {P : Nat → Nat → Prop} {S : Sx} (h : Bd o 320 P (fun _ _ => False) S) : ∃ S1 S2, mk S 7 7 = some (o + 320, S1) ∧ fLa_init (o + 320) S1 = some S2 ∧ Bd o 324 P (fun _ _ => False) S2 := by
  obtain ⟨S1, e1, b1⟩ := bd_mk h (kd := 7) (len := 7) (by decide)
  obtain ⟨T1, S2, d1, e2, b2⟩ := bd_arr b1 (c := 320) (k := 0) (kd := 7) (akd := 100) (len := 16) (by decide) (by omega) (by decide) (by decide) (fun _ => rto_no (by omega)) (isp_no (by omega))
  obtain ⟨T2, S3, d2, e3, b3⟩ := bd_arr b2 (c := 320) (k := 1) (kd := 7) (akd := 100) (len := 13) (by decide) (by omega) (by decide) (by decide) (fun _ => rto_no (by omega)) (isp_no (by omega))
  obtain ⟨T3, S4, d3, e4, b4⟩ := bd_arr b3 (c := 320) (k := 2) (kd := 7) (akd := 100) (len := 8) (by decide) (by omega) (by decide) (by decide) (fun _ => rto_no (by omega)) (isp_no (by omega))
  obtain ⟨S5, e5, b5⟩ := bd_pI b4 (c := 320) (k := 6) (kd := 7) (by omega) (by decide) (Or.inl ⟨rfl, rfl⟩)
  refine ⟨S1, S5, e1, ?_, b5.mono ?_ ?_⟩
  · unfold fLa_init
    rw [bd2_some d1, bind_ok e2, bd2_some d2, bind_ok e3, bd2_some d3, bind_ok e4, bind_ok e5]
  · intro c k v _ hr hp
    obtain ⟨⟨⟨hp | hp, n0⟩, n1⟩, n2⟩ := hp
    · exact hp
    · subst hp
      have := rto_320 hr
      omega
  · intro c k _ hs hq
    rcases hq with ⟨hq | hq, n0⟩
    · exact hq
    · subst hq
      unfold isp at hs
      omega
theorem kt_Op : ∀ i, i < 128 → kt (328 + 4 * i) = (9, 8) ∧ kt (328 + 4 * i + 1) = (5, 8) ∧ kt (328 + 4 * i + 1 + 1) = (10, 1) ∧ kt (328 + 4 * i + 1 + 1 + 1) = (100, 15) ∧ rto (328 + 4 * i) 0 = some (328 + 4 * i + 1) ∧ rto (328 + 4 * i) 1 = some (328 + 4 * i + 1 + 1) ∧ rto (328 + 4 * i + 1 + 1) 0 = some (328 + 4 * i + 1 + 1 + 1) ∧ rto 324 i = some (328 + 4 * i) := by decide +kernel
theorem rto_Opn {i j k : Nat} (hi : i < 128) (hj : j = 1 ∨ j = 3) : rto (328 + 4 * i + j) k = none := by
  unfold rto
  rw [if_neg (by omega), if_neg (by omega), if_neg (by omega), if_neg (by omega), if_pos (by omega), if_neg (by omega), if_neg (by omega)]
theorem rto_Opk {i k v : Nat} (hi : i < 128) (h : rto (328 + 4 * i) k = some v) : k < 2 := by
  rcases Nat.lt_or_ge k 2 with q | q
  · exact q
  · exfalso
    unfold rto at h
    rw [if_neg (by omega), if_neg (by omega), if_neg (by omega), if_neg (by omega), if_pos (by omega), if_neg (by omega), if_neg (by omega)] at h
    cases h
theorem rto_Opb {i k v : Nat} (hi : i < 128) (h : rto (328 + 4 * i + 1 + 1) k = some v) : k < 1 := by
  rcases Nat.lt_or_ge k 1 with q | q
  · exact q
  · exfalso
    unfold rto at h
    rw [if_neg (by omega), if_neg (by omega), if_neg (by omega), if_neg (by omega), if_pos (by omega), if_neg (by omega), if_neg (by omega)] at h
    cases h
theorem bd_Op {o i : Nat} {P Q : Nat → Nat → Prop} {S : Sx} (h : Bd o (328 + 4 * i) P Q S) (hi : i < 128) : ∃ S1 S2, mk S 9 8 = some (o + (328 + 4 * i), S1) ∧ fOp_init (o + (328 + 4 * i)) S1 = some S2 ∧ Bd o (328 + 4 * i + 1 + 1 + 1 + 1) P Q S2 := by
  obtain ⟨k0, k1, k2, k3, r0, r1, r2, r3⟩ := kt_Op i hi
  obtain ⟨S1, e1, b1⟩ := bd_obj h k0 (isp_no (by omega))
  obtain ⟨T1, S2, d1, e2, b2⟩ := bd_arr b1 k1 (by omega) (kd := 9) (by rw [k0]) r0 (fun k => rto_Opn (j := 1) hi (by omega)) (isp_no (by omega))
  obtain ⟨T2, d2, b3⟩ := bd_obj b2 k2 (isp_no (by omega))
  obtain ⟨T3, S4, d3, e4, b4⟩ := bd_arr b3 k3 (by omega) (kd := 10) (by rw [k2]) r2 (fun k => rto_Opn (j := 3) hi (by omega)) (isp_no (by omega))
  obtain ⟨S5, e5, b5⟩ := bd_pX b4 (c := 328 + 4 * i) (k := 1) (v := 328 + 4 * i + 1 + 1) (kd := 9) (by omega) (by rw [k0]) r1
  refine ⟨S1, S5, e1, ?_, b5.mono ?_ (fun _ _ _ _ x => x)⟩
  · have ei : fEn_init (o + (328 + 4 * i + 1)) T1 = some T1 := rfl
    have eb : fBi_init (o + (328 + 4 * i + 1 + 1)) T2 = some S4 := by
      unfold fBi_init
      rw [bd2_some d3, bind_ok e4]
    unfold fOp_init
    rw [bd2_some d1, bind_ok ei, bind_ok e2, bd2_some d2, bind_ok eb, bind_ok e5]
  · intro c k v _ hr hp
    by_cases hp0 : P c k
    · exact hp0
    exfalso
    simp only [hp0, false_or] at hp
    by_cases c1 : c = 328 + 4 * i
    · subst c1
      have := rto_Opk hi hr
      omega
    · have c2 : c = 328 + 4 * i + 1 + 1 := by omega
      subst c2
      have := rto_Opb hi hr
      omega
theorem bd_Ops {o : Nat} {P Q : Nat → Nat → Prop} (hP : ¬ P 1 2) : ∀ (n i : Nat) (S : Sx), n + i = 128 → Bd o (328 + 4 * i) (fun c k => P c k ∨ (c = 324 ∧ i ≤ k)) Q S → ∃ S', fLi_init_63 (n + 1) (o + 1) (nI i) S = fLi_init_91 17 (o + 1) 0 S' ∧ Bd o 840 P Q S' := by
  intro n
  induction n with
  | zero =>
    intro i S hi h
    have e : i = 128 := by omega
    subst e
    refine ⟨S, ?_, h.mono ?_ (fun _ _ _ _ x => x)⟩
    · rw [fLi_init_63]
      have hc : (128 : Int32) ≤ nI 128 := by decide
      rw [if_pos hc]
    · intro c k v _ hr hp
      rcases hp with hp | ⟨hp, hk⟩
      · exact hp
      · subst hp
        have := rto_324 hr
        omega
  | succ n ih =>
    intro i S hi h
    have hlt : i < 128 := by omega
    obtain ⟨k0, k1, k2, k3, r0, r1, r2, r3⟩ := kt_Op i hlt
    obtain ⟨S1, S2, e1, e2, b2⟩ := bd_Op h hlt
    obtain ⟨S3, e3, b3⟩ := bd_qX b2 (c := 324) (k := i) (v := 328 + 4 * i) (kd := 9) (len := 128) (by omega) (by omega) (by decide) hlt (by omega) (by rw [k0]) r3
    obtain ⟨S', e4, b4⟩ := ih (i + 1) S3 (by omega) (b3.mono (P' := fun c k => P c k ∨ (c = 324 ∧ i + 1 ≤ k)) (by
      intro c k v _ _ hp
      rcases hp with ⟨hp | ⟨h1, h2⟩, h3⟩
      · exact Or.inl hp
      · exact Or.inr ⟨h1, by omega⟩) (fun _ _ _ _ x => x))
    refine ⟨S', ?_, b4⟩
    rw [fLi_init_63]
    have hc : ¬ (128 : Int32) ≤ nI i := nI_ge (b := 128) hlt (by omega)
    rw [if_neg hc, bind_ok (bd_gX h (c := 1) (k := 2) (v := 324) (kd := 8) (by omega) (by decide) (by decide) (by intro x; rcases x with x | x; exact hP x; omega)), bd2_some e1, bind_ok e2, bind_ok e3, nI_1]
    exact e4
theorem kt_He : ∀ i, i < 16 → kt (840 + 3 * i) = (11, 8) ∧ kt (840 + 3 * i + 1) = (100, 16) ∧ kt (840 + 3 * i + 1 + 1) = (100, 16) ∧ rto (840 + 3 * i) 0 = some (840 + 3 * i + 1) ∧ rto (840 + 3 * i) 1 = some (840 + 3 * i + 1 + 1) ∧ rto 325 i = some (840 + 3 * i) := by decide +kernel
theorem rto_Hen {i j k : Nat} (hi : i < 16) (hj : j = 1 ∨ j = 2) : rto (840 + 3 * i + j) k = none := by
  unfold rto
  rw [if_neg (by omega), if_neg (by omega), if_neg (by omega), if_neg (by omega), if_neg (by omega), if_pos (by omega), if_neg (by omega)]
theorem rto_Hek {i k v : Nat} (hi : i < 16) (h : rto (840 + 3 * i) k = some v) : k < 2 := by
  rcases Nat.lt_or_ge k 2 with q | q
  · exact q
  · exfalso
    unfold rto at h
    rw [if_neg (by omega), if_neg (by omega), if_neg (by omega), if_neg (by omega), if_neg (by omega), if_pos (by omega), if_neg (by omega)] at h
    cases h
theorem bd_He {o i : Nat} {P Q : Nat → Nat → Prop} {S : Sx} (h : Bd o (840 + 3 * i) P Q S) (hi : i < 16) : ∃ S1 S2, mk S 11 8 = some (o + (840 + 3 * i), S1) ∧ fHe_init (o + (840 + 3 * i)) S1 = some S2 ∧ Bd o (840 + 3 * i + 1 + 1 + 1) P Q S2 := by
  obtain ⟨k0, k1, k2, r0, r1, r3⟩ := kt_He i hi
  obtain ⟨S1, e1, b1⟩ := bd_obj h k0 (isp_no (by omega))
  obtain ⟨T1, S2, d1, e2, b2⟩ := bd_arr b1 k1 (by omega) (kd := 11) (by rw [k0]) r0 (fun k => rto_Hen (j := 1) hi (by omega)) (isp_no (by omega))
  obtain ⟨T2, S3, d2, e3, b3⟩ := bd_arr b2 k2 (by omega) (kd := 11) (by rw [k0]) r1 (fun k => rto_Hen (j := 2) hi (by omega)) (isp_no (by omega))
  refine ⟨S1, S3, e1, ?_, b3.mono ?_ (fun _ _ _ _ x => x)⟩
  · unfold fHe_init
    rw [bd2_some d1, bind_ok e2, bd2_some d2, bind_ok e3]
  · intro c k v _ hr hp
    obtain ⟨⟨hp | hp, n0⟩, n1⟩ := hp
    · exact hp
    · subst hp
      have := rto_Hek hi hr
      omega
theorem bd_fill {o n : Nat} {P Q : Nat → Nat → Prop} {S : Sx} (h : Bd o n P Q S) (hn : 326 < n) (hQ : ∀ c k, Q c k → c = 326) : ∃ S', fJA_fill (o + 326) (-1) S = some S' ∧ Bd o n P (fun _ _ => False) S' := by
  refine ⟨_, fill_ok (n := 12) (by rw [h.2.1 326 hn]; rfl) (by omega), ?_⟩
  obtain ⟨h1, h2, h3, h4, h5⟩ := h
  refine ⟨h1, h2, h3, ?_, ?_⟩
  · intro c k hc hs
    show (if o + c = o + 326 ∧ 0 ≤ k ∧ k < 12 then (-1 : Int32) else S.2.1 (o + c) k) = 0
    rw [if_neg (by intro q; apply hs; exact Or.inr (Or.inl ⟨by omega, q.2.2⟩))]
    exact h4 c k hc hs
  · intro c k hc hs _
    show (if o + c = o + 326 ∧ 0 ≤ k ∧ k < 12 then (-1 : Int32) else S.2.1 (o + c) k) = -1
    by_cases q : o + c = o + 326 ∧ 0 ≤ k ∧ k < 12
    · rw [if_pos q]
    · rw [if_neg q]
      refine h5 c k hc hs (fun x => ?_)
      have := hQ c k x
      unfold isp at hs
      omega
theorem bd_Hes {o : Nat} {P Q : Nat → Nat → Prop} (hP : ¬ P 1 3 ∧ ¬ P 1 4) (hQ : ∀ c k, Q c k → c = 326) : ∀ (n i : Nat) (S : Sx), n + i = 16 → Bd o (840 + 3 * i) (fun c k => P c k ∨ (c = 325 ∧ i ≤ k)) Q S → ∃ S', fLi_init_91 (n + 1) (o + 1) (nI i) S = some S' ∧ Bd o 888 P (fun _ _ => False) S' := by
  intro n
  induction n with
  | zero =>
    intro i S hi h
    have e : i = 16 := by omega
    subst e
    have h' : Bd o 888 P Q S := h.mono (by
      intro c k v _ hr hp
      rcases hp with hp | ⟨hp, hk⟩
      · exact hp
      · subst hp
        have := rto_325 hr
        omega) (fun _ _ _ _ x => x)
    obtain ⟨S', e1, b1⟩ := bd_fill h' (by omega) hQ
    refine ⟨S', ?_, b1⟩
    rw [fLi_init_91]
    have hc : (16 : Int32) ≤ nI 16 := by decide
    rw [if_pos hc, bind_ok (bd_gX h' (c := 1) (k := 4) (v := 326) (kd := 8) (by omega) (by decide) (by decide) hP.2), bind_ok e1]
  | succ n ih =>
    intro i S hi h
    have hlt : i < 16 := by omega
    obtain ⟨k0, k1, k2, r0, r1, r3⟩ := kt_He i hlt
    obtain ⟨S1, S2, e1, e2, b2⟩ := bd_He h hlt
    obtain ⟨S3, e3, b3⟩ := bd_qX b2 (c := 325) (k := i) (v := 840 + 3 * i) (kd := 11) (len := 16) (by omega) (by omega) (by decide) hlt (by omega) (by rw [k0]) r3
    obtain ⟨S', e4, b4⟩ := ih (i + 1) S3 (by omega) (b3.mono (P' := fun c k => P c k ∨ (c = 325 ∧ i + 1 ≤ k)) (by
      intro c k v _ _ hp
      rcases hp with ⟨hp | ⟨h1, h2⟩, h3⟩
      · exact Or.inl hp
      · exact Or.inr ⟨h1, by omega⟩) (fun _ _ _ _ x => x))
    refine ⟨S', ?_, b4⟩
    rw [fLi_init_91]
    have hc : ¬ (16 : Int32) ≤ nI i := nI_ge (b := 16) hlt (by omega)
    rw [if_neg hc, bind_ok (bd_gX h (c := 1) (k := 3) (v := 325) (kd := 8) (by omega) (by decide) (by decide) (by intro x; rcases x with x | x; exact hP.1 x; omega)), bd2_some e1, bind_ok e2, bind_ok e3, nI_1]
    exact e4
theorem bd_Li {o : Nat} {P : Nat → Nat → Prop} {S : Sx} (h : Bd o 1 P (fun _ _ => False) S) (hP : ∀ c k, 0 < c → ¬ P c k) : ∃ S1 S2, mk S 8 10 = some (o + 1, S1) ∧ fLi_init (o + 1) S1 = some S2 ∧ Bd o 888 P (fun _ _ => False) S2 := by
  obtain ⟨S1, e1, b1⟩ := bd_obj h (kd := 8) (len := 10) (by decide) (isp_no (by omega))
  obtain ⟨U1, U2, f1, f2, c1⟩ := bd_Pr b1 (by intro c k h0 x; rcases x with x | x; exact hP c k (by omega) x; omega)
  obtain ⟨U3, f3, c2⟩ := bd_pX c1 (c := 1) (k := 0) (v := 2) (kd := 8) (by omega) (by decide) (by decide)
  obtain ⟨U4, U5, f4, f5, c3⟩ := bd_La c2
  obtain ⟨U6, f6, c4⟩ := bd_pX c3 (c := 1) (k := 1) (v := 320) (kd := 8) (by omega) (by decide) (by decide)
  obtain ⟨T1, S2, d1, e2, b2⟩ := bd_arrX c4 (c := 1) (k := 2) (kd := 8) (akd := 209) (len := 128) (by decide) (by omega) (by decide) (by decide) (isp_no (by omega))
  obtain ⟨T2, S3, d2, e3, b3⟩ := bd_arrX b2 (c := 1) (k := 3) (kd := 8) (akd := 211) (len := 16) (by decide) (by omega) (by decide) (by decide) (isp_no (by omega))
  obtain ⟨T3, d3, b4⟩ := bd_mk b3 (kd := 100) (len := 12) (by decide)
  obtain ⟨S4, e4, b4⟩ := bd_pX b4 (c := 1) (k := 4) (v := 326) (kd := 8) (by omega) (by decide) (by decide)
  obtain ⟨T4, S5, d4, e5, b5⟩ := bd_arr b4 (c := 1) (k := 5) (kd := 8) (akd := 100) (len := 64) (by decide) (by omega) (by decide) (by decide) (fun _ => rto_no (by omega)) (isp_no (by omega))
  have b8 : Bd o 328 (fun c k => (P c k ∨ c = 325) ∨ (c = 324 ∧ 0 ≤ k)) (fun c k => c = 326) S5 := b5.mono (by
    intro c k v _ hr hp
    by_cases hp0 : P c k
    · exact Or.inl (Or.inl hp0)
    by_cases c1 : c = 1
    · subst c1
      have h6 := rto_1 hr
      simp [hp0] at hp
      omega
    simp only [hp0, c1, false_or, false_and, and_false, not_false_eq_true, and_true] at hp
    by_cases c3 : c = 324
    · exact Or.inr ⟨c3, by omega⟩
    by_cases c4 : c = 326
    · subst c4; rw [rto_no (by omega)] at hr; cases hr
    · exact Or.inl (Or.inr (by omega))) (by
    intro c k _ _ hq
    rcases hq with hq | hq
    · exact absurd hq id
    · exact hq)
  obtain ⟨S8, e8, b9⟩ := bd_Ops (P := fun c k => P c k ∨ c = 325) (by intro x; rcases x with x | x; exact hP 1 2 (by omega) x; omega) 128 0 S5 (by omega) b8
  obtain ⟨S9, e9, b10⟩ := bd_Hes (P := P) ⟨hP 1 3 (by omega), hP 1 4 (by omega)⟩ (fun c k q => q) 16 0 S8 (by omega) (b9.mono (by
    intro c k v _ hr hp
    rcases hp with hp | hp
    · exact Or.inl hp
    · exact Or.inr ⟨hp, by omega⟩) (fun _ _ _ _ x => x))
  refine ⟨S1, S9, e1, ?_, b10⟩
  unfold fLi_init
  rw [bd2_some f1, bind_ok f2, bind_ok f3, bd2_some f4, bind_ok f5, bind_ok f6, bd2_some d1, bind_ok e2, bd2_some d2, bind_ok e3, bd2_some d3, bind_ok e4, bd2_some d4, bind_ok e5]
  exact e8.trans e9
theorem rto_Bi {c k v : Nat} (hc : c = 889 ∨ c = 891) (h : rto c k = some v) : k < 1 := by
  rcases Nat.lt_or_ge k 1 with q | q
  · exact q
  · exfalso
    unfold rto at h
    rw [if_neg (by omega), if_neg (by omega), if_neg (by omega), if_neg (by omega), if_neg (by omega), if_neg (by omega), if_pos (by omega), if_neg (by omega)] at h
    cases h
theorem bd_Bi {o c : Nat} {P Q : Nat → Nat → Prop} {S : Sx} (h : Bd o c P Q S) (hc : c = 889 ∨ c = 891) : ∃ S1 S2, mk S 10 1 = some (o + c, S1) ∧ fBi_init (o + c) S1 = some S2 ∧ Bd o (c + 1 + 1) P Q S2 := by
  have k0 : kt c = (10, 1) := by rcases hc with q | q <;> subst q <;> rfl
  have k1 : kt (c + 1) = (100, 15) := by rcases hc with q | q <;> subst q <;> rfl
  have r0 : rto c 0 = some (c + 1) := by rcases hc with q | q <;> subst q <;> rfl
  obtain ⟨S1, e1, b1⟩ := bd_obj h k0 (isp_no (by omega))
  obtain ⟨T1, S2, d1, e2, b2⟩ := bd_arr b1 k1 (by omega) (kd := 10) (by rw [k0]) r0 (fun k => rto_no (by omega)) (isp_no (by omega))
  refine ⟨S1, S2, e1, ?_, b2.mono ?_ (fun _ _ _ _ x => x)⟩
  · unfold fBi_init
    rw [bd2_some d1, bind_ok e2]
  · intro c' k v _ hr hp
    obtain ⟨hp | hp, n0⟩ := hp
    · exact hp
    · subst hp
      have := rto_Bi hc hr
      omega
theorem rto_c0 {k v : Nat} (h : rto 0 k = some v) : k < 6 := by
  rcases Nat.lt_or_ge k 6 with q | q
  · exact q
  · exfalso
    unfold rto at h
    rw [if_pos (by omega), if_pos rfl, if_neg (by omega), if_neg (by omega), if_neg (by omega), if_neg (by omega), if_neg (by omega), if_neg (by omega)] at h
    cases h
theorem bd_Mp {o : Nat} {S : Sx} (h : Bd o 0 (fun _ _ => False) (fun _ _ => False) S) : ∃ S1 S2, mk S 0 7 = some (o, S1) ∧ fMp_init o S1 = some S2 ∧ Bd o 893 (fun _ _ => False) (fun _ _ => False) S2 := by
  obtain ⟨S1, e1, b1⟩ := bd_obj h (kd := 0) (len := 7) (by decide) (isp_no (by omega))
  obtain ⟨T3, S6, d3, e6, b6⟩ := bd_Li b1 (by intro c k h0 x; rcases x with x | x; exact x; omega)
  obtain ⟨S7, e7, b7⟩ := bd_pX b6 (c := 0) (k := 0) (v := 1) (kd := 0) (by omega) (by decide) (by decide)
  have g1 : gX S7 0 0 o = some (o + 1) := bd_gX b7 (c := 0) (by omega) (by decide) (by decide) (by omega)
  have g2 : gX S7 8 0 (o + 1) = some (o + 2) := bd_gX b7 (c := 1) (by omega) (by decide) (by decide) (fun x => x.1.elim id (fun q => absurd q (by decide)))
  obtain ⟨S3, e3, b3⟩ := bd_pX b7 (c := 0) (k := 1) (v := 2) (kd := 0) (by omega) (by decide) (by decide)
  have g3 : gX S3 0 0 o = some (o + 1) := bd_gX b3 (c := 0) (by omega) (by decide) (by decide) (by omega)
  have g4 : gX S3 8 1 (o + 1) = some (o + 320) := bd_gX b3 (c := 1) (by omega) (by decide) (by decide) (fun x => x.1.1.elim id (fun q => absurd q (by decide)))
  obtain ⟨S5, e5, b5⟩ := bd_pX b3 (c := 0) (k := 2) (v := 320) (kd := 0) (by omega) (by decide) (by decide)
  obtain ⟨T4, S8, d4, e8, b8⟩ := bd_arr b5 (c := 0) (k := 3) (kd := 0) (akd := 5) (len := 8) (by decide) (by omega) (by decide) (by decide) (fun _ => rto_no (by omega)) (isp_no (by omega))
  obtain ⟨T5, S9, d5, e9, b9⟩ := bd_Bi b8 (by omega)
  obtain ⟨S10, e10, b10⟩ := bd_pX b9 (c := 0) (k := 4) (v := 889) (kd := 0) (by omega) (by decide) (by decide)
  obtain ⟨T6, S11, d6, e11, b11⟩ := bd_Bi b10 (by omega)
  obtain ⟨S12, e12, b12⟩ := bd_pX b11 (c := 0) (k := 5) (v := 891) (kd := 0) (by omega) (by decide) (by decide)
  refine ⟨S1, S12, e1, ?_, b12.mono ?_ (fun _ _ _ _ x => x)⟩
  · have ei : fEn_init (o + 888) T4 = some T4 := rfl
    unfold fMp_init
    rw [Nat.add_zero] at e3 e5 e7 e8 e10 e12
    rw [bd2_some d3, bind_ok e6, bind_ok e7, bind_ok g1, bind_ok g2, bind_ok e3, bind_ok g3, bind_ok g4, bind_ok e5, bd2_some d4, bind_ok ei, bind_ok e8, bd2_some d5, bind_ok e9, bind_ok e10, bd2_some d6, bind_ok e11, bind_ok e12]
  · intro c k v _ hr hp
    by_cases c0 : c = 0
    · subst c0
      have h6 := rto_c0 hr
      obtain ⟨⟨⟨⟨⟨⟨_, n0⟩, n1⟩, n2⟩, n3⟩, n4⟩, n5⟩ := hp
      omega
    · obtain ⟨⟨⟨⟨⟨⟨hp | hp, n0⟩, n1⟩, n2⟩, n3⟩, n4⟩, n5⟩ := hp
      · exact hp
      · omega

theorem rto_md {k v : Nat} (h : rto 893 k = some v) : 0 < mof k ∧ k < 80 := by
  unfold rto at h
  rw [if_neg (by omega), if_neg (by omega), if_neg (by omega), if_neg (by omega), if_neg (by omega), if_neg (by omega), if_neg (by omega)] at h
  have h1 := (ite_some h).1.2
  refine ⟨h1, ?_⟩
  rcases Nat.lt_or_ge k 80 with q | q
  · exact q
  · exfalso
    unfold mof at h1
    rw [if_neg (by omega), if_neg (by omega), if_neg (by omega), if_neg (by omega), if_neg (by omega), if_neg (by omega), if_neg (by omega), if_neg (by omega)] at h1
    omega
theorem rto_mdn {c k : Nat} (h : 893 < c) : rto c k = none := by
  unfold rto
  rw [if_neg (by omega), if_neg (by omega), if_neg (by omega), if_neg (by omega), if_neg (by omega), if_neg (by omega), if_neg (by omega), if_neg (by omega)]
/-- the references of the model are set up to slot j -/
theorem bd_md {o n k akd len : Nat} {Q : Nat → Nat → Prop} {S : Sx} (j : Nat) (h : Bd o n (fun c k => c = 893 ∧ j ≤ k) Q S) (hk : kt n = (akd, len)) (hn : 893 < n) (hr : rto 893 k = some n) (hj : ∀ i, j ≤ i → i < k → mof i = 0) :
    ∃ S1 S2, mk S akd len = some (o + n, S1) ∧ pX S1 12 k (o + 893) (o + n) = some S2 ∧ Bd o (n + 1) (fun c i => c = 893 ∧ k + 1 ≤ i) Q S2 := by
  obtain ⟨S1, S2, e1, e2, b2⟩ := bd_arr h hk (c := 893) (k := k) (kd := 12) (by omega) (by decide) hr (fun k => rto_mdn hn) (isp_no (by omega))
  refine ⟨S1, S2, e1, e2, b2.mono ?_ (fun _ _ _ _ x => x)⟩
  intro c i v _ hr2 hp
  obtain ⟨⟨h1, h2⟩, h3⟩ := hp
  refine ⟨h1, ?_⟩
  rcases Nat.lt_or_ge i (k + 1) with q | q
  · exfalso
    subst h1
    have h4 := (rto_md hr2).1
    have h5 : i < k := by omega
    rw [hj i h2 h5] at h4
    omega
  · exact q
set_option maxHeartbeats 4000000 in
theorem bd_Md {o : Nat} {S : Sx} (h : Bd o 893 (fun _ _ => False) (fun _ _ => False) S) : ∃ S1 S2, mk S 12 80 = some (o + 893, S1) ∧ fMd_init (o + 893) S1 = some S2 ∧ Bd o 950 (fun _ _ => False) (fun _ _ => False) S2 := by
  obtain ⟨S0, e0, b⟩ := bd_mk h (kd := 12) (len := 80) (by decide)
  have b0 : Bd o 894 (fun c k => c = 893 ∧ 0 ≤ k) (fun c k => c = 893) S0 := b.mono (by intro c k v _ _ x; rcases x with x | x; exact absurd x id; exact ⟨x, by omega⟩) (by intro c k _ _ x; rcases x with x | x; exact absurd x id; exact x)
  obtain ⟨T1, S1, d1, e1, b1⟩ := bd_md 0 b0 (k := 8) (akd := 100) (len := 16) (by decide) (by omega) (by decide) (by intro i h1 h2; first | omega | (rcases (show i = 0 ∨ i = 1 ∨ i = 2 ∨ i = 3 ∨ i = 4 ∨ i = 5 ∨ i = 6 ∨ i = 7 from by omega) with q | q | q | q | q | q | q | q <;> subst q <;> rfl))
  obtain ⟨T2, S2, d2, e2, b2⟩ := bd_md 9 b1 (k := 9) (akd := 100) (len := 32) (by decide) (by omega) (by decide) (by intro i h1 h2; first | omega | (rcases (show False from by omega) with q <;> subst q <;> rfl))
  obtain ⟨T3, S3, d3, e3, b3⟩ := bd_md 10 b2 (k := 10) (akd := 100) (len := 8) (by decide) (by omega) (by decide) (by intro i h1 h2; first | omega | (rcases (show False from by omega) with q <;> subst q <;> rfl))
  obtain ⟨T4, S4, d4, e4, b4⟩ := bd_md 11 b3 (k := 11) (akd := 100) (len := 8) (by decide) (by omega) (by decide) (by intro i h1 h2; first | omega | (rcases (show False from by omega) with q <;> subst q <;> rfl))
  obtain ⟨T5, S5, d5, e5, b5⟩ := bd_md 12 b4 (k := 12) (akd := 100) (len := 32) (by decide) (by omega) (by decide) (by intro i h1 h2; first | omega | (rcases (show False from by omega) with q <;> subst q <;> rfl))
  obtain ⟨T6, S6, d6, e6, b6⟩ := bd_md 13 b5 (k := 13) (akd := 100) (len := 32) (by decide) (by omega) (by decide) (by intro i h1 h2; first | omega | (rcases (show False from by omega) with q <;> subst q <;> rfl))
  obtain ⟨T7, S7, d7, e7, b7⟩ := bd_md 14 b6 (k := 14) (akd := 100) (len := 32) (by decide) (by omega) (by decide) (by intro i h1 h2; first | omega | (rcases (show False from by omega) with q <;> subst q <;> rfl))
  obtain ⟨T8, S8, d8, e8, b8⟩ := bd_md 15 b7 (k := 15) (akd := 100) (len := 8) (by decide) (by omega) (by decide) (by intro i h1 h2; first | omega | (rcases (show False from by omega) with q <;> subst q <;> rfl))
  obtain ⟨T9, S9, d9, e9, b9⟩ := bd_md 16 b8 (k := 16) (akd := 100) (len := 16) (by decide) (by omega) (by decide) (by intro i h1 h2; first | omega | (rcases (show False from by omega) with q <;> subst q <;> rfl))
  obtain ⟨T10, S10, d10, e10, b10⟩ := bd_md 17 b9 (k := 17) (akd := 100) (len := 64) (by decide) (by omega) (by decide) (by intro i h1 h2; first | omega | (rcases (show False from by omega) with q <;> subst q <;> rfl))
  obtain ⟨T11, S11, d11, e11, b11⟩ := bd_md 18 b10 (k := 18) (akd := 100) (len := 64) (by decide) (by omega) (by decide) (by intro i h1 h2; first | omega | (rcases (show False from by omega) with q <;> subst q <;> rfl))
  obtain ⟨T12, S12, d12, e12, b12⟩ := bd_md 19 b11 (k := 19) (akd := 100) (len := 64) (by decide) (by omega) (by decide) (by intro i h1 h2; first | omega | (rcases (show False from by omega) with q <;> subst q <;> rfl))
  obtain ⟨T13, S13, d13, e13, b13⟩ := bd_md 20 b12 (k := 20) (akd := 100) (len := 64) (by decide) (by omega) (by decide) (by intro i h1 h2; first | omega | (rcases (show False from by omega) with q <;> subst q <;> rfl))
  obtain ⟨T14, S14, d14, e14, b14⟩ := bd_md 21 b13 (k := 21) (akd := 100) (len := 8) (by decide) (by omega) (by decide) (by intro i h1 h2; first | omega | (rcases (show False from by omega) with q <;> subst q <;> rfl))
  obtain ⟨T15, S15, d15, e15, b15⟩ := bd_md 22 b14 (k := 22) (akd := 100) (len := 8) (by decide) (by omega) (by decide) (by intro i h1 h2; first | omega | (rcases (show False from by omega) with q <;> subst q <;> rfl))
  obtain ⟨T16, S16, d16, e16, b16⟩ := bd_md 23 b15 (k := 23) (akd := 100) (len := 8) (by decide) (by omega) (by decide) (by intro i h1 h2; first | omega | (rcases (show False from by omega) with q <;> subst q <;> rfl))
  obtain ⟨T17, S17, d17, e17, b17⟩ := bd_md 24 b16 (k := 24) (akd := 100) (len := 8) (by decide) (by omega) (by decide) (by intro i h1 h2; first | omega | (rcases (show False from by omega) with q <;> subst q <;> rfl))
  obtain ⟨T18, S18, d18, e18, b18⟩ := bd_md 25 b17 (k := 25) (akd := 100) (len := 8) (by decide) (by omega) (by decide) (by intro i h1 h2; first | omega | (rcases (show False from by omega) with q <;> subst q <;> rfl))
  obtain ⟨T19, S19, d19, e19, b19⟩ := bd_md 26 b18 (k := 26) (akd := 100) (len := 8) (by decide) (by omega) (by decide) (by intro i h1 h2; first | omega | (rcases (show False from by omega) with q <;> subst q <;> rfl))
  obtain ⟨T20, S20, d20, e20, b20⟩ := bd_md 27 b19 (k := 27) (akd := 100) (len := 16) (by decide) (by omega) (by decide) (by intro i h1 h2; first | omega | (rcases (show False from by omega) with q <;> subst q <;> rfl))
  obtain ⟨T21, S21, d21, e21, b21⟩ := bd_md 28 b20 (k := 28) (akd := 100) (len := 16) (by decide) (by omega) (by decide) (by intro i h1 h2; first | omega | (rcases (show False from by omega) with q <;> subst q <;> rfl))
  obtain ⟨T22, S22, d22, e22, b22⟩ := bd_md 29 b21 (k := 29) (akd := 100) (len := 16) (by decide) (by omega) (by decide) (by intro i h1 h2; first | omega | (rcases (show False from by omega) with q <;> subst q <;> rfl))
  obtain ⟨T23, S23, d23, e23, b23⟩ := bd_md 30 b22 (k := 30) (akd := 100) (len := 16) (by decide) (by omega) (by decide) (by intro i h1 h2; first | omega | (rcases (show False from by omega) with q <;> subst q <;> rfl))
  obtain ⟨T24, S24, d24, e24, b24⟩ := bd_md 31 b23 (k := 31) (akd := 100) (len := 16) (by decide) (by omega) (by decide) (by intro i h1 h2; first | omega | (rcases (show False from by omega) with q <;> subst q <;> rfl))
  obtain ⟨T25, S25, d25, e25, b25⟩ := bd_md 32 b24 (k := 32) (akd := 100) (len := 16) (by decide) (by omega) (by decide) (by intro i h1 h2; first | omega | (rcases (show False from by omega) with q <;> subst q <;> rfl))
  obtain ⟨S26, e26, b26⟩ := bd_pI b25 (c := 893) (k := 34) (kd := 12) (by omega) (by decide) (Or.inr (Or.inr ⟨rfl, rfl⟩))
  obtain ⟨T27, S27, d27, e27, b27⟩ := bd_md 33 b26 (k := 35) (akd := 100) (len := 8) (by decide) (by omega) (by decide) (by intro i h1 h2; first | omega | (rcases (show i = 33 ∨ i = 34 from by omega) with q | q <;> subst q <;> rfl))
  obtain ⟨T28, S28, d28, e28, b28⟩ := bd_md 36 b27 (k := 36) (akd := 100) (len := 160) (by decide) (by omega) (by decide) (by intro i h1 h2; first | omega | (rcases (show False from by omega) with q <;> subst q <;> rfl))
  obtain ⟨T29, S29, d29, e29, b29⟩ := bd_md 37 b28 (k := 37) (akd := 100) (len := 160) (by decide) (by omega) (by decide) (by intro i h1 h2; first | omega | (rcases (show False from by omega) with q <;> subst q <;> rfl))
  obtain ⟨T30, S30, d30, e30, b30⟩ := bd_md 38 b29 (k := 38) (akd := 100) (len := 160) (by decide) (by omega) (by decide) (by intro i h1 h2; first | omega | (rcases (show False from by omega) with q <;> subst q <;> rfl))
  obtain ⟨T31, S31, d31, e31, b31⟩ := bd_md 39 b30 (k := 39) (akd := 100) (len := 160) (by decide) (by omega) (by decide) (by intro i h1 h2; first | omega | (rcases (show False from by omega) with q <;> subst q <;> rfl))
  obtain ⟨T32, S32, d32, e32, b32⟩ := bd_md 40 b31 (k := 40) (akd := 100) (len := 160) (by decide) (by omega) (by decide) (by intro i h1 h2; first | omega | (rcases (show False from by omega) with q <;> subst q <;> rfl))
  obtain ⟨T33, S33, d33, e33, b33⟩ := bd_md 41 b32 (k := 41) (akd := 100) (len := 160) (by decide) (by omega) (by decide) (by intro i h1 h2; first | omega | (rcases (show False from by omega) with q <;> subst q <;> rfl))
  obtain ⟨T34, S34, d34, e34, b34⟩ := bd_md 42 b33 (k := 42) (akd := 100) (len := 160) (by decide) (by omega) (by decide) (by intro i h1 h2; first | omega | (rcases (show False from by omega) with q <;> subst q <;> rfl))
  obtain ⟨T35, S35, d35, e35, b35⟩ := bd_md 43 b34 (k := 43) (akd := 100) (len := 160) (by decide) (by omega) (by decide) (by intro i h1 h2; first | omega | (rcases (show False from by omega) with q <;> subst q <;> rfl))
  obtain ⟨T36, S36, d36, e36, b36⟩ := bd_md 44 b35 (k := 44) (akd := 100) (len := 64) (by decide) (by omega) (by decide) (by intro i h1 h2; first | omega | (rcases (show False from by omega) with q <;> subst q <;> rfl))
  obtain ⟨T37, S37, d37, e37, b37⟩ := bd_md 45 b36 (k := 45) (akd := 100) (len := 20) (by decide) (by omega) (by decide) (by intro i h1 h2; first | omega | (rcases (show False from by omega) with q <;> subst q <;> rfl))
  obtain ⟨T38, S38, d38, e38, b38⟩ := bd_md 46 b37 (k := 46) (akd := 100) (len := 60) (by decide) (by omega) (by decide) (by intro i h1 h2; first | omega | (rcases (show False from by omega) with q <;> subst q <;> rfl))
  obtain ⟨T39, S39, d39, e39, b39⟩ := bd_md 47 b38 (k := 57) (akd := 100) (len := 41) (by decide) (by omega) (by decide) (by intro i h1 h2; first | omega | (rcases (show i = 47 ∨ i = 48 ∨ i = 49 ∨ i = 50 ∨ i = 51 ∨ i = 52 ∨ i = 53 ∨ i = 54 ∨ i = 55 ∨ i = 56 from by omega) with q | q | q | q | q | q | q | q | q | q <;> subst q <;> rfl))
  obtain ⟨T40, S40, d40, e40, b40⟩ := bd_md 58 b39 (k := 58) (akd := 100) (len := 41) (by decide) (by omega) (by decide) (by intro i h1 h2; first | omega | (rcases (show False from by omega) with q <;> subst q <;> rfl))
  obtain ⟨T41, S41, d41, e41, b41⟩ := bd_md 59 b40 (k := 59) (akd := 100) (len := 2460) (by decide) (by omega) (by decide) (by intro i h1 h2; first | omega | (rcases (show False from by omega) with q <;> subst q <;> rfl))
  obtain ⟨T42, S42, d42, e42, b42⟩ := bd_md 60 b41 (k := 60) (akd := 100) (len := 41) (by decide) (by omega) (by decide) (by intro i h1 h2; first | omega | (rcases (show False from by omega) with q <;> subst q <;> rfl))
  obtain ⟨T43, S43, d43, e43, b43⟩ := bd_md 61 b42 (k := 61) (akd := 100) (len := 164) (by decide) (by omega) (by decide) (by intro i h1 h2; first | omega | (rcases (show False from by omega) with q <;> subst q <;> rfl))
  obtain ⟨T44, S44, d44, e44, b44⟩ := bd_md 62 b43 (k := 62) (akd := 100) (len := 41) (by decide) (by omega) (by decide) (by intro i h1 h2; first | omega | (rcases (show False from by omega) with q <;> subst q <;> rfl))
  obtain ⟨T45, S45, d45, e45, b45⟩ := bd_md 63 b44 (k := 63) (akd := 100) (len := 41) (by decide) (by omega) (by decide) (by intro i h1 h2; first | omega | (rcases (show False from by omega) with q <;> subst q <;> rfl))
  obtain ⟨T46, S46, d46, e46, b46⟩ := bd_md 64 b45 (k := 64) (akd := 100) (len := 41) (by decide) (by omega) (by decide) (by intro i h1 h2; first | omega | (rcases (show False from by omega) with q <;> subst q <;> rfl))
  obtain ⟨T47, S47, d47, e47, b47⟩ := bd_md 65 b46 (k := 65) (akd := 100) (len := 41) (by decide) (by omega) (by decide) (by intro i h1 h2; first | omega | (rcases (show False from by omega) with q <;> subst q <;> rfl))
  obtain ⟨T48, S48, d48, e48, b48⟩ := bd_md 66 b47 (k := 66) (akd := 100) (len := 128) (by decide) (by omega) (by decide) (by intro i h1 h2; first | omega | (rcases (show False from by omega) with q <;> subst q <;> rfl))
  obtain ⟨T49, S49, d49, e49, b49⟩ := bd_md 67 b48 (k := 67) (akd := 100) (len := 128) (by decide) (by omega) (by decide) (by intro i h1 h2; first | omega | (rcases (show False from by omega) with q <;> subst q <;> rfl))
  obtain ⟨T50, S50, d50, e50, b50⟩ := bd_md 68 b49 (k := 68) (akd := 100) (len := 128) (by decide) (by omega) (by decide) (by intro i h1 h2; first | omega | (rcases (show False from by omega) with q <;> subst q <;> rfl))
  obtain ⟨T51, S51, d51, e51, b51⟩ := bd_md 69 b50 (k := 69) (akd := 100) (len := 128) (by decide) (by omega) (by decide) (by intro i h1 h2; first | omega | (rcases (show False from by omega) with q <;> subst q <;> rfl))
  obtain ⟨T52, S52, d52, e52, b52⟩ := bd_md 70 b51 (k := 70) (akd := 100) (len := 7680) (by decide) (by omega) (by decide) (by intro i h1 h2; first | omega | (rcases (show False from by omega) with q <;> subst q <;> rfl))
  obtain ⟨T53, S53, d53, e53, b53⟩ := bd_md 71 b52 (k := 71) (akd := 100) (len := 128) (by decide) (by omega) (by decide) (by intro i h1 h2; first | omega | (rcases (show False from by omega) with q <;> subst q <;> rfl))
  obtain ⟨T54, S54, d54, e54, b54⟩ := bd_md 72 b53 (k := 72) (akd := 101) (len := 8) (by decide) (by omega) (by decide) (by intro i h1 h2; first | omega | (rcases (show False from by omega) with q <;> subst q <;> rfl))
  obtain ⟨T55, S55, d55, e55, b55⟩ := bd_md 73 b54 (k := 77) (akd := 100) (len := 16) (by decide) (by omega) (by decide) (by intro i h1 h2; first | omega | (rcases (show i = 73 ∨ i = 74 ∨ i = 75 ∨ i = 76 from by omega) with q | q | q | q <;> subst q <;> rfl))
  obtain ⟨T56, S56, d56, e56, b56⟩ := bd_md 78 b55 (k := 78) (akd := 100) (len := 16) (by decide) (by omega) (by decide) (by intro i h1 h2; first | omega | (rcases (show False from by omega) with q <;> subst q <;> rfl))
  obtain ⟨T57, S57, d57, e57, b57⟩ := bd_md 79 b56 (k := 79) (akd := 101) (len := 16) (by decide) (by omega) (by decide) (by intro i h1 h2; first | omega | (rcases (show False from by omega) with q <;> subst q <;> rfl))
  refine ⟨S0, S57, e0, ?_, b57.mono ?_ ?_⟩
  · unfold fMd_init
    rw [bd2_some d1, bind_ok e1, bd2_some d2, bind_ok e2, bd2_some d3, bind_ok e3, bd2_some d4, bind_ok e4, bd2_some d5, bind_ok e5, bd2_some d6, bind_ok e6, bd2_some d7, bind_ok e7, bd2_some d8, bind_ok e8, bd2_some d9, bind_ok e9, bd2_some d10, bind_ok e10, bd2_some d11, bind_ok e11, bd2_some d12, bind_ok e12, bd2_some d13, bind_ok e13, bd2_some d14, bind_ok e14, bd2_some d15, bind_ok e15, bd2_some d16, bind_ok e16, bd2_some d17, bind_ok e17, bd2_some d18, bind_ok e18, bd2_some d19, bind_ok e19, bd2_some d20, bind_ok e20, bd2_some d21, bind_ok e21, bd2_some d22, bind_ok e22, bd2_some d23, bind_ok e23, bd2_some d24, bind_ok e24, bd2_some d25, bind_ok e25, bind_ok e26, bd2_some d27, bind_ok e27, bd2_some d28, bind_ok e28, bd2_some d29, bind_ok e29, bd2_some d30, bind_ok e30, bd2_some d31, bind_ok e31, bd2_some d32, bind_ok e32, bd2_some d33, bind_ok e33, bd2_some d34, bind_ok e34, bd2_some d35, bind_ok e35, bd2_some d36, bind_ok e36, bd2_some d37, bind_ok e37, bd2_some d38, bind_ok e38, bd2_some d39, bind_ok e39, bd2_some d40, bind_ok e40, bd2_some d41, bind_ok e41, bd2_some d42, bind_ok e42, bd2_some d43, bind_ok e43, bd2_some d44, bind_ok e44, bd2_some d45, bind_ok e45, bd2_some d46, bind_ok e46, bd2_some d47, bind_ok e47, bd2_some d48, bind_ok e48, bd2_some d49, bind_ok e49, bd2_some d50, bind_ok e50, bd2_some d51, bind_ok e51, bd2_some d52, bind_ok e52, bd2_some d53, bind_ok e53, bd2_some d54, bind_ok e54, bd2_some d55, bind_ok e55, bd2_some d56, bind_ok e56, bd2_some d57, bind_ok e57]
  · intro c k v _ hr hp
    obtain ⟨h1, h2⟩ := hp
    subst h1
    have := (rto_md hr).2
    omega
  · intro c k _ hs hq
    obtain ⟨h1, h2⟩ := hq
    unfold isp at hs
    omega
/-- what the constructors lay -/
theorem ctor_all (o : Nat) : ∃ S2 S5 S7 S10 S12, mk (S_0 o) 0 7 = some (o, S2) ∧ fMp_init o S2 = some S5 ∧ mk S5 12 80 = some (o + 893, S7) ∧ fMd_init (o + 893) S7 = some S10 ∧ mk S10 102 1 = some (o + 950, S12) ∧ Bd o 951 (fun _ _ => False) (fun _ _ => False) S12 := by
  have b0 : Bd o 0 (fun _ _ => False) (fun _ _ => False) (S_0 o) := ⟨rfl, fun c h => absurd h (by omega), fun c k v h => absurd h (by omega), fun c k h => absurd h (by omega), fun c k h => absurd h (by omega)⟩
  obtain ⟨S2, S5, e1, e2, b1⟩ := bd_Mp b0
  obtain ⟨S7, S10, e3, e4, b2⟩ := bd_Md b1
  obtain ⟨S12, e5, b3⟩ := bd_obj b2 (kd := 102) (len := 1) (by decide) (isp_no (by omega))
  exact ⟨S2, S5, S7, S10, S12, e1, e2, e3, e4, e5, b3.mono (by intro c k v _ hr x; rcases x with x | x; exact x; subst x; rw [rto_mdn (by omega)] at hr; cases hr) (fun _ _ _ _ x => x)⟩

