/-! THE CALLS: lay -/
theorem Rc_tr {v : Nat → Nat → Int32} {ns s s' b : Nat} (hs : s' < ns) (h : Ed v s s') (h2 : Rc v ns s' b) : Rc v ns s b :=
  h2 (fun b => Rc v ns s b) (fun b hb x => Rc_2 hs hb (Rc_1 hs h) x) (fun c b hc hb x y => Rc_2 hc hb x y)
noncomputable def rkF (v : Nat → Nat → Int32) (ns s : Nat) : Nat := if s < ns then cnB (bdec (Rc v ns s)) ns else 0
theorem cnB_t : ∀ n, cnB (fun _ => true) n ≤ n := fun n => cnB_le n
theorem wy_lt {x : Int32} {ns : Nat} (hn : ns ≤ 8) (h : wyO x) (h2 : x < nI ns) : x = -2 ∨ x = -1 ∨ vF ns x := by
  rcases h with h | h | ⟨f, f1, f2⟩
  · exact Or.inl h
  · exact Or.inr (Or.inl h)
  · rw [f2] at h2
    exact Or.inr (Or.inr ⟨f, (nI_ltI (by omega) (by omega)).mp h2, f2⟩)
theorem WY_lay {v : Nat → Nat → Int32} {nf ns na nt np : Nat} (hp : PR v nf ns na nt np) (h1 : A1 v ns = none) (h2 : A2 v ns = none) : WY v ns (rkF v ns) := by
  have b2 := hp.1.2.1
  have n0 : ¬ ns = 0 := by
    intro c
    unfold A1 P1 at h1
    rw [if_pos c] at h1
    cases h1
  have nb : ∀ s, s < ns → ¬ bd1 v ns s := by
    unfold A1 P1 at h1
    rw [if_neg n0] at h1
    exact fun s hs => fs0_none ns 0 h1 s (by omega) (by omega)
  have nr : ∀ s, s < ns → ¬ Rc v ns s s := fun s hs => fs0_none ns 0 h2 s (by omega) (by omega)
  have lt : ∀ s s', s < ns → s' < ns → Ed v s s' → rkF v ns s' < rkF v ns s := by
    intro s s' hs hs' hE
    unfold rkF
    rw [if_pos hs, if_pos hs']
    exact cnB_lt (b := s') ns (fun k _ w => bdec_t.mpr (Rc_tr hs' hE (bdec_t.mp w))) hs' (bdec_f (nr s' hs')) (bdec_t.mpr (Rc_1 hs' hE))
  refine ⟨by omega, fun s hs => ?_, fun s hs k hk => ?_, fun s => ?_, fun s hs ht s' hs' hw => lt s s' hs hs' ⟨ht, Or.inl hw⟩, fun s hs ht hc k hk s' hs' hw => lt s s' hs hs' ⟨ht, Or.inr ⟨hc, k, hk, hw⟩⟩⟩
  · obtain ⟨_, _, _, _, d2⟩ := hp.2.2.2.2.2.2.2.1 s hs
    exact wy_lt b2 d2 (Classical.byContradiction fun x => nb s hs (Or.inl x))
  · obtain ⟨_, _, ⟨c, c1, c2, c3, c4⟩, _⟩ := hp.2.2.2.2.2.2.2.1 s hs
    have hk' : k < c := by rw [c3, cl_n (by omega)] at hk; exact hk
    exact wy_lt b2 (c4 k hk').2.2.2 (Classical.byContradiction fun x => nb s hs (Or.inr ⟨k, hk, x⟩))
  · unfold rkF
    by_cases hs : s < ns
    · rw [if_pos hs]
      have x1 := cnB_lt (f := bdec (Rc v ns s)) (g := fun _ => true) (b := s) ns (fun _ _ _ => rfl) hs (bdec_f (nr s hs)) rfl
      have x2 := cnB_t ns
      omega
    · rw [if_neg hs]; omega
theorem tg_u {v : Nat → Nat → Int32} {na t p : Nat} : ∀ i, (∀ k, k < i → ¬ bd4 v k) → p < i → t < 1000 → v 913 p = nI t → tg v na i t = sg v na p := by
  intro i
  induction i with
  | zero => intro _ h; omega
  | succ i ih =>
    intro hb hp ht h
    by_cases d : p = i
    · subst d; exact tg_y h
    · have ne : ¬ v 913 i = nI t := fun w => hb i (by omega) ⟨by rw [w]; exact nN1 (by omega), p, by omega, by rw [w, h]⟩
      rw [tg_n ne]
      exact ih (fun k hk => hb k (by omega)) (by omega) ht h
noncomputable def saF (v : Nat → Nat → Int32) (na nt np r : Nat) : Nat := match fs0 (fun p => uS v nt p r) np 0 with | none => 0 | some p => sg v na p
theorem uS_cg {v v' : Nat → Nat → Int32} {nt p r : Nat} (ep : ∀ c k, pc c k → v' c k = v c k) (hu : uS v' nt p r) : uS v nt p r := by
  obtain ⟨t, t1, t2, a, a1, a2, k, k1, k2⟩ := hu
  rw [ep 913 _ (by unfold pc; omega)] at t2
  rw [ep 911 _ (by unfold pc; omega)] at a2
  rw [ep 902 _ (by unfold pc; omega)] at k1
  rw [ep 903 _ (by unfold pc; omega), ep 904 _ (by unfold pc; omega), ep 906 _ (by unfold pc; omega)] at k2
  exact ⟨t, t1, t2, a, a1, a2, k, k1, k2⟩
theorem to_of {x : Int32} {p np : Nat} (hp : p < 1000) (hn : np < 1000) (h1 : ¬ x ≤ nI p) (h2 : x ≤ nI np) : ∃ q, p < q ∧ q ≤ np ∧ x = nI q := by
  rcases pk_ix x (show np + 1 < 2 ^ 31 by omega) with c | c | ⟨j, j1, j2⟩
  · refine absurd ?_ h1
    rw [Int32.le_iff_toInt_le, nI_toInt (by omega)]
    rw [Int32.lt_iff_toInt_lt] at c
    have : (0 : Int32).toInt = 0 := by decide
    omega
  · rw [Int32.le_iff_toInt_le, nI_toInt (by omega)] at c h2
    omega
  · refine ⟨j, ?_, by omega, j2⟩
    rw [j2] at h1
    exact Classical.byContradiction fun w => h1 (nI_le (by omega) (by omega))
theorem LRv_lay {o : Nat} {S S' : Sx} {v : Nat → Nat → Int32} {nf ns na nt np : Nat} {fs : Nat → Nat} (hp : PR v nf ns na nt np) (ep : ∀ c k, pc c k → V o S' c k = v c k) (el : ∀ c k, 320 ≤ c → c < 324 → ¬ (c = 320 ∧ ¬ k = 4) → V o S' c k = V o S c k) (h3 : A3 v np = none) (h4 : A4 v np = none) (h5 : A5 v nt np = none) (hC : CF o S v na np fs) : LRv (V o S') nt np ((sgS v na np).1 + 1) fs (fun t => tg v na np t) (saF v na nt np) := by
  have b4 := hp.1.2.2.2.1
  have b5 := hp.1.2.2.2.2
  obtain ⟨⟨c1, c2, c3⟩, C2, C3, C4, C5, C6⟩ := hC
  have e13 : ∀ p, V o S' 913 p = v 913 p := fun p => ep _ _ (by unfold pc; omega)
  refine ⟨⟨by omega, by omega⟩, ⟨c1, c2⟩, fun s hs => C2 s (by omega), fun s hs => ?_, ?_, fun t ht => ⟨?_, ?_⟩, fun p hp' t h ht => ?_, fun r hr => ?_, fun p hp' r hr hu => ?_, fun p hp' h => ?_⟩
  · rw [el _ _ (by omega) (by omega) (by omega)]; exact C3 s hs
  · rw [el _ _ (by omega) (by omega) (by omega)]; exact C4
  · have := tg_le (v := v) (na := na) (t := t) np
    show tg v na np t < (sgS v na np).1 + 1
    omega
  · rw [el _ _ (by omega) (by omega) (by omega)]; exact C6 t (by omega)
  · rw [e13] at h
    have e := tg_u (na := na) np (fun k hk => fs0_none np 0 h4 k (by omega) (by omega)) hp' (by omega) h
    show fs (tg v na np t) ≤ p ∧ p < fs (tg v na np t + 1)
    rw [e]
    exact (C5 p hp').2.2
  · unfold saF
    split
    · omega
    · rename_i q hq
      have := (C5 q (fs0_lt hq)).2.1
      omega
  · have hu' := uS_cg ep hu
    have nb := fs0_none 4 0 h5 r (by omega) (by omega)
    unfold saF
    split
    · rename_i hq
      exact absurd hu' (fs0_none np 0 hq p (by omega) (by omega))
    · rename_i q hq
      obtain ⟨_, q2, q3⟩ := fs0_some np 0 q hq
      have : q = p := by
        refine Classical.byContradiction fun w => nb ?_
        rcases Nat.lt_or_gt_of_ne w with x | x
        · exact ⟨q, p, x, hp', q3, hu'⟩
        · exact ⟨p, q, x, by omega, hu', q3⟩
      subst this
      exact (C5 q hp').2.2
  · rw [e13] at h
    rw [ep 917 _ (by unfold pc; omega)]
    have nb := fs0_none np 0 h3 p (by omega) (by omega)
    exact to_of (by omega) (by omega) (fun x => nb ⟨h, Or.inl x⟩) (Classical.byContradiction fun x => nb ⟨h, Or.inr x⟩)
/-- nothing under way -/
theorem I2_0 {o : Nat} {S : Sx} {nf ns na nt np L : Nat} {fs ta sa rk : Nat → Nat} (hL : Ly o S) (hp : PR (V o S) nf ns na nt np) (hW : WY (V o S) ns rk) (hR : LRv (V o S) nt np L fs ta sa) (hI : IDL (V o S) nt) (h6 : V o S 893 6 = nI L) : I2 o S S nf ns na nt np L fs ta sa rk 0 0 0 0 := by
  have b4 := hp.1.2.2.2.1
  obtain ⟨⟨i1, i2, i3, i4⟩, ⟨j1, j2, j3, j4, j5⟩, k1, k2, k3⟩ := hI
  have hL12 := hR.1.2
  refine ⟨hL, hL, hp, fun _ _ _ => rfl, hW, hR, ⟨i1, i2, i3, i4⟩, ⟨j1, j2, j3, j4, j5, h6⟩, fun _ => 0, fun _ _ => (0, fun _ _ => 0), fun _ _ => 0, ⟨Nat.le_refl _, Nat.le_refl _, by omega, rfl, rfl⟩, fun s hs => Or.inl ⟨k1 s (by omega), rfl⟩, fun n hn => by omega, fun j hj => by omega, fun s hs h => absurd h (by show ¬ 0 = 0 + 1; omega), fun t ht => ⟨?_, ?_, fun n _ _ => ⟨?_, ?_⟩⟩, fun j hj => ⟨(k2 j hj).1, (k2 j hj).2⟩⟩
  · obtain ⟨q, hq⟩ := hL.2.2.2 t (by omega)
    exact ⟨Nat.zero_le _, q, hq, (k3 t ht).1, fun i hi => absurd hi (Nat.not_lt_zero i)⟩
  · exact ⟨Nat.zero_le _, (k3 t ht).2, fun i hi => absurd hi (Nat.not_lt_zero i)⟩
  · exact ⟨Nat.zero_le _, fun i hi => absurd hi (Nat.not_lt_zero i)⟩
  · exact fun i j hi => absurd hi (Nat.not_lt_zero i)
theorem ch5c {a1 a2 a3 a4 a5 : Option Nat} : wf (wf (wf (wf (wf (0, -1) 1 a1) 2 a2) 3 a3) 4 a4) 5 a5 = (0, -1) ∨ ¬ (wf (wf (wf (wf (wf (0, -1) 1 a1) 2 a2) 3 a3) 4 a4) 5 a5).1 ≤ 0 := by
  have st : ∀ (w : Int32 × Int32) (k : Int32) (x : Option Nat), ¬ k ≤ 0 → (w = (0, -1) ∨ ¬ w.1 ≤ 0) → (wf w k x = (0, -1) ∨ ¬ (wf w k x).1 ≤ 0) := by
    intro w k x hk h
    cases x with
    | none => rw [wf_n]; exact h
    | some p =>
      rcases h with h | h
      · rw [wf_s (by rw [h]; decide)]; exact Or.inr hk
      · rw [wf_p h]; exact Or.inr h
  exact st _ _ _ (by decide) (st _ _ _ (by decide) (st _ _ _ (by decide) (st _ _ _ (by decide) (st _ _ _ (by decide) (Or.inl rfl)))))
/-- the reference lays -/
theorem layM {o nf ns na nt np : Nat} {v : Nat → Nat → Int32} {S : Sx} (hL : Ly o S) (hp : PR v nf ns na nt np) (e : pE o S v) (h7 : sI S (o + 893) 7 = 0) : ∃ S1 b, fMd_lay (o + 893) S = some (b, S1) ∧ Ly o S1 ∧ sR S1 = sR S ∧ sJ S1 = sJ S ∧ (∀ c q, ¬ (c = 893 ∧ (q = 0 ∨ q = 6 ∨ q = 7 ∨ q = 33 ∨ q = 34)) → c ≠ 918 → c ≠ 946 → V o S1 c q = V o S c q) ∧ V o S1 893 33 = (chv v ns na nt np).1 ∧ V o S1 893 34 = (chv v ns na nt np).2 ∧
    ((¬ (chv v ns na nt np).1 ≤ 0 ∧ V o S1 893 0 = 2 ∧ V o S1 893 7 = 0) ∨ ((chv v ns na nt np).1 ≤ 0 ∧ V o S1 893 0 = 0 ∧ V o S1 893 7 = 1 ∧ V o S1 893 6 = nI ((sgS v na np).1 + 1) ∧ b = nI ((sgS v na np).1 + 1) ∧ ∀ q, q < np → V o S1 918 q = nI (sg v na q))) := by
  have E0 := Ef_wI (c := 893) (k := 34) (x := -1) (Ef_wI (c := 893) (k := 33) (x := 0) (Ef_wI (c := 893) (k := 0) (x := 0) (Ef_id hL)))
  have G : fMd_lay (o + 893) S = (fMd_check (o + 893) (wI (wI (wI S (o + 893) 0 0) (o + 893) 33 0) (o + 893) 34 (-1))).bind (fun S11 => (gI S11 12 33 (o + 893)).bind fun v12 => if v12 = 0 then ((ckd S11 (o + 893) 12).bind fun _ => (fMd_toStages (o + 893) S11).bind fun S16 => fMd_lay_50 (o + 893) S16) else (fMd_lay_50 (o + 893) S11)) := by
    unfold fMd_lay fMd_lay_13
    simp (disch := first | with_reducible assumption | omega | (repeat (first | with_reducible assumption | with_reducible apply Ly_wI | with_reducible apply Ly_nx | with_reducible apply Ly_wJ | with_reducible apply Ly_fl))) only [h7, ↓reduceIte, rd_s, rd_n, rd_nx, rd_wJ, t00, t10, t20, t30, ↓gI_Mp, ↓pI_Mp, ↓ck_Mp, ↓gI_Pr, ↓pI_Pr, ↓ck_Pr, ↓gI_La, ↓pI_La, ↓pZ_La, ↓ck_La, ↓gI_Li, ↓pI_Li, ↓ck_Li, ↓gI_Ky, ↓pI_Ky, ↓ck_Ky, ↓gI_Rd, ↓pI_Rd, ↓ck_Rd, ↓gI_Tp, ↓pI_Tp, ↓ck_Tp, ↓gI_St, ↓pI_St, ↓ck_St, ↓gI_Ac, ↓pI_Ac, ↓ck_Ac, ↓gI_Ta, ↓pI_Ta, ↓ck_Ta, ↓gI_Sp, ↓pI_Sp, ↓ck_Sp, ↓gI_Op, ↓pI_Op, ↓ck_Op, ↓gI_Oe, ↓pI_Oe, ↓ck_Oe, ↓gI_Ob, ↓pI_Ob, ↓ck_Ob, ↓gI_He, ↓pI_He, ↓pZ_He, ↓ck_He, ↓gI_En, ↓pI_En, ↓ck_En, ↓gI_Md, ↓pI_Md, ↓pZ_Md, ↓ck_Md, ↓gX_Mp0, ↓gX_Mp1, ↓gX_Mp2, ↓gX_Mp3, ↓gX_Mp4, ↓gX_Mp5, ↓gX_Pr0, ↓gX_Pr1, ↓gX_Pr2, ↓gX_Pr3, ↓gX_Pr4, ↓gX_La0, ↓gX_La1, ↓gX_La2, ↓gX_Li0, ↓gX_Li1, ↓gX_Li2, ↓gX_Li3, ↓gX_Li4, ↓gX_Li5, ↓gX_Rd0, ↓gX_Tp0, ↓gX_St0, ↓gX_St1, ↓gX_St2, ↓gX_St3, ↓gX_Ac0, ↓gX_Ac1, ↓gX_Ac2, ↓gX_Ac3, ↓gX_Ta0, ↓gX_Op0, ↓gX_Op1, ↓gX_Ob0, ↓gX_He0, ↓gX_He1, ↓gX_Md8, ↓gX_Md9, ↓gX_Md10, ↓gX_Md11, ↓gX_Md12, ↓gX_Md13, ↓gX_Md14, ↓gX_Md15, ↓gX_Md16, ↓gX_Md17, ↓gX_Md18, ↓gX_Md19, ↓gX_Md20, ↓gX_Md21, ↓gX_Md22, ↓gX_Md23, ↓gX_Md24, ↓gX_Md25, ↓gX_Md26, ↓gX_Md27, ↓gX_Md28, ↓gX_Md29, ↓gX_Md30, ↓gX_Md31, ↓gX_Md32, ↓gX_Md35, ↓gX_Md36, ↓gX_Md37, ↓gX_Md38, ↓gX_Md39, ↓gX_Md40, ↓gX_Md41, ↓gX_Md42, ↓gX_Md43, ↓gX_Md44, ↓gX_Md45, ↓gX_Md46, ↓gX_Md57, ↓gX_Md58, ↓gX_Md59, ↓gX_Md60, ↓gX_Md61, ↓gX_Md62, ↓gX_Md63, ↓gX_Md64, ↓gX_Md65, ↓gX_Md66, ↓gX_Md67, ↓gX_Md68, ↓gX_Md69, ↓gX_Md70, ↓gX_Md71, ↓gX_Md72, ↓gX_Md77, ↓gX_Md78, ↓gX_Md79, ↓aI_w, ↓qI_w, ↓aI_s0, ↓qI_s0, ↓aI_s1, ↓qI_s1, ↓aI_s2, ↓qI_s2, ↓aI_s3, ↓qI_s3, ↓aI_a0, ↓qI_a0, ↓aI_a1, ↓qI_a1, ↓aI_a2, ↓qI_a2, ↓aI_a3, ↓qI_a3, ↓aI_l0, ↓qI_l0, ↓aI_l1, ↓qI_l1, ↓aI_l2, ↓qI_l2, ↓aI_is, ↓qI_is, ↓aI_ar, ↓qI_ar, ↓aI_ob, ↓qI_ob, ↓aI_hw, ↓qI_hw, ↓aI_ho, ↓qI_ho, ↓aI_rd, ↓qI_rd, ↓aI_tp, ↓qI_tp, ↓aI_m1, ↓qI_m1, ↓aI_m2, ↓qI_m2, ↓aI_m3, ↓qI_m3, ↓aI_m4, ↓qI_m4, ↓aI_m5, ↓qI_m5, ↓aI_m6, ↓qI_m6, ↓aI_m7, ↓qI_m7, ↓aI_m8, ↓qI_m8, ↓aI_m9, ↓qI_m9, ↓aI_m10, ↓qI_m10, ↓aI_m11, ↓qI_m11, ↓aI_m12, ↓qI_m12, ↓aI_m13, ↓qI_m13, ↓aI_m14, ↓qI_m14, ↓aI_m15, ↓qI_m15, ↓aI_m16, ↓qI_m16, ↓aI_m17, ↓qI_m17, ↓aI_m18, ↓qI_m18, ↓aI_m19, ↓qI_m19, ↓aI_m20, ↓qI_m20, ↓aI_m21, ↓qI_m21, ↓aI_m22, ↓qI_m22, ↓aI_m23, ↓qI_m23, ↓aI_m24, ↓qI_m24, ↓aI_m25, ↓qI_m25, ↓aI_m26, ↓qI_m26, ↓aI_m27, ↓qI_m27, ↓aI_m28, ↓qI_m28, ↓aI_m29, ↓qI_m29, ↓aI_m30, ↓qI_m30, ↓aI_m31, ↓qI_m31, ↓aI_m32, ↓qI_m32, ↓aI_m33, ↓qI_m33, ↓aI_m34, ↓qI_m34, ↓aI_m35, ↓qI_m35, ↓aI_m36, ↓qI_m36, ↓aI_m37, ↓qI_m37, ↓aI_m38, ↓qI_m38, ↓aI_m39, ↓qI_m39, ↓aI_m40, ↓qI_m40, ↓aI_m41, ↓qI_m41, ↓aI_m42, ↓qI_m42, ↓aI_m43, ↓qI_m43, ↓aI_m44, ↓qI_m44, ↓aI_m45, ↓qI_m45, ↓aI_m46, ↓qI_m46, ↓aI_m47, ↓qI_m47, ↓aI_m48, ↓qI_m48, ↓aI_m49, ↓qI_m49, ↓aI_m50, ↓qI_m50, ↓aI_m51, ↓qI_m51, ↓aI_m52, ↓qI_m52, ↓aI_m54, ↓qI_m54, ↓aI_m55, ↓qI_m55, ↓aZ_m53, ↓qZ_m53, ↓aZ_m56, ↓qZ_m56, ↓aX_3, ↓aX_4, ↓aX_5, ↓aX_6, ↓aX_324, ↓aX_325, ↓ai_0, ↓ai_1, ↓ai_2, ↓ai_3, ↓qi_0, ↓qi_1, ↓qi_2, ↓qi_3, ↓qi_4, ↓ly_qJ, ↓bd2_mk, ↓bdT_0, ↓bdC_0]
  generalize hS0 : wI (wI (wI S (o + 893) 0 0) (o + 893) 33 0) (o + 893) 34 (-1) = S0 at E0 G
  have v0 : ∀ c q, V o S0 c q = u2 (u2 (u2 (V o S) 893 0 0) 893 33 0) 893 34 (-1) c q := fun c q => congrFun (congrFun E0.2.2.2 c) q
  have L0 := E0.1
  have e0 : pE o S0 v := by
    intro c q hc
    have x := v0 c q
    rw [u2_n (by unfold pc at hc; omega), u2_n (by unfold pc at hc; omega), u2_n (by unfold pc at hc; omega)] at x
    exact (show sI S0 (o + c) q = sI S (o + c) q from x).trans (e c q hc)
  obtain ⟨S1, r1, r2⟩ := check_ hp e0 ⟨L0, rfl, rfl, fun _ _ _ _ => rfl, by rw [v0, u2_n (by omega), u2_s], by rw [v0, u2_s]⟩
  have L1 := r2.1
  have e1 := MW_pE e0 r2
  have q33 : sI S1 (o + 893) 33 = (wf (wf (wf (wf (wf (0, -1) 1 (A1 v ns)) 2 (A2 v ns)) 3 (A3 v np)) 4 (A4 v np)) 5 (A5 v nt np)).1 := r2.2.2.2.2.1
  have fr1 : ∀ c q, ¬ (c = 893 ∧ (q = 0 ∨ q = 33 ∨ q = 34)) → c ≠ 946 → V o S1 c q = V o S c q := fun c q w1 w2 => by rw [r2.2.2.2.1 c q (by omega) w2, v0, u2_n (by omega), u2_n (by omega), u2_n (by omega)]
  have bad : ∀ S2, Ly o S2 → ¬ sI S2 (o + 893) 33 ≤ 0 → fMd_lay_50 (o + 893) S2 = some (0, wI S2 (o + 893) 0 2) := by
    intro S2 L2 h
    unfold fMd_lay_50 fMd_lay_63
    simp (disch := first | with_reducible assumption | omega | (repeat (first | with_reducible assumption | with_reducible apply Ly_wI | with_reducible apply Ly_nx | with_reducible apply Ly_wJ | with_reducible apply Ly_fl))) only [h, ↓reduceIte, rd_s, rd_n, rd_nx, rd_wJ, t00, t10, t20, t30, ↓gI_Mp, ↓pI_Mp, ↓ck_Mp, ↓gI_Pr, ↓pI_Pr, ↓ck_Pr, ↓gI_La, ↓pI_La, ↓pZ_La, ↓ck_La, ↓gI_Li, ↓pI_Li, ↓ck_Li, ↓gI_Ky, ↓pI_Ky, ↓ck_Ky, ↓gI_Rd, ↓pI_Rd, ↓ck_Rd, ↓gI_Tp, ↓pI_Tp, ↓ck_Tp, ↓gI_St, ↓pI_St, ↓ck_St, ↓gI_Ac, ↓pI_Ac, ↓ck_Ac, ↓gI_Ta, ↓pI_Ta, ↓ck_Ta, ↓gI_Sp, ↓pI_Sp, ↓ck_Sp, ↓gI_Op, ↓pI_Op, ↓ck_Op, ↓gI_Oe, ↓pI_Oe, ↓ck_Oe, ↓gI_Ob, ↓pI_Ob, ↓ck_Ob, ↓gI_He, ↓pI_He, ↓pZ_He, ↓ck_He, ↓gI_En, ↓pI_En, ↓ck_En, ↓gI_Md, ↓pI_Md, ↓pZ_Md, ↓ck_Md, ↓gX_Mp0, ↓gX_Mp1, ↓gX_Mp2, ↓gX_Mp3, ↓gX_Mp4, ↓gX_Mp5, ↓gX_Pr0, ↓gX_Pr1, ↓gX_Pr2, ↓gX_Pr3, ↓gX_Pr4, ↓gX_La0, ↓gX_La1, ↓gX_La2, ↓gX_Li0, ↓gX_Li1, ↓gX_Li2, ↓gX_Li3, ↓gX_Li4, ↓gX_Li5, ↓gX_Rd0, ↓gX_Tp0, ↓gX_St0, ↓gX_St1, ↓gX_St2, ↓gX_St3, ↓gX_Ac0, ↓gX_Ac1, ↓gX_Ac2, ↓gX_Ac3, ↓gX_Ta0, ↓gX_Op0, ↓gX_Op1, ↓gX_Ob0, ↓gX_He0, ↓gX_He1, ↓gX_Md8, ↓gX_Md9, ↓gX_Md10, ↓gX_Md11, ↓gX_Md12, ↓gX_Md13, ↓gX_Md14, ↓gX_Md15, ↓gX_Md16, ↓gX_Md17, ↓gX_Md18, ↓gX_Md19, ↓gX_Md20, ↓gX_Md21, ↓gX_Md22, ↓gX_Md23, ↓gX_Md24, ↓gX_Md25, ↓gX_Md26, ↓gX_Md27, ↓gX_Md28, ↓gX_Md29, ↓gX_Md30, ↓gX_Md31, ↓gX_Md32, ↓gX_Md35, ↓gX_Md36, ↓gX_Md37, ↓gX_Md38, ↓gX_Md39, ↓gX_Md40, ↓gX_Md41, ↓gX_Md42, ↓gX_Md43, ↓gX_Md44, ↓gX_Md45, ↓gX_Md46, ↓gX_Md57, ↓gX_Md58, ↓gX_Md59, ↓gX_Md60, ↓gX_Md61, ↓gX_Md62, ↓gX_Md63, ↓gX_Md64, ↓gX_Md65, ↓gX_Md66, ↓gX_Md67, ↓gX_Md68, ↓gX_Md69, ↓gX_Md70, ↓gX_Md71, ↓gX_Md72, ↓gX_Md77, ↓gX_Md78, ↓gX_Md79, ↓aI_w, ↓qI_w, ↓aI_s0, ↓qI_s0, ↓aI_s1, ↓qI_s1, ↓aI_s2, ↓qI_s2, ↓aI_s3, ↓qI_s3, ↓aI_a0, ↓qI_a0, ↓aI_a1, ↓qI_a1, ↓aI_a2, ↓qI_a2, ↓aI_a3, ↓qI_a3, ↓aI_l0, ↓qI_l0, ↓aI_l1, ↓qI_l1, ↓aI_l2, ↓qI_l2, ↓aI_is, ↓qI_is, ↓aI_ar, ↓qI_ar, ↓aI_ob, ↓qI_ob, ↓aI_hw, ↓qI_hw, ↓aI_ho, ↓qI_ho, ↓aI_rd, ↓qI_rd, ↓aI_tp, ↓qI_tp, ↓aI_m1, ↓qI_m1, ↓aI_m2, ↓qI_m2, ↓aI_m3, ↓qI_m3, ↓aI_m4, ↓qI_m4, ↓aI_m5, ↓qI_m5, ↓aI_m6, ↓qI_m6, ↓aI_m7, ↓qI_m7, ↓aI_m8, ↓qI_m8, ↓aI_m9, ↓qI_m9, ↓aI_m10, ↓qI_m10, ↓aI_m11, ↓qI_m11, ↓aI_m12, ↓qI_m12, ↓aI_m13, ↓qI_m13, ↓aI_m14, ↓qI_m14, ↓aI_m15, ↓qI_m15, ↓aI_m16, ↓qI_m16, ↓aI_m17, ↓qI_m17, ↓aI_m18, ↓qI_m18, ↓aI_m19, ↓qI_m19, ↓aI_m20, ↓qI_m20, ↓aI_m21, ↓qI_m21, ↓aI_m22, ↓qI_m22, ↓aI_m23, ↓qI_m23, ↓aI_m24, ↓qI_m24, ↓aI_m25, ↓qI_m25, ↓aI_m26, ↓qI_m26, ↓aI_m27, ↓qI_m27, ↓aI_m28, ↓qI_m28, ↓aI_m29, ↓qI_m29, ↓aI_m30, ↓qI_m30, ↓aI_m31, ↓qI_m31, ↓aI_m32, ↓qI_m32, ↓aI_m33, ↓qI_m33, ↓aI_m34, ↓qI_m34, ↓aI_m35, ↓qI_m35, ↓aI_m36, ↓qI_m36, ↓aI_m37, ↓qI_m37, ↓aI_m38, ↓qI_m38, ↓aI_m39, ↓qI_m39, ↓aI_m40, ↓qI_m40, ↓aI_m41, ↓qI_m41, ↓aI_m42, ↓qI_m42, ↓aI_m43, ↓qI_m43, ↓aI_m44, ↓qI_m44, ↓aI_m45, ↓qI_m45, ↓aI_m46, ↓qI_m46, ↓aI_m47, ↓qI_m47, ↓aI_m48, ↓qI_m48, ↓aI_m49, ↓qI_m49, ↓aI_m50, ↓qI_m50, ↓aI_m51, ↓qI_m51, ↓aI_m52, ↓qI_m52, ↓aI_m54, ↓qI_m54, ↓aI_m55, ↓qI_m55, ↓aZ_m53, ↓qZ_m53, ↓aZ_m56, ↓qZ_m56, ↓aX_3, ↓aX_4, ↓aX_5, ↓aX_6, ↓aX_324, ↓aX_325, ↓ai_0, ↓ai_1, ↓ai_2, ↓ai_3, ↓qi_0, ↓qi_1, ↓qi_2, ↓qi_3, ↓qi_4, ↓ly_qJ, ↓bd2_mk, ↓bdT_0, ↓bdC_0]
  have good : ∀ S2, Ly o S2 → sI S2 (o + 893) 33 ≤ 0 → fMd_lay_50 (o + 893) S2 = some (sI S2 (o + 893) 6, wI (wI S2 (o + 893) 0 0) (o + 893) 7 1) := by
    intro S2 L2 h
    have z1 : (1 : Int32) = 0 ∨ (1 : Int32) = 1 := Or.inr rfl
    unfold fMd_lay_50 fMd_lay_63
    simp (disch := first | with_reducible assumption | omega | (repeat (first | with_reducible assumption | with_reducible apply Ly_wI | with_reducible apply Ly_nx | with_reducible apply Ly_wJ | with_reducible apply Ly_fl))) only [h, ↓reduceIte, rd_s, rd_n, rd_nx, rd_wJ, t00, t10, t20, t30, ↓gI_Mp, ↓pI_Mp, ↓ck_Mp, ↓gI_Pr, ↓pI_Pr, ↓ck_Pr, ↓gI_La, ↓pI_La, ↓pZ_La, ↓ck_La, ↓gI_Li, ↓pI_Li, ↓ck_Li, ↓gI_Ky, ↓pI_Ky, ↓ck_Ky, ↓gI_Rd, ↓pI_Rd, ↓ck_Rd, ↓gI_Tp, ↓pI_Tp, ↓ck_Tp, ↓gI_St, ↓pI_St, ↓ck_St, ↓gI_Ac, ↓pI_Ac, ↓ck_Ac, ↓gI_Ta, ↓pI_Ta, ↓ck_Ta, ↓gI_Sp, ↓pI_Sp, ↓ck_Sp, ↓gI_Op, ↓pI_Op, ↓ck_Op, ↓gI_Oe, ↓pI_Oe, ↓ck_Oe, ↓gI_Ob, ↓pI_Ob, ↓ck_Ob, ↓gI_He, ↓pI_He, ↓pZ_He, ↓ck_He, ↓gI_En, ↓pI_En, ↓ck_En, ↓gI_Md, ↓pI_Md, ↓pZ_Md, ↓ck_Md, ↓gX_Mp0, ↓gX_Mp1, ↓gX_Mp2, ↓gX_Mp3, ↓gX_Mp4, ↓gX_Mp5, ↓gX_Pr0, ↓gX_Pr1, ↓gX_Pr2, ↓gX_Pr3, ↓gX_Pr4, ↓gX_La0, ↓gX_La1, ↓gX_La2, ↓gX_Li0, ↓gX_Li1, ↓gX_Li2, ↓gX_Li3, ↓gX_Li4, ↓gX_Li5, ↓gX_Rd0, ↓gX_Tp0, ↓gX_St0, ↓gX_St1, ↓gX_St2, ↓gX_St3, ↓gX_Ac0, ↓gX_Ac1, ↓gX_Ac2, ↓gX_Ac3, ↓gX_Ta0, ↓gX_Op0, ↓gX_Op1, ↓gX_Ob0, ↓gX_He0, ↓gX_He1, ↓gX_Md8, ↓gX_Md9, ↓gX_Md10, ↓gX_Md11, ↓gX_Md12, ↓gX_Md13, ↓gX_Md14, ↓gX_Md15, ↓gX_Md16, ↓gX_Md17, ↓gX_Md18, ↓gX_Md19, ↓gX_Md20, ↓gX_Md21, ↓gX_Md22, ↓gX_Md23, ↓gX_Md24, ↓gX_Md25, ↓gX_Md26, ↓gX_Md27, ↓gX_Md28, ↓gX_Md29, ↓gX_Md30, ↓gX_Md31, ↓gX_Md32, ↓gX_Md35, ↓gX_Md36, ↓gX_Md37, ↓gX_Md38, ↓gX_Md39, ↓gX_Md40, ↓gX_Md41, ↓gX_Md42, ↓gX_Md43, ↓gX_Md44, ↓gX_Md45, ↓gX_Md46, ↓gX_Md57, ↓gX_Md58, ↓gX_Md59, ↓gX_Md60, ↓gX_Md61, ↓gX_Md62, ↓gX_Md63, ↓gX_Md64, ↓gX_Md65, ↓gX_Md66, ↓gX_Md67, ↓gX_Md68, ↓gX_Md69, ↓gX_Md70, ↓gX_Md71, ↓gX_Md72, ↓gX_Md77, ↓gX_Md78, ↓gX_Md79, ↓aI_w, ↓qI_w, ↓aI_s0, ↓qI_s0, ↓aI_s1, ↓qI_s1, ↓aI_s2, ↓qI_s2, ↓aI_s3, ↓qI_s3, ↓aI_a0, ↓qI_a0, ↓aI_a1, ↓qI_a1, ↓aI_a2, ↓qI_a2, ↓aI_a3, ↓qI_a3, ↓aI_l0, ↓qI_l0, ↓aI_l1, ↓qI_l1, ↓aI_l2, ↓qI_l2, ↓aI_is, ↓qI_is, ↓aI_ar, ↓qI_ar, ↓aI_ob, ↓qI_ob, ↓aI_hw, ↓qI_hw, ↓aI_ho, ↓qI_ho, ↓aI_rd, ↓qI_rd, ↓aI_tp, ↓qI_tp, ↓aI_m1, ↓qI_m1, ↓aI_m2, ↓qI_m2, ↓aI_m3, ↓qI_m3, ↓aI_m4, ↓qI_m4, ↓aI_m5, ↓qI_m5, ↓aI_m6, ↓qI_m6, ↓aI_m7, ↓qI_m7, ↓aI_m8, ↓qI_m8, ↓aI_m9, ↓qI_m9, ↓aI_m10, ↓qI_m10, ↓aI_m11, ↓qI_m11, ↓aI_m12, ↓qI_m12, ↓aI_m13, ↓qI_m13, ↓aI_m14, ↓qI_m14, ↓aI_m15, ↓qI_m15, ↓aI_m16, ↓qI_m16, ↓aI_m17, ↓qI_m17, ↓aI_m18, ↓qI_m18, ↓aI_m19, ↓qI_m19, ↓aI_m20, ↓qI_m20, ↓aI_m21, ↓qI_m21, ↓aI_m22, ↓qI_m22, ↓aI_m23, ↓qI_m23, ↓aI_m24, ↓qI_m24, ↓aI_m25, ↓qI_m25, ↓aI_m26, ↓qI_m26, ↓aI_m27, ↓qI_m27, ↓aI_m28, ↓qI_m28, ↓aI_m29, ↓qI_m29, ↓aI_m30, ↓qI_m30, ↓aI_m31, ↓qI_m31, ↓aI_m32, ↓qI_m32, ↓aI_m33, ↓qI_m33, ↓aI_m34, ↓qI_m34, ↓aI_m35, ↓qI_m35, ↓aI_m36, ↓qI_m36, ↓aI_m37, ↓qI_m37, ↓aI_m38, ↓qI_m38, ↓aI_m39, ↓qI_m39, ↓aI_m40, ↓qI_m40, ↓aI_m41, ↓qI_m41, ↓aI_m42, ↓qI_m42, ↓aI_m43, ↓qI_m43, ↓aI_m44, ↓qI_m44, ↓aI_m45, ↓qI_m45, ↓aI_m46, ↓qI_m46, ↓aI_m47, ↓qI_m47, ↓aI_m48, ↓qI_m48, ↓aI_m49, ↓qI_m49, ↓aI_m50, ↓qI_m50, ↓aI_m51, ↓qI_m51, ↓aI_m52, ↓qI_m52, ↓aI_m54, ↓qI_m54, ↓aI_m55, ↓qI_m55, ↓aZ_m53, ↓qZ_m53, ↓aZ_m56, ↓qZ_m56, ↓aX_3, ↓aX_4, ↓aX_5, ↓aX_6, ↓aX_324, ↓aX_325, ↓ai_0, ↓ai_1, ↓ai_2, ↓ai_3, ↓qi_0, ↓qi_1, ↓qi_2, ↓qi_3, ↓qi_4, ↓ly_qJ, ↓bd2_mk, ↓bdT_0, ↓bdC_0]
  rcases ch5c (a1 := A1 v ns) (a2 := A2 v ns) (a3 := A3 v np) (a4 := A4 v np) (a5 := A5 v nt np) with c | c
  · rw [c] at q33 r2
    have q33' : sI S1 (o + 893) 33 = 0 := q33
    obtain ⟨S2, t1, t2, t3, t4⟩ := toStages_ (w := (0, -1)) hp e1 ⟨L1, rfl, rfl, fun _ _ _ _ => rfl, r2.2.2.2.2.1, r2.2.2.2.2.2⟩
    have hcv : wf (0, -1) 6 (A6 v na np) = chv v ns na nt np := by unfold chv chn; rw [c]
    rw [hcv] at t2
    have L2 := t2.1
    have X : fMd_lay (o + 893) S = fMd_lay_50 (o + 893) S2 := by
      rw [G]
      simp (disch := first | with_reducible assumption | omega | (repeat (first | with_reducible assumption | with_reducible apply Ly_wI | with_reducible apply Ly_nx | with_reducible apply Ly_wJ | with_reducible apply Ly_fl))) only [↓bnO r1, q33', ↓bnO t1, ↓reduceIte, rd_s, rd_n, rd_nx, rd_wJ, t00, t10, t20, t30, ↓gI_Mp, ↓pI_Mp, ↓ck_Mp, ↓gI_Pr, ↓pI_Pr, ↓ck_Pr, ↓gI_La, ↓pI_La, ↓pZ_La, ↓ck_La, ↓gI_Li, ↓pI_Li, ↓ck_Li, ↓gI_Ky, ↓pI_Ky, ↓ck_Ky, ↓gI_Rd, ↓pI_Rd, ↓ck_Rd, ↓gI_Tp, ↓pI_Tp, ↓ck_Tp, ↓gI_St, ↓pI_St, ↓ck_St, ↓gI_Ac, ↓pI_Ac, ↓ck_Ac, ↓gI_Ta, ↓pI_Ta, ↓ck_Ta, ↓gI_Sp, ↓pI_Sp, ↓ck_Sp, ↓gI_Op, ↓pI_Op, ↓ck_Op, ↓gI_Oe, ↓pI_Oe, ↓ck_Oe, ↓gI_Ob, ↓pI_Ob, ↓ck_Ob, ↓gI_He, ↓pI_He, ↓pZ_He, ↓ck_He, ↓gI_En, ↓pI_En, ↓ck_En, ↓gI_Md, ↓pI_Md, ↓pZ_Md, ↓ck_Md, ↓gX_Mp0, ↓gX_Mp1, ↓gX_Mp2, ↓gX_Mp3, ↓gX_Mp4, ↓gX_Mp5, ↓gX_Pr0, ↓gX_Pr1, ↓gX_Pr2, ↓gX_Pr3, ↓gX_Pr4, ↓gX_La0, ↓gX_La1, ↓gX_La2, ↓gX_Li0, ↓gX_Li1, ↓gX_Li2, ↓gX_Li3, ↓gX_Li4, ↓gX_Li5, ↓gX_Rd0, ↓gX_Tp0, ↓gX_St0, ↓gX_St1, ↓gX_St2, ↓gX_St3, ↓gX_Ac0, ↓gX_Ac1, ↓gX_Ac2, ↓gX_Ac3, ↓gX_Ta0, ↓gX_Op0, ↓gX_Op1, ↓gX_Ob0, ↓gX_He0, ↓gX_He1, ↓gX_Md8, ↓gX_Md9, ↓gX_Md10, ↓gX_Md11, ↓gX_Md12, ↓gX_Md13, ↓gX_Md14, ↓gX_Md15, ↓gX_Md16, ↓gX_Md17, ↓gX_Md18, ↓gX_Md19, ↓gX_Md20, ↓gX_Md21, ↓gX_Md22, ↓gX_Md23, ↓gX_Md24, ↓gX_Md25, ↓gX_Md26, ↓gX_Md27, ↓gX_Md28, ↓gX_Md29, ↓gX_Md30, ↓gX_Md31, ↓gX_Md32, ↓gX_Md35, ↓gX_Md36, ↓gX_Md37, ↓gX_Md38, ↓gX_Md39, ↓gX_Md40, ↓gX_Md41, ↓gX_Md42, ↓gX_Md43, ↓gX_Md44, ↓gX_Md45, ↓gX_Md46, ↓gX_Md57, ↓gX_Md58, ↓gX_Md59, ↓gX_Md60, ↓gX_Md61, ↓gX_Md62, ↓gX_Md63, ↓gX_Md64, ↓gX_Md65, ↓gX_Md66, ↓gX_Md67, ↓gX_Md68, ↓gX_Md69, ↓gX_Md70, ↓gX_Md71, ↓gX_Md72, ↓gX_Md77, ↓gX_Md78, ↓gX_Md79, ↓aI_w, ↓qI_w, ↓aI_s0, ↓qI_s0, ↓aI_s1, ↓qI_s1, ↓aI_s2, ↓qI_s2, ↓aI_s3, ↓qI_s3, ↓aI_a0, ↓qI_a0, ↓aI_a1, ↓qI_a1, ↓aI_a2, ↓qI_a2, ↓aI_a3, ↓qI_a3, ↓aI_l0, ↓qI_l0, ↓aI_l1, ↓qI_l1, ↓aI_l2, ↓qI_l2, ↓aI_is, ↓qI_is, ↓aI_ar, ↓qI_ar, ↓aI_ob, ↓qI_ob, ↓aI_hw, ↓qI_hw, ↓aI_ho, ↓qI_ho, ↓aI_rd, ↓qI_rd, ↓aI_tp, ↓qI_tp, ↓aI_m1, ↓qI_m1, ↓aI_m2, ↓qI_m2, ↓aI_m3, ↓qI_m3, ↓aI_m4, ↓qI_m4, ↓aI_m5, ↓qI_m5, ↓aI_m6, ↓qI_m6, ↓aI_m7, ↓qI_m7, ↓aI_m8, ↓qI_m8, ↓aI_m9, ↓qI_m9, ↓aI_m10, ↓qI_m10, ↓aI_m11, ↓qI_m11, ↓aI_m12, ↓qI_m12, ↓aI_m13, ↓qI_m13, ↓aI_m14, ↓qI_m14, ↓aI_m15, ↓qI_m15, ↓aI_m16, ↓qI_m16, ↓aI_m17, ↓qI_m17, ↓aI_m18, ↓qI_m18, ↓aI_m19, ↓qI_m19, ↓aI_m20, ↓qI_m20, ↓aI_m21, ↓qI_m21, ↓aI_m22, ↓qI_m22, ↓aI_m23, ↓qI_m23, ↓aI_m24, ↓qI_m24, ↓aI_m25, ↓qI_m25, ↓aI_m26, ↓qI_m26, ↓aI_m27, ↓qI_m27, ↓aI_m28, ↓qI_m28, ↓aI_m29, ↓qI_m29, ↓aI_m30, ↓qI_m30, ↓aI_m31, ↓qI_m31, ↓aI_m32, ↓qI_m32, ↓aI_m33, ↓qI_m33, ↓aI_m34, ↓qI_m34, ↓aI_m35, ↓qI_m35, ↓aI_m36, ↓qI_m36, ↓aI_m37, ↓qI_m37, ↓aI_m38, ↓qI_m38, ↓aI_m39, ↓qI_m39, ↓aI_m40, ↓qI_m40, ↓aI_m41, ↓qI_m41, ↓aI_m42, ↓qI_m42, ↓aI_m43, ↓qI_m43, ↓aI_m44, ↓qI_m44, ↓aI_m45, ↓qI_m45, ↓aI_m46, ↓qI_m46, ↓aI_m47, ↓qI_m47, ↓aI_m48, ↓qI_m48, ↓aI_m49, ↓qI_m49, ↓aI_m50, ↓qI_m50, ↓aI_m51, ↓qI_m51, ↓aI_m52, ↓qI_m52, ↓aI_m54, ↓qI_m54, ↓aI_m55, ↓qI_m55, ↓aZ_m53, ↓qZ_m53, ↓aZ_m56, ↓qZ_m56, ↓aX_3, ↓aX_4, ↓aX_5, ↓aX_6, ↓aX_324, ↓aX_325, ↓ai_0, ↓ai_1, ↓ai_2, ↓ai_3, ↓qi_0, ↓qi_1, ↓qi_2, ↓qi_3, ↓qi_4, ↓ly_qJ, ↓bd2_mk, ↓bdT_0, ↓bdC_0]
    have q33s : sI S2 (o + 893) 33 = (chv v ns na nt np).1 := t2.2.2.2.2.1
    have fr2 : ∀ c q, ¬ (c = 893 ∧ (q = 0 ∨ q = 6 ∨ q = 33 ∨ q = 34)) → c ≠ 918 → c ≠ 946 → V o S2 c q = V o S c q := fun c q w1 w2 w3 => by rw [t2.2.2.2.1 c q (by omega) w2, fr1 c q (by omega) w3]
    by_cases d : (chv v ns na nt np).1 ≤ 0
    · refine ⟨wI (wI S2 (o + 893) 0 0) (o + 893) 7 1, nI ((sgS v na np).1 + 1), ?_, Ly_wI (Ly_wI L2), by rw [sR_wI, sR_wI, t2.2.1, r2.2.1, E0.2.1], by rw [sJ_wI, sJ_wI, t2.2.2.1, r2.2.2.1, E0.2.2.1], fun c q w1 w2 w3 => ?_, ?_, ?_, Or.inr ⟨d, ?_, ?_, ?_, rfl, fun q hq => ?_⟩⟩
      · rw [X, good S2 L2 (by rw [q33s]; exact d)]
        have : sI S2 (o + 893) 6 = nI ((sgS v na np).1 + 1) := t3
        rw [this]
      · rw [V_wI, V_wI, u2_n (by omega), u2_n (by omega)]; exact fr2 c q (by omega) w2 w3
      · rw [V_wI, V_wI, u2_n (by omega), u2_n (by omega)]; exact t2.2.2.2.2.1
      · rw [V_wI, V_wI, u2_n (by omega), u2_n (by omega)]; exact t2.2.2.2.2.2
      · rw [V_wI, V_wI, u2_n (by omega), u2_s]
      · rw [V_wI, u2_s]
      · rw [V_wI, V_wI, u2_n (by omega), u2_n (by omega)]; exact t3
      · rw [V_wI, V_wI, u2_n (by omega), u2_n (by omega)]; exact t4 q hq
    · refine ⟨wI S2 (o + 893) 0 2, 0, ?_, Ly_wI L2, by rw [sR_wI, t2.2.1, r2.2.1, E0.2.1], by rw [sJ_wI, t2.2.2.1, r2.2.2.1, E0.2.2.1], fun c q w1 w2 w3 => ?_, ?_, ?_, Or.inl ⟨d, ?_, ?_⟩⟩
      · rw [X, bad S2 L2 (by rw [q33s]; exact d)]
      · rw [V_wI, u2_n (by omega)]; exact fr2 c q (by omega) w2 w3
      · rw [V_wI, u2_n (by omega)]; exact t2.2.2.2.2.1
      · rw [V_wI, u2_n (by omega)]; exact t2.2.2.2.2.2
      · rw [V_wI, u2_s]
      · rw [V_wI, u2_n (by omega), fr2 _ _ (by omega) (by omega) (by omega)]; exact h7
  · have hcv : wf (wf (wf (wf (wf (0, -1) 1 (A1 v ns)) 2 (A2 v ns)) 3 (A3 v np)) 4 (A4 v np)) 5 (A5 v nt np) = chv v ns na nt np := by unfold chv chn; rw [wf_p c]
    rw [hcv] at c q33 r2
    have nz : ¬ (chv v ns na nt np).1 = 0 := fun x => c (by rw [x]; decide)
    refine ⟨wI S1 (o + 893) 0 2, 0, ?_, Ly_wI L1, by rw [sR_wI, r2.2.1, E0.2.1], by rw [sJ_wI, r2.2.2.1, E0.2.2.1], fun c q w1 w2 w3 => ?_, ?_, ?_, Or.inl ⟨c, ?_, ?_⟩⟩
    · rw [G]
      refine Eq.trans ?_ (bad S1 L1 (by rw [q33]; exact c))
      simp (disch := first | with_reducible assumption | omega | (repeat (first | with_reducible assumption | with_reducible apply Ly_wI | with_reducible apply Ly_nx | with_reducible apply Ly_wJ | with_reducible apply Ly_fl))) only [↓bnO r1, q33, nz, ↓reduceIte, rd_s, rd_n, rd_nx, rd_wJ, t00, t10, t20, t30, ↓gI_Mp, ↓pI_Mp, ↓ck_Mp, ↓gI_Pr, ↓pI_Pr, ↓ck_Pr, ↓gI_La, ↓pI_La, ↓pZ_La, ↓ck_La, ↓gI_Li, ↓pI_Li, ↓ck_Li, ↓gI_Ky, ↓pI_Ky, ↓ck_Ky, ↓gI_Rd, ↓pI_Rd, ↓ck_Rd, ↓gI_Tp, ↓pI_Tp, ↓ck_Tp, ↓gI_St, ↓pI_St, ↓ck_St, ↓gI_Ac, ↓pI_Ac, ↓ck_Ac, ↓gI_Ta, ↓pI_Ta, ↓ck_Ta, ↓gI_Sp, ↓pI_Sp, ↓ck_Sp, ↓gI_Op, ↓pI_Op, ↓ck_Op, ↓gI_Oe, ↓pI_Oe, ↓ck_Oe, ↓gI_Ob, ↓pI_Ob, ↓ck_Ob, ↓gI_He, ↓pI_He, ↓pZ_He, ↓ck_He, ↓gI_En, ↓pI_En, ↓ck_En, ↓gI_Md, ↓pI_Md, ↓pZ_Md, ↓ck_Md, ↓gX_Mp0, ↓gX_Mp1, ↓gX_Mp2, ↓gX_Mp3, ↓gX_Mp4, ↓gX_Mp5, ↓gX_Pr0, ↓gX_Pr1, ↓gX_Pr2, ↓gX_Pr3, ↓gX_Pr4, ↓gX_La0, ↓gX_La1, ↓gX_La2, ↓gX_Li0, ↓gX_Li1, ↓gX_Li2, ↓gX_Li3, ↓gX_Li4, ↓gX_Li5, ↓gX_Rd0, ↓gX_Tp0, ↓gX_St0, ↓gX_St1, ↓gX_St2, ↓gX_St3, ↓gX_Ac0, ↓gX_Ac1, ↓gX_Ac2, ↓gX_Ac3, ↓gX_Ta0, ↓gX_Op0, ↓gX_Op1, ↓gX_Ob0, ↓gX_He0, ↓gX_He1, ↓gX_Md8, ↓gX_Md9, ↓gX_Md10, ↓gX_Md11, ↓gX_Md12, ↓gX_Md13, ↓gX_Md14, ↓gX_Md15, ↓gX_Md16, ↓gX_Md17, ↓gX_Md18, ↓gX_Md19, ↓gX_Md20, ↓gX_Md21, ↓gX_Md22, ↓gX_Md23, ↓gX_Md24, ↓gX_Md25, ↓gX_Md26, ↓gX_Md27, ↓gX_Md28, ↓gX_Md29, ↓gX_Md30, ↓gX_Md31, ↓gX_Md32, ↓gX_Md35, ↓gX_Md36, ↓gX_Md37, ↓gX_Md38, ↓gX_Md39, ↓gX_Md40, ↓gX_Md41, ↓gX_Md42, ↓gX_Md43, ↓gX_Md44, ↓gX_Md45, ↓gX_Md46, ↓gX_Md57, ↓gX_Md58, ↓gX_Md59, ↓gX_Md60, ↓gX_Md61, ↓gX_Md62, ↓gX_Md63, ↓gX_Md64, ↓gX_Md65, ↓gX_Md66, ↓gX_Md67, ↓gX_Md68, ↓gX_Md69, ↓gX_Md70, ↓gX_Md71, ↓gX_Md72, ↓gX_Md77, ↓gX_Md78, ↓gX_Md79, ↓aI_w, ↓qI_w, ↓aI_s0, ↓qI_s0, ↓aI_s1, ↓qI_s1, ↓aI_s2, ↓qI_s2, ↓aI_s3, ↓qI_s3, ↓aI_a0, ↓qI_a0, ↓aI_a1, ↓qI_a1, ↓aI_a2, ↓qI_a2, ↓aI_a3, ↓qI_a3, ↓aI_l0, ↓qI_l0, ↓aI_l1, ↓qI_l1, ↓aI_l2, ↓qI_l2, ↓aI_is, ↓qI_is, ↓aI_ar, ↓qI_ar, ↓aI_ob, ↓qI_ob, ↓aI_hw, ↓qI_hw, ↓aI_ho, ↓qI_ho, ↓aI_rd, ↓qI_rd, ↓aI_tp, ↓qI_tp, ↓aI_m1, ↓qI_m1, ↓aI_m2, ↓qI_m2, ↓aI_m3, ↓qI_m3, ↓aI_m4, ↓qI_m4, ↓aI_m5, ↓qI_m5, ↓aI_m6, ↓qI_m6, ↓aI_m7, ↓qI_m7, ↓aI_m8, ↓qI_m8, ↓aI_m9, ↓qI_m9, ↓aI_m10, ↓qI_m10, ↓aI_m11, ↓qI_m11, ↓aI_m12, ↓qI_m12, ↓aI_m13, ↓qI_m13, ↓aI_m14, ↓qI_m14, ↓aI_m15, ↓qI_m15, ↓aI_m16, ↓qI_m16, ↓aI_m17, ↓qI_m17, ↓aI_m18, ↓qI_m18, ↓aI_m19, ↓qI_m19, ↓aI_m20, ↓qI_m20, ↓aI_m21, ↓qI_m21, ↓aI_m22, ↓qI_m22, ↓aI_m23, ↓qI_m23, ↓aI_m24, ↓qI_m24, ↓aI_m25, ↓qI_m25, ↓aI_m26, ↓qI_m26, ↓aI_m27, ↓qI_m27, ↓aI_m28, ↓qI_m28, ↓aI_m29, ↓qI_m29, ↓aI_m30, ↓qI_m30, ↓aI_m31, ↓qI_m31, ↓aI_m32, ↓qI_m32, ↓aI_m33, ↓qI_m33, ↓aI_m34, ↓qI_m34, ↓aI_m35, ↓qI_m35, ↓aI_m36, ↓qI_m36, ↓aI_m37, ↓qI_m37, ↓aI_m38, ↓qI_m38, ↓aI_m39, ↓qI_m39, ↓aI_m40, ↓qI_m40, ↓aI_m41, ↓qI_m41, ↓aI_m42, ↓qI_m42, ↓aI_m43, ↓qI_m43, ↓aI_m44, ↓qI_m44, ↓aI_m45, ↓qI_m45, ↓aI_m46, ↓qI_m46, ↓aI_m47, ↓qI_m47, ↓aI_m48, ↓qI_m48, ↓aI_m49, ↓qI_m49, ↓aI_m50, ↓qI_m50, ↓aI_m51, ↓qI_m51, ↓aI_m52, ↓qI_m52, ↓aI_m54, ↓qI_m54, ↓aI_m55, ↓qI_m55, ↓aZ_m53, ↓qZ_m53, ↓aZ_m56, ↓qZ_m56, ↓aX_3, ↓aX_4, ↓aX_5, ↓aX_6, ↓aX_324, ↓aX_325, ↓ai_0, ↓ai_1, ↓ai_2, ↓ai_3, ↓qi_0, ↓qi_1, ↓qi_2, ↓qi_3, ↓qi_4, ↓ly_qJ, ↓bd2_mk, ↓bdT_0, ↓bdC_0]
    · rw [V_wI, u2_n (by omega)]; exact fr1 c q (by omega) w3
    · rw [V_wI, u2_n (by omega)]; exact r2.2.2.2.2.1
    · rw [V_wI, u2_n (by omega)]; exact r2.2.2.2.2.2
    · rw [V_wI, u2_s]
    · rw [V_wI, u2_n (by omega), fr1 _ _ (by omega) (by omega)]; exact h7
theorem allN_c {v : Nat → Nat → Int32} {ns na nt np : Nat} (h : allN v ns na nt np) : chv v ns na nt np = (0, -1) := by
  obtain ⟨h1, h2, h3, h4, h5, h6⟩ := h
  unfold chv
  rw [h1, h2, h3, h4, h5, h6]
  exact ch0
theorem s_lay {o k : Nat} (hk : k < 512) : q_lay (Iv o k) (Iv o (k + 1)) o (o + 893) (o + 950) := by
  intro S h
  have h0 := h
  obtain ⟨_, hL, nf, ns, na, nt, np, hp, hB, ⟨f1, f2, f3, f4⟩, hx⟩ := h
  have b2 := hp.1.2.1
  have b4 := hp.1.2.2.2.1
  rcases hx with ⟨w1, hI⟩ | ⟨w1, _⟩
  rotate_left
  · have r3 : ¬ sI S (o + 320) 3 = 0 := fun w => by rw [show sI S (o + 320) 3 = 1 from w1] at w; exact absurd w (by decide)
    have r7 : sI S (o + 893) 7 = 1 := f1.symm.trans w1
    refine ⟨1, nx S, 0, wI (nx S) (o + 893) 0 1, ?_, kd_Md (Ly_nx hL), ?_, kd_Md (Ly_wI (Ly_nx hL)), rd_s, fun q => absurd q (by decide), Iv_nt h0 hk⟩
    · show fLw_lay _ _ _ = _
      unfold fLw_lay fMp_lay
      simp (disch := first | with_reducible assumption | omega | (repeat (first | with_reducible assumption | with_reducible apply Ly_wI | with_reducible apply Ly_nx | with_reducible apply Ly_wJ | with_reducible apply Ly_fl))) only [↓ril1 hL r3, ↓bdT_k k2, ↓bdC_k k2, ↓reduceIte, rd_s, rd_n, rd_nx, rd_wJ, t00, t10, t20, t30, ↓gI_Mp, ↓pI_Mp, ↓ck_Mp, ↓gI_Pr, ↓pI_Pr, ↓ck_Pr, ↓gI_La, ↓pI_La, ↓pZ_La, ↓ck_La, ↓gI_Li, ↓pI_Li, ↓ck_Li, ↓gI_Ky, ↓pI_Ky, ↓ck_Ky, ↓gI_Rd, ↓pI_Rd, ↓ck_Rd, ↓gI_Tp, ↓pI_Tp, ↓ck_Tp, ↓gI_St, ↓pI_St, ↓ck_St, ↓gI_Ac, ↓pI_Ac, ↓ck_Ac, ↓gI_Ta, ↓pI_Ta, ↓ck_Ta, ↓gI_Sp, ↓pI_Sp, ↓ck_Sp, ↓gI_Op, ↓pI_Op, ↓ck_Op, ↓gI_Oe, ↓pI_Oe, ↓ck_Oe, ↓gI_Ob, ↓pI_Ob, ↓ck_Ob, ↓gI_He, ↓pI_He, ↓pZ_He, ↓ck_He, ↓gI_En, ↓pI_En, ↓ck_En, ↓gI_Md, ↓pI_Md, ↓pZ_Md, ↓ck_Md, ↓gX_Mp0, ↓gX_Mp1, ↓gX_Mp2, ↓gX_Mp3, ↓gX_Mp4, ↓gX_Mp5, ↓gX_Pr0, ↓gX_Pr1, ↓gX_Pr2, ↓gX_Pr3, ↓gX_Pr4, ↓gX_La0, ↓gX_La1, ↓gX_La2, ↓gX_Li0, ↓gX_Li1, ↓gX_Li2, ↓gX_Li3, ↓gX_Li4, ↓gX_Li5, ↓gX_Rd0, ↓gX_Tp0, ↓gX_St0, ↓gX_St1, ↓gX_St2, ↓gX_St3, ↓gX_Ac0, ↓gX_Ac1, ↓gX_Ac2, ↓gX_Ac3, ↓gX_Ta0, ↓gX_Op0, ↓gX_Op1, ↓gX_Ob0, ↓gX_He0, ↓gX_He1, ↓gX_Md8, ↓gX_Md9, ↓gX_Md10, ↓gX_Md11, ↓gX_Md12, ↓gX_Md13, ↓gX_Md14, ↓gX_Md15, ↓gX_Md16, ↓gX_Md17, ↓gX_Md18, ↓gX_Md19, ↓gX_Md20, ↓gX_Md21, ↓gX_Md22, ↓gX_Md23, ↓gX_Md24, ↓gX_Md25, ↓gX_Md26, ↓gX_Md27, ↓gX_Md28, ↓gX_Md29, ↓gX_Md30, ↓gX_Md31, ↓gX_Md32, ↓gX_Md35, ↓gX_Md36, ↓gX_Md37, ↓gX_Md38, ↓gX_Md39, ↓gX_Md40, ↓gX_Md41, ↓gX_Md42, ↓gX_Md43, ↓gX_Md44, ↓gX_Md45, ↓gX_Md46, ↓gX_Md57, ↓gX_Md58, ↓gX_Md59, ↓gX_Md60, ↓gX_Md61, ↓gX_Md62, ↓gX_Md63, ↓gX_Md64, ↓gX_Md65, ↓gX_Md66, ↓gX_Md67, ↓gX_Md68, ↓gX_Md69, ↓gX_Md70, ↓gX_Md71, ↓gX_Md72, ↓gX_Md77, ↓gX_Md78, ↓gX_Md79, ↓aI_w, ↓qI_w, ↓aI_s0, ↓qI_s0, ↓aI_s1, ↓qI_s1, ↓aI_s2, ↓qI_s2, ↓aI_s3, ↓qI_s3, ↓aI_a0, ↓qI_a0, ↓aI_a1, ↓qI_a1, ↓aI_a2, ↓qI_a2, ↓aI_a3, ↓qI_a3, ↓aI_l0, ↓qI_l0, ↓aI_l1, ↓qI_l1, ↓aI_l2, ↓qI_l2, ↓aI_is, ↓qI_is, ↓aI_ar, ↓qI_ar, ↓aI_ob, ↓qI_ob, ↓aI_hw, ↓qI_hw, ↓aI_ho, ↓qI_ho, ↓aI_rd, ↓qI_rd, ↓aI_tp, ↓qI_tp, ↓aI_m1, ↓qI_m1, ↓aI_m2, ↓qI_m2, ↓aI_m3, ↓qI_m3, ↓aI_m4, ↓qI_m4, ↓aI_m5, ↓qI_m5, ↓aI_m6, ↓qI_m6, ↓aI_m7, ↓qI_m7, ↓aI_m8, ↓qI_m8, ↓aI_m9, ↓qI_m9, ↓aI_m10, ↓qI_m10, ↓aI_m11, ↓qI_m11, ↓aI_m12, ↓qI_m12, ↓aI_m13, ↓qI_m13, ↓aI_m14, ↓qI_m14, ↓aI_m15, ↓qI_m15, ↓aI_m16, ↓qI_m16, ↓aI_m17, ↓qI_m17, ↓aI_m18, ↓qI_m18, ↓aI_m19, ↓qI_m19, ↓aI_m20, ↓qI_m20, ↓aI_m21, ↓qI_m21, ↓aI_m22, ↓qI_m22, ↓aI_m23, ↓qI_m23, ↓aI_m24, ↓qI_m24, ↓aI_m25, ↓qI_m25, ↓aI_m26, ↓qI_m26, ↓aI_m27, ↓qI_m27, ↓aI_m28, ↓qI_m28, ↓aI_m29, ↓qI_m29, ↓aI_m30, ↓qI_m30, ↓aI_m31, ↓qI_m31, ↓aI_m32, ↓qI_m32, ↓aI_m33, ↓qI_m33, ↓aI_m34, ↓qI_m34, ↓aI_m35, ↓qI_m35, ↓aI_m36, ↓qI_m36, ↓aI_m37, ↓qI_m37, ↓aI_m38, ↓qI_m38, ↓aI_m39, ↓qI_m39, ↓aI_m40, ↓qI_m40, ↓aI_m41, ↓qI_m41, ↓aI_m42, ↓qI_m42, ↓aI_m43, ↓qI_m43, ↓aI_m44, ↓qI_m44, ↓aI_m45, ↓qI_m45, ↓aI_m46, ↓qI_m46, ↓aI_m47, ↓qI_m47, ↓aI_m48, ↓qI_m48, ↓aI_m49, ↓qI_m49, ↓aI_m50, ↓qI_m50, ↓aI_m51, ↓qI_m51, ↓aI_m52, ↓qI_m52, ↓aI_m54, ↓qI_m54, ↓aI_m55, ↓qI_m55, ↓aZ_m53, ↓qZ_m53, ↓aZ_m56, ↓qZ_m56, ↓aX_3, ↓aX_4, ↓aX_5, ↓aX_6, ↓aX_324, ↓aX_325, ↓ai_0, ↓ai_1, ↓ai_2, ↓ai_3, ↓qi_0, ↓qi_1, ↓qi_2, ↓qi_3, ↓qi_4, ↓ly_qJ, ↓bd2_mk, ↓bdT_0, ↓bdC_0]
    · show fMd_lay _ _ = _
      unfold fMd_lay fMd_lay_13
      simp (disch := first | with_reducible assumption | omega | (repeat (first | with_reducible assumption | with_reducible apply Ly_wI | with_reducible apply Ly_nx | with_reducible apply Ly_wJ | with_reducible apply Ly_fl))) only [r7, i10, ↓reduceIte, rd_s, rd_n, rd_nx, rd_wJ, t00, t10, t20, t30, ↓gI_Mp, ↓pI_Mp, ↓ck_Mp, ↓gI_Pr, ↓pI_Pr, ↓ck_Pr, ↓gI_La, ↓pI_La, ↓pZ_La, ↓ck_La, ↓gI_Li, ↓pI_Li, ↓ck_Li, ↓gI_Ky, ↓pI_Ky, ↓ck_Ky, ↓gI_Rd, ↓pI_Rd, ↓ck_Rd, ↓gI_Tp, ↓pI_Tp, ↓ck_Tp, ↓gI_St, ↓pI_St, ↓ck_St, ↓gI_Ac, ↓pI_Ac, ↓ck_Ac, ↓gI_Ta, ↓pI_Ta, ↓ck_Ta, ↓gI_Sp, ↓pI_Sp, ↓ck_Sp, ↓gI_Op, ↓pI_Op, ↓ck_Op, ↓gI_Oe, ↓pI_Oe, ↓ck_Oe, ↓gI_Ob, ↓pI_Ob, ↓ck_Ob, ↓gI_He, ↓pI_He, ↓pZ_He, ↓ck_He, ↓gI_En, ↓pI_En, ↓ck_En, ↓gI_Md, ↓pI_Md, ↓pZ_Md, ↓ck_Md, ↓gX_Mp0, ↓gX_Mp1, ↓gX_Mp2, ↓gX_Mp3, ↓gX_Mp4, ↓gX_Mp5, ↓gX_Pr0, ↓gX_Pr1, ↓gX_Pr2, ↓gX_Pr3, ↓gX_Pr4, ↓gX_La0, ↓gX_La1, ↓gX_La2, ↓gX_Li0, ↓gX_Li1, ↓gX_Li2, ↓gX_Li3, ↓gX_Li4, ↓gX_Li5, ↓gX_Rd0, ↓gX_Tp0, ↓gX_St0, ↓gX_St1, ↓gX_St2, ↓gX_St3, ↓gX_Ac0, ↓gX_Ac1, ↓gX_Ac2, ↓gX_Ac3, ↓gX_Ta0, ↓gX_Op0, ↓gX_Op1, ↓gX_Ob0, ↓gX_He0, ↓gX_He1, ↓gX_Md8, ↓gX_Md9, ↓gX_Md10, ↓gX_Md11, ↓gX_Md12, ↓gX_Md13, ↓gX_Md14, ↓gX_Md15, ↓gX_Md16, ↓gX_Md17, ↓gX_Md18, ↓gX_Md19, ↓gX_Md20, ↓gX_Md21, ↓gX_Md22, ↓gX_Md23, ↓gX_Md24, ↓gX_Md25, ↓gX_Md26, ↓gX_Md27, ↓gX_Md28, ↓gX_Md29, ↓gX_Md30, ↓gX_Md31, ↓gX_Md32, ↓gX_Md35, ↓gX_Md36, ↓gX_Md37, ↓gX_Md38, ↓gX_Md39, ↓gX_Md40, ↓gX_Md41, ↓gX_Md42, ↓gX_Md43, ↓gX_Md44, ↓gX_Md45, ↓gX_Md46, ↓gX_Md57, ↓gX_Md58, ↓gX_Md59, ↓gX_Md60, ↓gX_Md61, ↓gX_Md62, ↓gX_Md63, ↓gX_Md64, ↓gX_Md65, ↓gX_Md66, ↓gX_Md67, ↓gX_Md68, ↓gX_Md69, ↓gX_Md70, ↓gX_Md71, ↓gX_Md72, ↓gX_Md77, ↓gX_Md78, ↓gX_Md79, ↓aI_w, ↓qI_w, ↓aI_s0, ↓qI_s0, ↓aI_s1, ↓qI_s1, ↓aI_s2, ↓qI_s2, ↓aI_s3, ↓qI_s3, ↓aI_a0, ↓qI_a0, ↓aI_a1, ↓qI_a1, ↓aI_a2, ↓qI_a2, ↓aI_a3, ↓qI_a3, ↓aI_l0, ↓qI_l0, ↓aI_l1, ↓qI_l1, ↓aI_l2, ↓qI_l2, ↓aI_is, ↓qI_is, ↓aI_ar, ↓qI_ar, ↓aI_ob, ↓qI_ob, ↓aI_hw, ↓qI_hw, ↓aI_ho, ↓qI_ho, ↓aI_rd, ↓qI_rd, ↓aI_tp, ↓qI_tp, ↓aI_m1, ↓qI_m1, ↓aI_m2, ↓qI_m2, ↓aI_m3, ↓qI_m3, ↓aI_m4, ↓qI_m4, ↓aI_m5, ↓qI_m5, ↓aI_m6, ↓qI_m6, ↓aI_m7, ↓qI_m7, ↓aI_m8, ↓qI_m8, ↓aI_m9, ↓qI_m9, ↓aI_m10, ↓qI_m10, ↓aI_m11, ↓qI_m11, ↓aI_m12, ↓qI_m12, ↓aI_m13, ↓qI_m13, ↓aI_m14, ↓qI_m14, ↓aI_m15, ↓qI_m15, ↓aI_m16, ↓qI_m16, ↓aI_m17, ↓qI_m17, ↓aI_m18, ↓qI_m18, ↓aI_m19, ↓qI_m19, ↓aI_m20, ↓qI_m20, ↓aI_m21, ↓qI_m21, ↓aI_m22, ↓qI_m22, ↓aI_m23, ↓qI_m23, ↓aI_m24, ↓qI_m24, ↓aI_m25, ↓qI_m25, ↓aI_m26, ↓qI_m26, ↓aI_m27, ↓qI_m27, ↓aI_m28, ↓qI_m28, ↓aI_m29, ↓qI_m29, ↓aI_m30, ↓qI_m30, ↓aI_m31, ↓qI_m31, ↓aI_m32, ↓qI_m32, ↓aI_m33, ↓qI_m33, ↓aI_m34, ↓qI_m34, ↓aI_m35, ↓qI_m35, ↓aI_m36, ↓qI_m36, ↓aI_m37, ↓qI_m37, ↓aI_m38, ↓qI_m38, ↓aI_m39, ↓qI_m39, ↓aI_m40, ↓qI_m40, ↓aI_m41, ↓qI_m41, ↓aI_m42, ↓qI_m42, ↓aI_m43, ↓qI_m43, ↓aI_m44, ↓qI_m44, ↓aI_m45, ↓qI_m45, ↓aI_m46, ↓qI_m46, ↓aI_m47, ↓qI_m47, ↓aI_m48, ↓qI_m48, ↓aI_m49, ↓qI_m49, ↓aI_m50, ↓qI_m50, ↓aI_m51, ↓qI_m51, ↓aI_m52, ↓qI_m52, ↓aI_m54, ↓qI_m54, ↓aI_m55, ↓qI_m55, ↓aZ_m53, ↓qZ_m53, ↓aZ_m56, ↓qZ_m56, ↓aX_3, ↓aX_4, ↓aX_5, ↓aX_6, ↓aX_324, ↓aX_325, ↓ai_0, ↓ai_1, ↓ai_2, ↓ai_3, ↓qi_0, ↓qi_1, ↓qi_2, ↓qi_3, ↓qi_4, ↓ly_qJ, ↓bd2_mk, ↓bdT_0, ↓bdC_0]
  have r3 : sI S (o + 320) 3 = 0 := w1
  have r7 : sI S (o + 893) 7 = 0 := f1.symm.trans w1
  have e : pE o S (V o S) := fun _ _ _ => rfl
  obtain ⟨S1, p1, ⟨p2, p3, p4, p5⟩, p6, p7, p8, p9⟩ := plan_ hL hp e f4
  have r71 : sI S1 (o + 893) 7 = 0 := (p5 893 7 (by omega) (by omega)).trans r7
  have e1 : pE o S1 (V o S) := fun c q hc => p5 c q (by unfold pc at hc; omega) (by unfold pc at hc; omega)
  rcases p9 with ⟨a1, a2⟩ | ⟨a1, a2, fs, a3⟩
  · -- it can't be laid
    have a1' : sI S1 (o + 320) 3 = 0 := a1
    obtain ⟨S2, b, m1, m2, m3, m4, m5, m6, m7, m8⟩ := layM (S := nx S1) (Ly_nx p2) hp e1 r71
    obtain ⟨m9, m10, m11⟩ : ¬ (chv (V o S) ns na nt np).1 ≤ 0 ∧ V o S2 893 0 = 2 ∧ V o S2 893 7 = 0 := m8.elim id (fun x => absurd x.1 a2)
    refine ⟨2, nx S1, b, S2, ?_, kd_Md (Ly_nx p2), m1, kd_Md m2, m10, fun q => absurd q (by decide), ?_⟩
    · show fLw_lay _ _ _ = _
      unfold fLw_lay fMp_lay
      simp (disch := first | with_reducible assumption | omega | (repeat (first | with_reducible assumption | with_reducible apply Ly_wI | with_reducible apply Ly_nx | with_reducible apply Ly_wJ | with_reducible apply Ly_fl))) only [↓ril0 hL r3, ↓bnO p1, a1', ↓bdC_k k1, k13, k12, ↓reduceIte, rd_s, rd_n, rd_nx, rd_wJ, t00, t10, t20, t30, ↓gI_Mp, ↓pI_Mp, ↓ck_Mp, ↓gI_Pr, ↓pI_Pr, ↓ck_Pr, ↓gI_La, ↓pI_La, ↓pZ_La, ↓ck_La, ↓gI_Li, ↓pI_Li, ↓ck_Li, ↓gI_Ky, ↓pI_Ky, ↓ck_Ky, ↓gI_Rd, ↓pI_Rd, ↓ck_Rd, ↓gI_Tp, ↓pI_Tp, ↓ck_Tp, ↓gI_St, ↓pI_St, ↓ck_St, ↓gI_Ac, ↓pI_Ac, ↓ck_Ac, ↓gI_Ta, ↓pI_Ta, ↓ck_Ta, ↓gI_Sp, ↓pI_Sp, ↓ck_Sp, ↓gI_Op, ↓pI_Op, ↓ck_Op, ↓gI_Oe, ↓pI_Oe, ↓ck_Oe, ↓gI_Ob, ↓pI_Ob, ↓ck_Ob, ↓gI_He, ↓pI_He, ↓pZ_He, ↓ck_He, ↓gI_En, ↓pI_En, ↓ck_En, ↓gI_Md, ↓pI_Md, ↓pZ_Md, ↓ck_Md, ↓gX_Mp0, ↓gX_Mp1, ↓gX_Mp2, ↓gX_Mp3, ↓gX_Mp4, ↓gX_Mp5, ↓gX_Pr0, ↓gX_Pr1, ↓gX_Pr2, ↓gX_Pr3, ↓gX_Pr4, ↓gX_La0, ↓gX_La1, ↓gX_La2, ↓gX_Li0, ↓gX_Li1, ↓gX_Li2, ↓gX_Li3, ↓gX_Li4, ↓gX_Li5, ↓gX_Rd0, ↓gX_Tp0, ↓gX_St0, ↓gX_St1, ↓gX_St2, ↓gX_St3, ↓gX_Ac0, ↓gX_Ac1, ↓gX_Ac2, ↓gX_Ac3, ↓gX_Ta0, ↓gX_Op0, ↓gX_Op1, ↓gX_Ob0, ↓gX_He0, ↓gX_He1, ↓gX_Md8, ↓gX_Md9, ↓gX_Md10, ↓gX_Md11, ↓gX_Md12, ↓gX_Md13, ↓gX_Md14, ↓gX_Md15, ↓gX_Md16, ↓gX_Md17, ↓gX_Md18, ↓gX_Md19, ↓gX_Md20, ↓gX_Md21, ↓gX_Md22, ↓gX_Md23, ↓gX_Md24, ↓gX_Md25, ↓gX_Md26, ↓gX_Md27, ↓gX_Md28, ↓gX_Md29, ↓gX_Md30, ↓gX_Md31, ↓gX_Md32, ↓gX_Md35, ↓gX_Md36, ↓gX_Md37, ↓gX_Md38, ↓gX_Md39, ↓gX_Md40, ↓gX_Md41, ↓gX_Md42, ↓gX_Md43, ↓gX_Md44, ↓gX_Md45, ↓gX_Md46, ↓gX_Md57, ↓gX_Md58, ↓gX_Md59, ↓gX_Md60, ↓gX_Md61, ↓gX_Md62, ↓gX_Md63, ↓gX_Md64, ↓gX_Md65, ↓gX_Md66, ↓gX_Md67, ↓gX_Md68, ↓gX_Md69, ↓gX_Md70, ↓gX_Md71, ↓gX_Md72, ↓gX_Md77, ↓gX_Md78, ↓gX_Md79, ↓aI_w, ↓qI_w, ↓aI_s0, ↓qI_s0, ↓aI_s1, ↓qI_s1, ↓aI_s2, ↓qI_s2, ↓aI_s3, ↓qI_s3, ↓aI_a0, ↓qI_a0, ↓aI_a1, ↓qI_a1, ↓aI_a2, ↓qI_a2, ↓aI_a3, ↓qI_a3, ↓aI_l0, ↓qI_l0, ↓aI_l1, ↓qI_l1, ↓aI_l2, ↓qI_l2, ↓aI_is, ↓qI_is, ↓aI_ar, ↓qI_ar, ↓aI_ob, ↓qI_ob, ↓aI_hw, ↓qI_hw, ↓aI_ho, ↓qI_ho, ↓aI_rd, ↓qI_rd, ↓aI_tp, ↓qI_tp, ↓aI_m1, ↓qI_m1, ↓aI_m2, ↓qI_m2, ↓aI_m3, ↓qI_m3, ↓aI_m4, ↓qI_m4, ↓aI_m5, ↓qI_m5, ↓aI_m6, ↓qI_m6, ↓aI_m7, ↓qI_m7, ↓aI_m8, ↓qI_m8, ↓aI_m9, ↓qI_m9, ↓aI_m10, ↓qI_m10, ↓aI_m11, ↓qI_m11, ↓aI_m12, ↓qI_m12, ↓aI_m13, ↓qI_m13, ↓aI_m14, ↓qI_m14, ↓aI_m15, ↓qI_m15, ↓aI_m16, ↓qI_m16, ↓aI_m17, ↓qI_m17, ↓aI_m18, ↓qI_m18, ↓aI_m19, ↓qI_m19, ↓aI_m20, ↓qI_m20, ↓aI_m21, ↓qI_m21, ↓aI_m22, ↓qI_m22, ↓aI_m23, ↓qI_m23, ↓aI_m24, ↓qI_m24, ↓aI_m25, ↓qI_m25, ↓aI_m26, ↓qI_m26, ↓aI_m27, ↓qI_m27, ↓aI_m28, ↓qI_m28, ↓aI_m29, ↓qI_m29, ↓aI_m30, ↓qI_m30, ↓aI_m31, ↓qI_m31, ↓aI_m32, ↓qI_m32, ↓aI_m33, ↓qI_m33, ↓aI_m34, ↓qI_m34, ↓aI_m35, ↓qI_m35, ↓aI_m36, ↓qI_m36, ↓aI_m37, ↓qI_m37, ↓aI_m38, ↓qI_m38, ↓aI_m39, ↓qI_m39, ↓aI_m40, ↓qI_m40, ↓aI_m41, ↓qI_m41, ↓aI_m42, ↓qI_m42, ↓aI_m43, ↓qI_m43, ↓aI_m44, ↓qI_m44, ↓aI_m45, ↓qI_m45, ↓aI_m46, ↓qI_m46, ↓aI_m47, ↓qI_m47, ↓aI_m48, ↓qI_m48, ↓aI_m49, ↓qI_m49, ↓aI_m50, ↓qI_m50, ↓aI_m51, ↓qI_m51, ↓aI_m52, ↓qI_m52, ↓aI_m54, ↓qI_m54, ↓aI_m55, ↓qI_m55, ↓aZ_m53, ↓qZ_m53, ↓aZ_m56, ↓qZ_m56, ↓aX_3, ↓aX_4, ↓aX_5, ↓aX_6, ↓aX_324, ↓aX_325, ↓ai_0, ↓ai_1, ↓ai_2, ↓ai_3, ↓qi_0, ↓qi_1, ↓qi_2, ↓qi_3, ↓qi_4, ↓ly_qJ, ↓bd2_mk, ↓bdT_0, ↓bdC_0]
    · have fr : ∀ c q, ¬ (c = 893 ∧ (q = 0 ∨ q = 6 ∨ q = 7 ∨ q = 33 ∨ q = 34)) → c ≠ 918 → c ≠ 946 → ¬ (321 ≤ c ∧ c ≤ 323) → ¬ (c = 320 ∧ 3 ≤ q ∧ q ≤ 6) → V o S2 c q = V o S c q := fun c q x1 x2 x3 x4 x5 => by rw [m5 c q x1 x2 x3, V_nx, p5 c q x4 x5]
      refine ⟨by omega, m2, nf, ns, na, nt, np, PR_cg (fun c q w => fr c q (by unfold pc at w; omega) (by unfold pc at w; omega) (by unfold pc at w; omega) (by unfold pc at w; omega) (by unfold pc at w; omega)) hp, BR_cg (fun c q w => fr c q (by omega) (by omega) (by omega) (by omega) (by omega)) hB, ⟨?_, ?_, ?_, ?_⟩, Or.inl ⟨?_, IDL_cg b4 (fun c q w => fr c q (by omega) (by omega) (by omega) (by omega) (by omega)) hI⟩⟩
      · rw [m11, m5 _ _ (by omega) (by omega) (by omega), V_nx, a1]
      · rw [m6, m5 _ _ (by omega) (by omega) (by omega), V_nx, p7]
      · rw [m7, m5 _ _ (by omega) (by omega) (by omega), V_nx, p8]
      · rw [m5 _ _ (by omega) (by omega) (by omega), V_nx, p6]
      · rw [m5 _ _ (by omega) (by omega) (by omega), V_nx, a1]
  · -- it is laid
    have a1' : sI S1 (o + 320) 3 = 1 := a1
    have a4' : sI S1 (o + 320) 4 = nI ((sgS (V o S) na np).1 + 1) := a3.2.2.2.1
    have hc := allN_c a2
    have L3 : Ly o (wJ S1 (o + 950) 0 (nI ((sgS (V o S) na np).1 + 1)).toInt64) := Ly_wJ p2
    obtain ⟨S2, b, m1, m2, m3, m4, m5, m6, m7, m8⟩ := layM (S := wJ S1 (o + 950) 0 (nI ((sgS (V o S) na np).1 + 1)).toInt64) L3 hp e1 r71
    obtain ⟨m9, m10, m11, m12, m13, m14⟩ := m8.elim (fun x => absurd (show (chv (V o S) ns na nt np).1 ≤ 0 by rw [hc]; decide) x.1) id
    refine ⟨0, wJ S1 (o + 950) 0 (nI ((sgS (V o S) na np).1 + 1)).toInt64, b, S2, ?_, kd_Md L3, m1, kd_Md m2, m10, fun _ => ?_, ?_⟩
    · show fLw_lay _ _ _ = _
      unfold fLw_lay fMp_lay
      simp (disch := first | with_reducible assumption | omega | (repeat (first | with_reducible assumption | with_reducible apply Ly_wI | with_reducible apply Ly_nx | with_reducible apply Ly_wJ | with_reducible apply Ly_fl))) only [↓ril0 hL r3, ↓bnO p1, a1', a4', i10, ↓reduceIte, rd_s, rd_n, rd_nx, rd_wJ, t00, t10, t20, t30, ↓gI_Mp, ↓pI_Mp, ↓ck_Mp, ↓gI_Pr, ↓pI_Pr, ↓ck_Pr, ↓gI_La, ↓pI_La, ↓pZ_La, ↓ck_La, ↓gI_Li, ↓pI_Li, ↓ck_Li, ↓gI_Ky, ↓pI_Ky, ↓ck_Ky, ↓gI_Rd, ↓pI_Rd, ↓ck_Rd, ↓gI_Tp, ↓pI_Tp, ↓ck_Tp, ↓gI_St, ↓pI_St, ↓ck_St, ↓gI_Ac, ↓pI_Ac, ↓ck_Ac, ↓gI_Ta, ↓pI_Ta, ↓ck_Ta, ↓gI_Sp, ↓pI_Sp, ↓ck_Sp, ↓gI_Op, ↓pI_Op, ↓ck_Op, ↓gI_Oe, ↓pI_Oe, ↓ck_Oe, ↓gI_Ob, ↓pI_Ob, ↓ck_Ob, ↓gI_He, ↓pI_He, ↓pZ_He, ↓ck_He, ↓gI_En, ↓pI_En, ↓ck_En, ↓gI_Md, ↓pI_Md, ↓pZ_Md, ↓ck_Md, ↓gX_Mp0, ↓gX_Mp1, ↓gX_Mp2, ↓gX_Mp3, ↓gX_Mp4, ↓gX_Mp5, ↓gX_Pr0, ↓gX_Pr1, ↓gX_Pr2, ↓gX_Pr3, ↓gX_Pr4, ↓gX_La0, ↓gX_La1, ↓gX_La2, ↓gX_Li0, ↓gX_Li1, ↓gX_Li2, ↓gX_Li3, ↓gX_Li4, ↓gX_Li5, ↓gX_Rd0, ↓gX_Tp0, ↓gX_St0, ↓gX_St1, ↓gX_St2, ↓gX_St3, ↓gX_Ac0, ↓gX_Ac1, ↓gX_Ac2, ↓gX_Ac3, ↓gX_Ta0, ↓gX_Op0, ↓gX_Op1, ↓gX_Ob0, ↓gX_He0, ↓gX_He1, ↓gX_Md8, ↓gX_Md9, ↓gX_Md10, ↓gX_Md11, ↓gX_Md12, ↓gX_Md13, ↓gX_Md14, ↓gX_Md15, ↓gX_Md16, ↓gX_Md17, ↓gX_Md18, ↓gX_Md19, ↓gX_Md20, ↓gX_Md21, ↓gX_Md22, ↓gX_Md23, ↓gX_Md24, ↓gX_Md25, ↓gX_Md26, ↓gX_Md27, ↓gX_Md28, ↓gX_Md29, ↓gX_Md30, ↓gX_Md31, ↓gX_Md32, ↓gX_Md35, ↓gX_Md36, ↓gX_Md37, ↓gX_Md38, ↓gX_Md39, ↓gX_Md40, ↓gX_Md41, ↓gX_Md42, ↓gX_Md43, ↓gX_Md44, ↓gX_Md45, ↓gX_Md46, ↓gX_Md57, ↓gX_Md58, ↓gX_Md59, ↓gX_Md60, ↓gX_Md61, ↓gX_Md62, ↓gX_Md63, ↓gX_Md64, ↓gX_Md65, ↓gX_Md66, ↓gX_Md67, ↓gX_Md68, ↓gX_Md69, ↓gX_Md70, ↓gX_Md71, ↓gX_Md72, ↓gX_Md77, ↓gX_Md78, ↓gX_Md79, ↓aI_w, ↓qI_w, ↓aI_s0, ↓qI_s0, ↓aI_s1, ↓qI_s1, ↓aI_s2, ↓qI_s2, ↓aI_s3, ↓qI_s3, ↓aI_a0, ↓qI_a0, ↓aI_a1, ↓qI_a1, ↓aI_a2, ↓qI_a2, ↓aI_a3, ↓qI_a3, ↓aI_l0, ↓qI_l0, ↓aI_l1, ↓qI_l1, ↓aI_l2, ↓qI_l2, ↓aI_is, ↓qI_is, ↓aI_ar, ↓qI_ar, ↓aI_ob, ↓qI_ob, ↓aI_hw, ↓qI_hw, ↓aI_ho, ↓qI_ho, ↓aI_rd, ↓qI_rd, ↓aI_tp, ↓qI_tp, ↓aI_m1, ↓qI_m1, ↓aI_m2, ↓qI_m2, ↓aI_m3, ↓qI_m3, ↓aI_m4, ↓qI_m4, ↓aI_m5, ↓qI_m5, ↓aI_m6, ↓qI_m6, ↓aI_m7, ↓qI_m7, ↓aI_m8, ↓qI_m8, ↓aI_m9, ↓qI_m9, ↓aI_m10, ↓qI_m10, ↓aI_m11, ↓qI_m11, ↓aI_m12, ↓qI_m12, ↓aI_m13, ↓qI_m13, ↓aI_m14, ↓qI_m14, ↓aI_m15, ↓qI_m15, ↓aI_m16, ↓qI_m16, ↓aI_m17, ↓qI_m17, ↓aI_m18, ↓qI_m18, ↓aI_m19, ↓qI_m19, ↓aI_m20, ↓qI_m20, ↓aI_m21, ↓qI_m21, ↓aI_m22, ↓qI_m22, ↓aI_m23, ↓qI_m23, ↓aI_m24, ↓qI_m24, ↓aI_m25, ↓qI_m25, ↓aI_m26, ↓qI_m26, ↓aI_m27, ↓qI_m27, ↓aI_m28, ↓qI_m28, ↓aI_m29, ↓qI_m29, ↓aI_m30, ↓qI_m30, ↓aI_m31, ↓qI_m31, ↓aI_m32, ↓qI_m32, ↓aI_m33, ↓qI_m33, ↓aI_m34, ↓qI_m34, ↓aI_m35, ↓qI_m35, ↓aI_m36, ↓qI_m36, ↓aI_m37, ↓qI_m37, ↓aI_m38, ↓qI_m38, ↓aI_m39, ↓qI_m39, ↓aI_m40, ↓qI_m40, ↓aI_m41, ↓qI_m41, ↓aI_m42, ↓qI_m42, ↓aI_m43, ↓qI_m43, ↓aI_m44, ↓qI_m44, ↓aI_m45, ↓qI_m45, ↓aI_m46, ↓qI_m46, ↓aI_m47, ↓qI_m47, ↓aI_m48, ↓qI_m48, ↓aI_m49, ↓qI_m49, ↓aI_m50, ↓qI_m50, ↓aI_m51, ↓qI_m51, ↓aI_m52, ↓qI_m52, ↓aI_m54, ↓qI_m54, ↓aI_m55, ↓qI_m55, ↓aZ_m53, ↓qZ_m53, ↓aZ_m56, ↓qZ_m56, ↓aX_3, ↓aX_4, ↓aX_5, ↓aX_6, ↓aX_324, ↓aX_325, ↓ai_0, ↓ai_1, ↓ai_2, ↓ai_3, ↓qi_0, ↓qi_1, ↓qi_2, ↓qi_3, ↓qi_4, ↓ly_qJ, ↓bd2_mk, ↓bdT_0, ↓bdC_0]
    · rw [m13]
      exact aJ_of (S0 := S1) m2 m4
    · have fr : ∀ c q, ¬ (c = 893 ∧ (q = 0 ∨ q = 6 ∨ q = 7 ∨ q = 33 ∨ q = 34)) → c ≠ 918 → c ≠ 946 → ¬ (321 ≤ c ∧ c ≤ 323) → ¬ (c = 320 ∧ 3 ≤ q ∧ q ≤ 6) → V o S2 c q = V o S c q := fun c q x1 x2 x3 x4 x5 => by rw [m5 c q x1 x2 x3, V_wJ, p5 c q x4 x5]
      have ep : ∀ c q, pc c q → V o S2 c q = V o S c q := fun c q w => fr c q (by unfold pc at w; omega) (by unfold pc at w; omega) (by unfold pc at w; omega) (by unfold pc at w; omega) (by unfold pc at w; omega)
      have hp2 := PR_cg ep hp
      have hI2 : IDL (V o S2) nt := IDL_cg b4 (fun c q w => fr c q (by omega) (by omega) (by omega) (by omega) (by omega)) hI
      obtain ⟨n1, n2, n3, n4, n5, n6⟩ := a2
      have hW := WY_cg b2 ep (WY_lay hp n1 n2)
      have hR := LRv_lay (S' := S2) hp ep (fun c q w1 w2 w3 => by rw [m5 c q (by omega) (by omega) (by omega), V_wJ]) n3 n4 n5 a3
      refine ⟨by omega, m2, nf, ns, na, nt, np, hp2, BR_cg (fun c q w => fr c q (by omega) (by omega) (by omega) (by omega) (by omega)) hB, ⟨?_, ?_, ?_, ?_⟩, Or.inr ⟨?_, _, _, _, _, _, 0, 0, 0, 0, by omega, by omega, I2_0 m2 hp2 hW hR hI2 m12, fun p hp' => ?_⟩⟩
      · rw [m11, m5 _ _ (by omega) (by omega) (by omega), V_wJ, a1]
      · rw [m6, m5 _ _ (by omega) (by omega) (by omega), V_wJ, p7]
      · rw [m7, m5 _ _ (by omega) (by omega) (by omega), V_wJ, p8]
      · rw [m5 _ _ (by omega) (by omega) (by omega), V_wJ, p6]
      · rw [m5 _ _ (by omega) (by omega) (by omega), V_wJ, a1]
      · rw [m14 p hp', m5 _ _ (by omega) (by omega) (by omega), V_wJ, (a3.2.2.2.2.1 p hp').1]
