/-! A PACKET IS READ: the class -/
def hdC (h c k : Nat) : Prop := c = 841 + 3 * h ∨ c = 842 + 3 * h ∨ (c = 840 + 3 * h ∧ 2 ≤ k ∧ k ≤ 4)
/-- memory after a piece that writes into header h alone -/
def FrH (o : Nat) (S S1 : Sx) (h : Nat) : Prop := Ly o S1 ∧ sR S1 = sR S ∧ sJ S1 = sJ S ∧ ∀ c k, ¬ hdC h c k → V o S1 c k = V o S c k
theorem FrH_id {o h : Nat} {S : Sx} (hL : Ly o S) : FrH o S S h := ⟨hL, rfl, rfl, fun _ _ _ => rfl⟩
theorem FrH_wI {o h c k : Nat} {x : Int32} {S S1 : Sx} (H : FrH o S S1 h) (hc : hdC h c k) : FrH o S (wI S1 (o + c) k x) h := by
  refine ⟨Ly_wI H.1, by rw [sR_wI]; exact H.2.1, by rw [sJ_wI]; exact H.2.2.1, fun c' k' w => ?_⟩
  rw [V_wI, u2_n]
  · exact H.2.2.2 c' k' w
  · by_cases e : c' = c
    · right; intro e2; subst e; subst e2; exact w hc
    · exact Or.inl e
theorem FrH_tr {o h : Nat} {S S1 S2 : Sx} (a : FrH o S S1 h) (b : FrH o S1 S2 h) : FrH o S S2 h := ⟨b.1, b.2.1.trans a.2.1, b.2.2.1.trans a.2.2.1, fun c k w => (b.2.2.2 c k w).trans (a.2.2.2 c k w)⟩
/-- header h holds the reading r -/
def RHc (v : Nat → Nat → Int32) (h : Nat) (r : RS) : Prop := (∀ k, k < 16 → v (841 + 3 * h) k = r.w k) ∧ (∀ i, i < r.tk → v (842 + 3 * h) i = nI (r.od i)) ∧ v (840 + 3 * h) 2 = nI r.tk ∧ v (840 + 3 * h) 3 = nI r.bits ∧ ∀ f, f < 32 → bt (v (840 + 3 * h) 4) f = (decide (f < 16) && r.rf f)
theorem or_bit {x : Int32} {f k : Nat} (hf : f < 32) (hk : k < 32) : bt (x ||| (1 <<< (nI f &&& 31))) k = (bt x k || decide (k = f)) := by
  rw [bt_or, bt_shl hf hk, bt_1]
  by_cases d : k = f
  · subst d; simp
  · by_cases e : f ≤ k
    · simp [d, show ¬ k - f = 0 by omega]
    · simp [d, e]
set_option maxHeartbeats 1000000 in
theorem tf_step {o h s pl nf k n m cnt : Nat} {v0 : Nat → Nat → Int32} {r : RS} {S : Sx} (hL : Ly o S) (hh : h < 16) (hs : s < 8) (hpl : pl < 128) (hnf : nf ≤ 16) (hm : m ≤ 60) (hB : ∀ c k, ¬ hdC h c k → V o S c k = v0 c k) (hF : ∀ f, f < nf → FdR v0 f) (hc4 : cnt ≤ 4) (hcnt : v0 (8 + 5 * s) 4 = nI cnt) (hk : k < cnt) (hfl : vF nf (v0 (9 + 5 * s) k)) (hby : v0 (328 + 4 * pl) 2 = nI m) (hR : RHc (V o S) h r) (hK : RSk (wdv v0) nf m r) :
    ∃ S1, FrH o S S1 h ∧ ((rdF (wdv v0) (cb v0 (331 + 4 * pl)) m (cl (v0 (9 + 5 * s) k)) r = none ∧ fHe_takesFields_3 (n + 1) (o + (840 + 3 * h)) (o + (8 + 5 * s)) (o + 2) (o + (328 + 4 * pl)) (nI k) S = some (0, S1)) ∨ ∃ r', rdF (wdv v0) (cb v0 (331 + 4 * pl)) m (cl (v0 (9 + 5 * s) k)) r = some r' ∧ RHc (V o S1) h r' ∧ fHe_takesFields_3 (n + 1) (o + (840 + 3 * h)) (o + (8 + 5 * s)) (o + 2) (o + (328 + 4 * pl)) (nI k) S = fHe_takesFields_3 n (o + (840 + 3 * h)) (o + (8 + 5 * s)) (o + 2) (o + (328 + 4 * pl)) (nI (k + 1)) S1) := by
  obtain ⟨f, f1, f2⟩ := hfl
  obtain ⟨w, w1, w2, w3, w4⟩ := hF f f1
  obtain ⟨R1, R2, R3, R4, R5⟩ := hR
  have hS : ∀ c k, ¬ hdC h c k → sI S (o + c) k = v0 c k := hB
  have rc : sI S (o + (8 + 5 * s)) 4 = nI cnt := by rw [hS _ _ (by unfold hdC; omega)]; exact hcnt
  have rt : sI S (o + (9 + 5 * s)) k = nI f := by rw [hS _ _ (by unfold hdC; omega)]; exact f2
  have rw' : sI S (o + 3) f = nI w := by rw [hS _ _ (by unfold hdC; omega)]; exact w3
  have rb : sI S (o + (328 + 4 * pl)) 2 = nI m := by rw [hS _ _ (by unfold hdC; omega)]; exact hby
  have r2 : sI S (o + (840 + 3 * h)) 2 = nI r.tk := R3
  have r3 : sI S (o + (840 + 3 * h)) 3 = nI r.bits := R4
  have nle : ¬ nI cnt ≤ nI k := nI_ge hk (by omega)
  have wf : wdv v0 f = w := by unfold wdv; rw [w3, cl_n (by omega)]
  have hb : hbit (sI S (o + (840 + 3 * h)) 4) (nI f) ↔ r.rf f = true := by
    have e := R5 f (by omega)
    rw [decide_eq_true (show f < 16 by omega), Bool.true_and] at e
    have e' : bt (sI S (o + (840 + 3 * h)) 4) f = r.rf f := e
    constructor
    · rintro ⟨a, a1, a2, a3⟩
      have := (nI_eq (by omega) (by omega)).mp a2
      subst this
      rw [← e']; exact a3
    · intro q
      exact ⟨f, by omega, rfl, by rw [e']; exact q⟩
  have e8 : (8 : Int32) * nI m = nI (8 * m) := pk_mul 8 m
  have ea : nI r.bits + nI w = nI (r.bits + w) := nI_add _ _
  have hbl := hK.le
  rw [fHe_takesFields_3, f2, cl_n (by omega)]
  unfold rdF
  rw [wf]
  rcases Classical.em (r.rf f = true) with c | c
  · refine ⟨S, FrH_id hL, Or.inl ⟨by rw [if_pos (Or.inl c)], ?_⟩⟩
    simp (disch := first | with_reducible assumption | omega | (repeat (first | with_reducible assumption | with_reducible apply Ly_wI | with_reducible apply Ly_nx | with_reducible apply Ly_wJ | with_reducible apply Ly_fl))) only [rc, nle, rt, rw', hasb, bi_t (hb.mpr c), bd2_mk, i10, ↓reduceIte, rd_s, rd_n, rd_nx, rd_wJ, t00, t10, t20, t30, ↓gI_Mp, ↓pI_Mp, ↓ck_Mp, ↓gI_Pr, ↓pI_Pr, ↓ck_Pr, ↓gI_La, ↓pI_La, ↓pZ_La, ↓ck_La, ↓gI_Li, ↓pI_Li, ↓ck_Li, ↓gI_Ky, ↓pI_Ky, ↓ck_Ky, ↓gI_Rd, ↓pI_Rd, ↓ck_Rd, ↓gI_Tp, ↓pI_Tp, ↓ck_Tp, ↓gI_St, ↓pI_St, ↓ck_St, ↓gI_Ac, ↓pI_Ac, ↓ck_Ac, ↓gI_Ta, ↓pI_Ta, ↓ck_Ta, ↓gI_Sp, ↓pI_Sp, ↓ck_Sp, ↓gI_Op, ↓pI_Op, ↓ck_Op, ↓gI_Oe, ↓pI_Oe, ↓ck_Oe, ↓gI_Ob, ↓pI_Ob, ↓ck_Ob, ↓gI_He, ↓pI_He, ↓pZ_He, ↓ck_He, ↓gI_En, ↓pI_En, ↓ck_En, ↓gI_Md, ↓pI_Md, ↓pZ_Md, ↓ck_Md, ↓gX_Mp0, ↓gX_Mp1, ↓gX_Mp2, ↓gX_Mp3, ↓gX_Mp4, ↓gX_Mp5, ↓gX_Pr0, ↓gX_Pr1, ↓gX_Pr2, ↓gX_Pr3, ↓gX_Pr4, ↓gX_La0, ↓gX_La1, ↓gX_La2, ↓gX_Li0, ↓gX_Li1, ↓gX_Li2, ↓gX_Li3, ↓gX_Li4, ↓gX_Li5, ↓gX_Rd0, ↓gX_Tp0, ↓gX_St0, ↓gX_St1, ↓gX_St2, ↓gX_St3, ↓gX_Ac0, ↓gX_Ac1, ↓gX_Ac2, ↓gX_Ac3, ↓gX_Ta0, ↓gX_Op0, ↓gX_Op1, ↓gX_Ob0, ↓gX_He0, ↓gX_He1, ↓gX_Md8, ↓gX_Md9, ↓gX_Md10, ↓gX_Md11, ↓gX_Md12, ↓gX_Md13, ↓gX_Md14, ↓gX_Md15, ↓gX_Md16, ↓gX_Md17, ↓gX_Md18, ↓gX_Md19, ↓gX_Md20, ↓gX_Md21, ↓gX_Md22, ↓gX_Md23, ↓gX_Md24, ↓gX_Md25, ↓gX_Md26, ↓gX_Md27, ↓gX_Md28, ↓gX_Md29, ↓gX_Md30, ↓gX_Md31, ↓gX_Md32, ↓gX_Md35, ↓gX_Md36, ↓gX_Md37, ↓gX_Md38, ↓gX_Md39, ↓gX_Md40, ↓gX_Md41, ↓gX_Md42, ↓gX_Md43, ↓gX_Md44, ↓gX_Md45, ↓gX_Md46, ↓gX_Md57, ↓gX_Md58, ↓gX_Md59, ↓gX_Md60, ↓gX_Md61, ↓gX_Md62, ↓gX_Md63, ↓gX_Md64, ↓gX_Md65, ↓gX_Md66, ↓gX_Md67, ↓gX_Md68, ↓gX_Md69, ↓gX_Md70, ↓gX_Md71, ↓gX_Md72, ↓gX_Md77, ↓gX_Md78, ↓gX_Md79, ↓aI_w, ↓qI_w, ↓aI_s0, ↓qI_s0, ↓aI_s1, ↓qI_s1, ↓aI_s2, ↓qI_s2, ↓aI_s3, ↓qI_s3, ↓aI_a0, ↓qI_a0, ↓aI_a1, ↓qI_a1, ↓aI_a2, ↓qI_a2, ↓aI_a3, ↓qI_a3, ↓aI_l0, ↓qI_l0, ↓aI_l1, ↓qI_l1, ↓aI_l2, ↓qI_l2, ↓aI_is, ↓qI_is, ↓aI_ar, ↓qI_ar, ↓aI_ob, ↓qI_ob, ↓aI_hw, ↓qI_hw, ↓aI_ho, ↓qI_ho, ↓aI_rd, ↓qI_rd, ↓aI_tp, ↓qI_tp, ↓aI_m1, ↓qI_m1, ↓aI_m2, ↓qI_m2, ↓aI_m3, ↓qI_m3, ↓aI_m4, ↓qI_m4, ↓aI_m5, ↓qI_m5, ↓aI_m6, ↓qI_m6, ↓aI_m7, ↓qI_m7, ↓aI_m8, ↓qI_m8, ↓aI_m9, ↓qI_m9, ↓aI_m10, ↓qI_m10, ↓aI_m11, ↓qI_m11, ↓aI_m12, ↓qI_m12, ↓aI_m13, ↓qI_m13, ↓aI_m14, ↓qI_m14, ↓aI_m15, ↓qI_m15, ↓aI_m16, ↓qI_m16, ↓aI_m17, ↓qI_m17, ↓aI_m18, ↓qI_m18, ↓aI_m19, ↓qI_m19, ↓aI_m20, ↓qI_m20, ↓aI_m21, ↓qI_m21, ↓aI_m22, ↓qI_m22, ↓aI_m23, ↓qI_m23, ↓aI_m24, ↓qI_m24, ↓aI_m25, ↓qI_m25, ↓aI_m26, ↓qI_m26, ↓aI_m27, ↓qI_m27, ↓aI_m28, ↓qI_m28, ↓aI_m29, ↓qI_m29, ↓aI_m30, ↓qI_m30, ↓aI_m31, ↓qI_m31, ↓aI_m32, ↓qI_m32, ↓aI_m33, ↓qI_m33, ↓aI_m34, ↓qI_m34, ↓aI_m35, ↓qI_m35, ↓aI_m36, ↓qI_m36, ↓aI_m37, ↓qI_m37, ↓aI_m38, ↓qI_m38, ↓aI_m39, ↓qI_m39, ↓aI_m40, ↓qI_m40, ↓aI_m41, ↓qI_m41, ↓aI_m42, ↓qI_m42, ↓aI_m43, ↓qI_m43, ↓aI_m44, ↓qI_m44, ↓aI_m45, ↓qI_m45, ↓aI_m46, ↓qI_m46, ↓aI_m47, ↓qI_m47, ↓aI_m48, ↓qI_m48, ↓aI_m49, ↓qI_m49, ↓aI_m50, ↓qI_m50, ↓aI_m51, ↓qI_m51, ↓aI_m52, ↓qI_m52, ↓aI_m54, ↓qI_m54, ↓aI_m55, ↓qI_m55, ↓aZ_m53, ↓qZ_m53, ↓aZ_m56, ↓qZ_m56, ↓aX_3, ↓aX_4, ↓aX_5, ↓aX_6, ↓aX_324, ↓aX_325, ↓ai_0, ↓ai_1, ↓ai_2, ↓ai_3, ↓qi_0, ↓qi_1, ↓qi_2, ↓qi_3, ↓qi_4, ↓ly_qJ, ↓bd2_mk, ↓bdT_0, ↓bdC_0]
  · have nb : ¬ hbit (sI S (o + (840 + 3 * h)) 4) (nI f) := fun q => c (hb.mp q)
    by_cases d : 8 * m < r.bits + w
    · refine ⟨S, FrH_id hL, Or.inl ⟨by rw [if_pos (Or.inr d)], ?_⟩⟩
      have lt : ¬ nI (r.bits + w) ≤ nI (8 * m) := nI_ge d (by omega)
      simp (disch := first | with_reducible assumption | omega | (repeat (first | with_reducible assumption | with_reducible apply Ly_wI | with_reducible apply Ly_nx | with_reducible apply Ly_wJ | with_reducible apply Ly_fl))) only [rc, nle, rt, rw', hasb, bi_f nb, bd2_mk, r3, rb, e8, ea, lt, ↓reduceIte, rd_s, rd_n, rd_nx, rd_wJ, t00, t10, t20, t30, ↓gI_Mp, ↓pI_Mp, ↓ck_Mp, ↓gI_Pr, ↓pI_Pr, ↓ck_Pr, ↓gI_La, ↓pI_La, ↓pZ_La, ↓ck_La, ↓gI_Li, ↓pI_Li, ↓ck_Li, ↓gI_Ky, ↓pI_Ky, ↓ck_Ky, ↓gI_Rd, ↓pI_Rd, ↓ck_Rd, ↓gI_Tp, ↓pI_Tp, ↓ck_Tp, ↓gI_St, ↓pI_St, ↓ck_St, ↓gI_Ac, ↓pI_Ac, ↓ck_Ac, ↓gI_Ta, ↓pI_Ta, ↓ck_Ta, ↓gI_Sp, ↓pI_Sp, ↓ck_Sp, ↓gI_Op, ↓pI_Op, ↓ck_Op, ↓gI_Oe, ↓pI_Oe, ↓ck_Oe, ↓gI_Ob, ↓pI_Ob, ↓ck_Ob, ↓gI_He, ↓pI_He, ↓pZ_He, ↓ck_He, ↓gI_En, ↓pI_En, ↓ck_En, ↓gI_Md, ↓pI_Md, ↓pZ_Md, ↓ck_Md, ↓gX_Mp0, ↓gX_Mp1, ↓gX_Mp2, ↓gX_Mp3, ↓gX_Mp4, ↓gX_Mp5, ↓gX_Pr0, ↓gX_Pr1, ↓gX_Pr2, ↓gX_Pr3, ↓gX_Pr4, ↓gX_La0, ↓gX_La1, ↓gX_La2, ↓gX_Li0, ↓gX_Li1, ↓gX_Li2, ↓gX_Li3, ↓gX_Li4, ↓gX_Li5, ↓gX_Rd0, ↓gX_Tp0, ↓gX_St0, ↓gX_St1, ↓gX_St2, ↓gX_St3, ↓gX_Ac0, ↓gX_Ac1, ↓gX_Ac2, ↓gX_Ac3, ↓gX_Ta0, ↓gX_Op0, ↓gX_Op1, ↓gX_Ob0, ↓gX_He0, ↓gX_He1, ↓gX_Md8, ↓gX_Md9, ↓gX_Md10, ↓gX_Md11, ↓gX_Md12, ↓gX_Md13, ↓gX_Md14, ↓gX_Md15, ↓gX_Md16, ↓gX_Md17, ↓gX_Md18, ↓gX_Md19, ↓gX_Md20, ↓gX_Md21, ↓gX_Md22, ↓gX_Md23, ↓gX_Md24, ↓gX_Md25, ↓gX_Md26, ↓gX_Md27, ↓gX_Md28, ↓gX_Md29, ↓gX_Md30, ↓gX_Md31, ↓gX_Md32, ↓gX_Md35, ↓gX_Md36, ↓gX_Md37, ↓gX_Md38, ↓gX_Md39, ↓gX_Md40, ↓gX_Md41, ↓gX_Md42, ↓gX_Md43, ↓gX_Md44, ↓gX_Md45, ↓gX_Md46, ↓gX_Md57, ↓gX_Md58, ↓gX_Md59, ↓gX_Md60, ↓gX_Md61, ↓gX_Md62, ↓gX_Md63, ↓gX_Md64, ↓gX_Md65, ↓gX_Md66, ↓gX_Md67, ↓gX_Md68, ↓gX_Md69, ↓gX_Md70, ↓gX_Md71, ↓gX_Md72, ↓gX_Md77, ↓gX_Md78, ↓gX_Md79, ↓aI_w, ↓qI_w, ↓aI_s0, ↓qI_s0, ↓aI_s1, ↓qI_s1, ↓aI_s2, ↓qI_s2, ↓aI_s3, ↓qI_s3, ↓aI_a0, ↓qI_a0, ↓aI_a1, ↓qI_a1, ↓aI_a2, ↓qI_a2, ↓aI_a3, ↓qI_a3, ↓aI_l0, ↓qI_l0, ↓aI_l1, ↓qI_l1, ↓aI_l2, ↓qI_l2, ↓aI_is, ↓qI_is, ↓aI_ar, ↓qI_ar, ↓aI_ob, ↓qI_ob, ↓aI_hw, ↓qI_hw, ↓aI_ho, ↓qI_ho, ↓aI_rd, ↓qI_rd, ↓aI_tp, ↓qI_tp, ↓aI_m1, ↓qI_m1, ↓aI_m2, ↓qI_m2, ↓aI_m3, ↓qI_m3, ↓aI_m4, ↓qI_m4, ↓aI_m5, ↓qI_m5, ↓aI_m6, ↓qI_m6, ↓aI_m7, ↓qI_m7, ↓aI_m8, ↓qI_m8, ↓aI_m9, ↓qI_m9, ↓aI_m10, ↓qI_m10, ↓aI_m11, ↓qI_m11, ↓aI_m12, ↓qI_m12, ↓aI_m13, ↓qI_m13, ↓aI_m14, ↓qI_m14, ↓aI_m15, ↓qI_m15, ↓aI_m16, ↓qI_m16, ↓aI_m17, ↓qI_m17, ↓aI_m18, ↓qI_m18, ↓aI_m19, ↓qI_m19, ↓aI_m20, ↓qI_m20, ↓aI_m21, ↓qI_m21, ↓aI_m22, ↓qI_m22, ↓aI_m23, ↓qI_m23, ↓aI_m24, ↓qI_m24, ↓aI_m25, ↓qI_m25, ↓aI_m26, ↓qI_m26, ↓aI_m27, ↓qI_m27, ↓aI_m28, ↓qI_m28, ↓aI_m29, ↓qI_m29, ↓aI_m30, ↓qI_m30, ↓aI_m31, ↓qI_m31, ↓aI_m32, ↓qI_m32, ↓aI_m33, ↓qI_m33, ↓aI_m34, ↓qI_m34, ↓aI_m35, ↓qI_m35, ↓aI_m36, ↓qI_m36, ↓aI_m37, ↓qI_m37, ↓aI_m38, ↓qI_m38, ↓aI_m39, ↓qI_m39, ↓aI_m40, ↓qI_m40, ↓aI_m41, ↓qI_m41, ↓aI_m42, ↓qI_m42, ↓aI_m43, ↓qI_m43, ↓aI_m44, ↓qI_m44, ↓aI_m45, ↓qI_m45, ↓aI_m46, ↓qI_m46, ↓aI_m47, ↓qI_m47, ↓aI_m48, ↓qI_m48, ↓aI_m49, ↓qI_m49, ↓aI_m50, ↓qI_m50, ↓aI_m51, ↓qI_m51, ↓aI_m52, ↓qI_m52, ↓aI_m54, ↓qI_m54, ↓aI_m55, ↓qI_m55, ↓aZ_m53, ↓qZ_m53, ↓aZ_m56, ↓qZ_m56, ↓aX_3, ↓aX_4, ↓aX_5, ↓aX_6, ↓aX_324, ↓aX_325, ↓ai_0, ↓ai_1, ↓ai_2, ↓ai_3, ↓qi_0, ↓qi_1, ↓qi_2, ↓qi_3, ↓qi_4, ↓ly_qJ, ↓bd2_mk, ↓bdT_0, ↓bdC_0]
    · have le : nI (r.bits + w) ≤ nI (8 * m) := nI_le (by omega) (by omega)
      have tk16 : r.tk < 16 := by
        have h1 := hK.cn
        have h2 : cnB (upB r.rf f) 16 = cnB r.rf 16 + 1 := by rw [cnB_up (by rw [Bool.not_eq_true] at c; exact c), if_pos (by omega)]
        have := cnB_le (f := upB r.rf f) 16
        omega
      obtain ⟨x, x1, x2⟩ := take_ (a := r.bits) hL (bi_op hpl) w1 w2 (by omega)
      have xv : x = rdW (cb v0 (331 + 4 * pl)) r.bits w := by
        refine bt_ext fun i hi => ?_
        rw [x2 i hi, bt_rdW w2 hi, show 330 + 4 * pl + 1 = 331 + 4 * pl from by omega]
        unfold cb
        rw [hB _ _ (by unfold hdC; omega)]
      refine ⟨wI (wI (wI (wI (wI S (o + (841 + 3 * h)) f x) (o + (842 + 3 * h)) r.tk (nI f)) (o + (840 + 3 * h)) 2 (nI (r.tk + 1))) (o + (840 + 3 * h)) 3 (nI (r.bits + w))) (o + (840 + 3 * h)) 4 (sI S (o + (840 + 3 * h)) 4 ||| (1 <<< (nI f &&& 31))), ?_, Or.inr ⟨_, if_neg (fun q => q.elim c d), ?_, ?_⟩⟩
      · exact FrH_wI (FrH_wI (FrH_wI (FrH_wI (FrH_wI (FrH_id hL) (by unfold hdC; omega)) (by unfold hdC; omega)) (by unfold hdC; omega)) (by unfold hdC; omega)) (by unfold hdC; omega)
      · simp only [V_wI]
        refine ⟨?_, ?_, ?_, ?_, ?_⟩
        · intro j hj
          rw [u2_n (by omega), u2_n (by omega), u2_n (by omega), u2_n (by omega)]
          show _ = up r.w f _ j
          by_cases e : j = f
          · subst e; rw [u2_s, up_s, xv]
          · rw [u2_n (Or.inr e), up_n e]; exact R1 j hj
        · intro i hi
          have hi' : i < r.tk + 1 := hi
          rw [u2_n (by omega), u2_n (by omega), u2_n (by omega)]
          show _ = nI (upN r.od r.tk f i)
          unfold upN
          by_cases e : i = r.tk
          · subst e; rw [u2_s, if_pos rfl]
          · rw [u2_n (Or.inr e), u2_n (by omega), if_neg e]; exact R2 i (by omega)
        · rw [u2_n (by omega), u2_n (by omega), u2_s]; rfl
        · rw [u2_n (by omega), u2_s]; rfl
        · intro g hg
          rw [u2_s, or_bit (by omega) hg]
          have e' : bt (sI S (o + (840 + 3 * h)) 4) g = _ := R5 g hg
          rw [e']
          show _ = (decide (g < 16) && upB r.rf f g)
          unfold upB
          by_cases e : g = f
          · subst e; rw [if_pos rfl]; simp [show g < 16 by omega]
          · rw [if_neg e]; simp [e]
      · simp (disch := first | with_reducible assumption | omega | (repeat (first | with_reducible assumption | with_reducible apply Ly_wI | with_reducible apply Ly_nx | with_reducible apply Ly_wJ | with_reducible apply Ly_fl))) only [rc, nle, rt, rw', hasb, bi_f nb, bd2_mk, r3, r2, rb, e8, ea, le, x1, nI_1, ↓reduceIte, rd_s, rd_n, rd_nx, rd_wJ, t00, t10, t20, t30, ↓gI_Mp, ↓pI_Mp, ↓ck_Mp, ↓gI_Pr, ↓pI_Pr, ↓ck_Pr, ↓gI_La, ↓pI_La, ↓pZ_La, ↓ck_La, ↓gI_Li, ↓pI_Li, ↓ck_Li, ↓gI_Ky, ↓pI_Ky, ↓ck_Ky, ↓gI_Rd, ↓pI_Rd, ↓ck_Rd, ↓gI_Tp, ↓pI_Tp, ↓ck_Tp, ↓gI_St, ↓pI_St, ↓ck_St, ↓gI_Ac, ↓pI_Ac, ↓ck_Ac, ↓gI_Ta, ↓pI_Ta, ↓ck_Ta, ↓gI_Sp, ↓pI_Sp, ↓ck_Sp, ↓gI_Op, ↓pI_Op, ↓ck_Op, ↓gI_Oe, ↓pI_Oe, ↓ck_Oe, ↓gI_Ob, ↓pI_Ob, ↓ck_Ob, ↓gI_He, ↓pI_He, ↓pZ_He, ↓ck_He, ↓gI_En, ↓pI_En, ↓ck_En, ↓gI_Md, ↓pI_Md, ↓pZ_Md, ↓ck_Md, ↓gX_Mp0, ↓gX_Mp1, ↓gX_Mp2, ↓gX_Mp3, ↓gX_Mp4, ↓gX_Mp5, ↓gX_Pr0, ↓gX_Pr1, ↓gX_Pr2, ↓gX_Pr3, ↓gX_Pr4, ↓gX_La0, ↓gX_La1, ↓gX_La2, ↓gX_Li0, ↓gX_Li1, ↓gX_Li2, ↓gX_Li3, ↓gX_Li4, ↓gX_Li5, ↓gX_Rd0, ↓gX_Tp0, ↓gX_St0, ↓gX_St1, ↓gX_St2, ↓gX_St3, ↓gX_Ac0, ↓gX_Ac1, ↓gX_Ac2, ↓gX_Ac3, ↓gX_Ta0, ↓gX_Op0, ↓gX_Op1, ↓gX_Ob0, ↓gX_He0, ↓gX_He1, ↓gX_Md8, ↓gX_Md9, ↓gX_Md10, ↓gX_Md11, ↓gX_Md12, ↓gX_Md13, ↓gX_Md14, ↓gX_Md15, ↓gX_Md16, ↓gX_Md17, ↓gX_Md18, ↓gX_Md19, ↓gX_Md20, ↓gX_Md21, ↓gX_Md22, ↓gX_Md23, ↓gX_Md24, ↓gX_Md25, ↓gX_Md26, ↓gX_Md27, ↓gX_Md28, ↓gX_Md29, ↓gX_Md30, ↓gX_Md31, ↓gX_Md32, ↓gX_Md35, ↓gX_Md36, ↓gX_Md37, ↓gX_Md38, ↓gX_Md39, ↓gX_Md40, ↓gX_Md41, ↓gX_Md42, ↓gX_Md43, ↓gX_Md44, ↓gX_Md45, ↓gX_Md46, ↓gX_Md57, ↓gX_Md58, ↓gX_Md59, ↓gX_Md60, ↓gX_Md61, ↓gX_Md62, ↓gX_Md63, ↓gX_Md64, ↓gX_Md65, ↓gX_Md66, ↓gX_Md67, ↓gX_Md68, ↓gX_Md69, ↓gX_Md70, ↓gX_Md71, ↓gX_Md72, ↓gX_Md77, ↓gX_Md78, ↓gX_Md79, ↓aI_w, ↓qI_w, ↓aI_s0, ↓qI_s0, ↓aI_s1, ↓qI_s1, ↓aI_s2, ↓qI_s2, ↓aI_s3, ↓qI_s3, ↓aI_a0, ↓qI_a0, ↓aI_a1, ↓qI_a1, ↓aI_a2, ↓qI_a2, ↓aI_a3, ↓qI_a3, ↓aI_l0, ↓qI_l0, ↓aI_l1, ↓qI_l1, ↓aI_l2, ↓qI_l2, ↓aI_is, ↓qI_is, ↓aI_ar, ↓qI_ar, ↓aI_ob, ↓qI_ob, ↓aI_hw, ↓qI_hw, ↓aI_ho, ↓qI_ho, ↓aI_rd, ↓qI_rd, ↓aI_tp, ↓qI_tp, ↓aI_m1, ↓qI_m1, ↓aI_m2, ↓qI_m2, ↓aI_m3, ↓qI_m3, ↓aI_m4, ↓qI_m4, ↓aI_m5, ↓qI_m5, ↓aI_m6, ↓qI_m6, ↓aI_m7, ↓qI_m7, ↓aI_m8, ↓qI_m8, ↓aI_m9, ↓qI_m9, ↓aI_m10, ↓qI_m10, ↓aI_m11, ↓qI_m11, ↓aI_m12, ↓qI_m12, ↓aI_m13, ↓qI_m13, ↓aI_m14, ↓qI_m14, ↓aI_m15, ↓qI_m15, ↓aI_m16, ↓qI_m16, ↓aI_m17, ↓qI_m17, ↓aI_m18, ↓qI_m18, ↓aI_m19, ↓qI_m19, ↓aI_m20, ↓qI_m20, ↓aI_m21, ↓qI_m21, ↓aI_m22, ↓qI_m22, ↓aI_m23, ↓qI_m23, ↓aI_m24, ↓qI_m24, ↓aI_m25, ↓qI_m25, ↓aI_m26, ↓qI_m26, ↓aI_m27, ↓qI_m27, ↓aI_m28, ↓qI_m28, ↓aI_m29, ↓qI_m29, ↓aI_m30, ↓qI_m30, ↓aI_m31, ↓qI_m31, ↓aI_m32, ↓qI_m32, ↓aI_m33, ↓qI_m33, ↓aI_m34, ↓qI_m34, ↓aI_m35, ↓qI_m35, ↓aI_m36, ↓qI_m36, ↓aI_m37, ↓qI_m37, ↓aI_m38, ↓qI_m38, ↓aI_m39, ↓qI_m39, ↓aI_m40, ↓qI_m40, ↓aI_m41, ↓qI_m41, ↓aI_m42, ↓qI_m42, ↓aI_m43, ↓qI_m43, ↓aI_m44, ↓qI_m44, ↓aI_m45, ↓qI_m45, ↓aI_m46, ↓qI_m46, ↓aI_m47, ↓qI_m47, ↓aI_m48, ↓qI_m48, ↓aI_m49, ↓qI_m49, ↓aI_m50, ↓qI_m50, ↓aI_m51, ↓qI_m51, ↓aI_m52, ↓qI_m52, ↓aI_m54, ↓qI_m54, ↓aI_m55, ↓qI_m55, ↓aZ_m53, ↓qZ_m53, ↓aZ_m56, ↓qZ_m56, ↓aX_3, ↓aX_4, ↓aX_5, ↓aX_6, ↓aX_324, ↓aX_325, ↓ai_0, ↓ai_1, ↓ai_2, ↓ai_3, ↓qi_0, ↓qi_1, ↓qi_2, ↓qi_3, ↓qi_4, ↓ly_qJ, ↓bd2_mk, ↓bdT_0, ↓bdC_0]
theorem tf_l {o h s pl nf m cnt : Nat} {v0 : Nat → Nat → Int32} {fl : Nat → Nat} (hh : h < 16) (hs : s < 8) (hpl : pl < 128) (hnf : nf ≤ 16) (hm : m ≤ 60) (hF : ∀ f, f < nf → FdR v0 f) (hc4 : cnt ≤ 4) (hcnt : v0 (8 + 5 * s) 4 = nI cnt) (hfl : ∀ k, k < cnt → vF nf (v0 (9 + 5 * s) k) ∧ fl k = cl (v0 (9 + 5 * s) k)) (hby : v0 (328 + 4 * pl) 2 = nI m) :
    ∀ j k n r S, k + j = cnt → j < n → Ly o S → (∀ c k, ¬ hdC h c k → V o S c k = v0 c k) → RHc (V o S) h r → RSk (wdv v0) nf m r →
      ∃ S1, FrH o S S1 h ∧ ((rdL (wdv v0) (cb v0 (331 + 4 * pl)) m fl j k r = none ∧ fHe_takesFields_3 n (o + (840 + 3 * h)) (o + (8 + 5 * s)) (o + 2) (o + (328 + 4 * pl)) (nI k) S = some (0, S1)) ∨ ∃ r', rdL (wdv v0) (cb v0 (331 + 4 * pl)) m fl j k r = some r' ∧ RHc (V o S1) h r' ∧ fHe_takesFields_3 n (o + (840 + 3 * h)) (o + (8 + 5 * s)) (o + 2) (o + (328 + 4 * pl)) (nI k) S = some (1, S1)) := by
  intro j
  induction j with
  | zero =>
    intro k n r S h1 h2 hL hB hR hK
    obtain ⟨n', rfl⟩ : ∃ n', n = n' + 1 := ⟨n - 1, by omega⟩
    have rc : sI S (o + (8 + 5 * s)) 4 = nI cnt := by have := hB (8 + 5 * s) 4 (by unfold hdC; omega); rw [hcnt] at this; exact this
    have le : nI cnt ≤ nI k := nI_le (by omega) (by omega)
    refine ⟨S, FrH_id hL, Or.inr ⟨r, rfl, hR, ?_⟩⟩
    rw [fHe_takesFields_3]
    simp (disch := first | with_reducible assumption | omega | (repeat (first | with_reducible assumption | with_reducible apply Ly_wI | with_reducible apply Ly_nx | with_reducible apply Ly_wJ | with_reducible apply Ly_fl))) only [rc, le, ↓reduceIte, rd_s, rd_n, rd_nx, rd_wJ, t00, t10, t20, t30, ↓gI_Mp, ↓pI_Mp, ↓ck_Mp, ↓gI_Pr, ↓pI_Pr, ↓ck_Pr, ↓gI_La, ↓pI_La, ↓pZ_La, ↓ck_La, ↓gI_Li, ↓pI_Li, ↓ck_Li, ↓gI_Ky, ↓pI_Ky, ↓ck_Ky, ↓gI_Rd, ↓pI_Rd, ↓ck_Rd, ↓gI_Tp, ↓pI_Tp, ↓ck_Tp, ↓gI_St, ↓pI_St, ↓ck_St, ↓gI_Ac, ↓pI_Ac, ↓ck_Ac, ↓gI_Ta, ↓pI_Ta, ↓ck_Ta, ↓gI_Sp, ↓pI_Sp, ↓ck_Sp, ↓gI_Op, ↓pI_Op, ↓ck_Op, ↓gI_Oe, ↓pI_Oe, ↓ck_Oe, ↓gI_Ob, ↓pI_Ob, ↓ck_Ob, ↓gI_He, ↓pI_He, ↓pZ_He, ↓ck_He, ↓gI_En, ↓pI_En, ↓ck_En, ↓gI_Md, ↓pI_Md, ↓pZ_Md, ↓ck_Md, ↓gX_Mp0, ↓gX_Mp1, ↓gX_Mp2, ↓gX_Mp3, ↓gX_Mp4, ↓gX_Mp5, ↓gX_Pr0, ↓gX_Pr1, ↓gX_Pr2, ↓gX_Pr3, ↓gX_Pr4, ↓gX_La0, ↓gX_La1, ↓gX_La2, ↓gX_Li0, ↓gX_Li1, ↓gX_Li2, ↓gX_Li3, ↓gX_Li4, ↓gX_Li5, ↓gX_Rd0, ↓gX_Tp0, ↓gX_St0, ↓gX_St1, ↓gX_St2, ↓gX_St3, ↓gX_Ac0, ↓gX_Ac1, ↓gX_Ac2, ↓gX_Ac3, ↓gX_Ta0, ↓gX_Op0, ↓gX_Op1, ↓gX_Ob0, ↓gX_He0, ↓gX_He1, ↓gX_Md8, ↓gX_Md9, ↓gX_Md10, ↓gX_Md11, ↓gX_Md12, ↓gX_Md13, ↓gX_Md14, ↓gX_Md15, ↓gX_Md16, ↓gX_Md17, ↓gX_Md18, ↓gX_Md19, ↓gX_Md20, ↓gX_Md21, ↓gX_Md22, ↓gX_Md23, ↓gX_Md24, ↓gX_Md25, ↓gX_Md26, ↓gX_Md27, ↓gX_Md28, ↓gX_Md29, ↓gX_Md30, ↓gX_Md31, ↓gX_Md32, ↓gX_Md35, ↓gX_Md36, ↓gX_Md37, ↓gX_Md38, ↓gX_Md39, ↓gX_Md40, ↓gX_Md41, ↓gX_Md42, ↓gX_Md43, ↓gX_Md44, ↓gX_Md45, ↓gX_Md46, ↓gX_Md57, ↓gX_Md58, ↓gX_Md59, ↓gX_Md60, ↓gX_Md61, ↓gX_Md62, ↓gX_Md63, ↓gX_Md64, ↓gX_Md65, ↓gX_Md66, ↓gX_Md67, ↓gX_Md68, ↓gX_Md69, ↓gX_Md70, ↓gX_Md71, ↓gX_Md72, ↓gX_Md77, ↓gX_Md78, ↓gX_Md79, ↓aI_w, ↓qI_w, ↓aI_s0, ↓qI_s0, ↓aI_s1, ↓qI_s1, ↓aI_s2, ↓qI_s2, ↓aI_s3, ↓qI_s3, ↓aI_a0, ↓qI_a0, ↓aI_a1, ↓qI_a1, ↓aI_a2, ↓qI_a2, ↓aI_a3, ↓qI_a3, ↓aI_l0, ↓qI_l0, ↓aI_l1, ↓qI_l1, ↓aI_l2, ↓qI_l2, ↓aI_is, ↓qI_is, ↓aI_ar, ↓qI_ar, ↓aI_ob, ↓qI_ob, ↓aI_hw, ↓qI_hw, ↓aI_ho, ↓qI_ho, ↓aI_rd, ↓qI_rd, ↓aI_tp, ↓qI_tp, ↓aI_m1, ↓qI_m1, ↓aI_m2, ↓qI_m2, ↓aI_m3, ↓qI_m3, ↓aI_m4, ↓qI_m4, ↓aI_m5, ↓qI_m5, ↓aI_m6, ↓qI_m6, ↓aI_m7, ↓qI_m7, ↓aI_m8, ↓qI_m8, ↓aI_m9, ↓qI_m9, ↓aI_m10, ↓qI_m10, ↓aI_m11, ↓qI_m11, ↓aI_m12, ↓qI_m12, ↓aI_m13, ↓qI_m13, ↓aI_m14, ↓qI_m14, ↓aI_m15, ↓qI_m15, ↓aI_m16, ↓qI_m16, ↓aI_m17, ↓qI_m17, ↓aI_m18, ↓qI_m18, ↓aI_m19, ↓qI_m19, ↓aI_m20, ↓qI_m20, ↓aI_m21, ↓qI_m21, ↓aI_m22, ↓qI_m22, ↓aI_m23, ↓qI_m23, ↓aI_m24, ↓qI_m24, ↓aI_m25, ↓qI_m25, ↓aI_m26, ↓qI_m26, ↓aI_m27, ↓qI_m27, ↓aI_m28, ↓qI_m28, ↓aI_m29, ↓qI_m29, ↓aI_m30, ↓qI_m30, ↓aI_m31, ↓qI_m31, ↓aI_m32, ↓qI_m32, ↓aI_m33, ↓qI_m33, ↓aI_m34, ↓qI_m34, ↓aI_m35, ↓qI_m35, ↓aI_m36, ↓qI_m36, ↓aI_m37, ↓qI_m37, ↓aI_m38, ↓qI_m38, ↓aI_m39, ↓qI_m39, ↓aI_m40, ↓qI_m40, ↓aI_m41, ↓qI_m41, ↓aI_m42, ↓qI_m42, ↓aI_m43, ↓qI_m43, ↓aI_m44, ↓qI_m44, ↓aI_m45, ↓qI_m45, ↓aI_m46, ↓qI_m46, ↓aI_m47, ↓qI_m47, ↓aI_m48, ↓qI_m48, ↓aI_m49, ↓qI_m49, ↓aI_m50, ↓qI_m50, ↓aI_m51, ↓qI_m51, ↓aI_m52, ↓qI_m52, ↓aI_m54, ↓qI_m54, ↓aI_m55, ↓qI_m55, ↓aZ_m53, ↓qZ_m53, ↓aZ_m56, ↓qZ_m56, ↓aX_3, ↓aX_4, ↓aX_5, ↓aX_6, ↓aX_324, ↓aX_325, ↓ai_0, ↓ai_1, ↓ai_2, ↓ai_3, ↓qi_0, ↓qi_1, ↓qi_2, ↓qi_3, ↓qi_4, ↓ly_qJ, ↓bd2_mk, ↓bdT_0, ↓bdC_0]
  | succ j ih =>
    intro k n r S h1 h2 hL hB hR hK
    obtain ⟨n', rfl⟩ : ∃ n', n = n' + 1 := ⟨n - 1, by omega⟩
    obtain ⟨g1, g2⟩ := hfl k (by omega)
    have hlt : fl k < nf := by
      obtain ⟨f, f1, f2⟩ := g1
      rw [g2, f2, cl_n (by omega)]; exact f1
    obtain ⟨S1, F1, d⟩ := tf_step (n := n') hL hh hs hpl hnf hm hB hF hc4 hcnt (show k < cnt by omega) g1 hby hR hK
    rw [← g2] at d
    rcases d with ⟨d1, d2⟩ | ⟨r', d1, d2, d3⟩
    · refine ⟨S1, F1, Or.inl ⟨?_, d2⟩⟩
      rw [rdL, d1]; rfl
    · obtain ⟨K1, K2, _⟩ := rdF_k hnf hlt hK d1
      obtain ⟨S2, F2, e⟩ := ih (k + 1) n' r' S1 (by omega) (by omega) F1.1 (fun c k w => by rw [F1.2.2.2 c k w]; exact hB c k w) d2 K1
      refine ⟨S2, FrH_tr F1 F2, ?_⟩
      rw [rdL, d1]
      rcases e with ⟨e1, e2⟩ | ⟨r2, e1, e2, e3⟩
      · exact Or.inl ⟨e1, d3.trans e2⟩
      · exact Or.inr ⟨r2, e1, e2, d3.trans e3⟩
theorem next_l {o s cnt : Nat} {x : Int32} {v : Nat → Nat → Int32} {S : Sx} (hL : Ly o S) (hs : s < 8) (hc4 : cnt ≤ 4) (h6 : sI S (o + (8 + 5 * s)) 6 = nI cnt) (h7 : sI S (o + (8 + 5 * s)) 7 = v 901 s) (hcs : ∀ k, k < cnt → sI S (o + (10 + 5 * s)) k = v 898 (4 * s + k) ∧ sI S (o + (11 + 5 * s)) k = v 899 (4 * s + k) ∧ sI S (o + (12 + 5 * s)) k = v 900 (4 * s + k)) :
    ∀ j k n, k + j = cnt → j < n → fSt_next_2 n (o + (8 + 5 * s)) x (nI k) S = some (nxC v s x j k, S) := by
  intro j
  induction j with
  | zero =>
    intro k n h1 h2
    obtain ⟨n', rfl⟩ : ∃ n', n = n' + 1 := ⟨n - 1, by omega⟩
    have le : nI cnt ≤ nI k := nI_le (by omega) (by omega)
    rw [fSt_next_2, nxC]
    simp (disch := first | with_reducible assumption | omega | (repeat (first | with_reducible assumption | with_reducible apply Ly_wI | with_reducible apply Ly_nx | with_reducible apply Ly_wJ | with_reducible apply Ly_fl))) only [h6, h7, le, ↓reduceIte, rd_s, rd_n, rd_nx, rd_wJ, t00, t10, t20, t30, ↓gI_Mp, ↓pI_Mp, ↓ck_Mp, ↓gI_Pr, ↓pI_Pr, ↓ck_Pr, ↓gI_La, ↓pI_La, ↓pZ_La, ↓ck_La, ↓gI_Li, ↓pI_Li, ↓ck_Li, ↓gI_Ky, ↓pI_Ky, ↓ck_Ky, ↓gI_Rd, ↓pI_Rd, ↓ck_Rd, ↓gI_Tp, ↓pI_Tp, ↓ck_Tp, ↓gI_St, ↓pI_St, ↓ck_St, ↓gI_Ac, ↓pI_Ac, ↓ck_Ac, ↓gI_Ta, ↓pI_Ta, ↓ck_Ta, ↓gI_Sp, ↓pI_Sp, ↓ck_Sp, ↓gI_Op, ↓pI_Op, ↓ck_Op, ↓gI_Oe, ↓pI_Oe, ↓ck_Oe, ↓gI_Ob, ↓pI_Ob, ↓ck_Ob, ↓gI_He, ↓pI_He, ↓pZ_He, ↓ck_He, ↓gI_En, ↓pI_En, ↓ck_En, ↓gI_Md, ↓pI_Md, ↓pZ_Md, ↓ck_Md, ↓gX_Mp0, ↓gX_Mp1, ↓gX_Mp2, ↓gX_Mp3, ↓gX_Mp4, ↓gX_Mp5, ↓gX_Pr0, ↓gX_Pr1, ↓gX_Pr2, ↓gX_Pr3, ↓gX_Pr4, ↓gX_La0, ↓gX_La1, ↓gX_La2, ↓gX_Li0, ↓gX_Li1, ↓gX_Li2, ↓gX_Li3, ↓gX_Li4, ↓gX_Li5, ↓gX_Rd0, ↓gX_Tp0, ↓gX_St0, ↓gX_St1, ↓gX_St2, ↓gX_St3, ↓gX_Ac0, ↓gX_Ac1, ↓gX_Ac2, ↓gX_Ac3, ↓gX_Ta0, ↓gX_Op0, ↓gX_Op1, ↓gX_Ob0, ↓gX_He0, ↓gX_He1, ↓gX_Md8, ↓gX_Md9, ↓gX_Md10, ↓gX_Md11, ↓gX_Md12, ↓gX_Md13, ↓gX_Md14, ↓gX_Md15, ↓gX_Md16, ↓gX_Md17, ↓gX_Md18, ↓gX_Md19, ↓gX_Md20, ↓gX_Md21, ↓gX_Md22, ↓gX_Md23, ↓gX_Md24, ↓gX_Md25, ↓gX_Md26, ↓gX_Md27, ↓gX_Md28, ↓gX_Md29, ↓gX_Md30, ↓gX_Md31, ↓gX_Md32, ↓gX_Md35, ↓gX_Md36, ↓gX_Md37, ↓gX_Md38, ↓gX_Md39, ↓gX_Md40, ↓gX_Md41, ↓gX_Md42, ↓gX_Md43, ↓gX_Md44, ↓gX_Md45, ↓gX_Md46, ↓gX_Md57, ↓gX_Md58, ↓gX_Md59, ↓gX_Md60, ↓gX_Md61, ↓gX_Md62, ↓gX_Md63, ↓gX_Md64, ↓gX_Md65, ↓gX_Md66, ↓gX_Md67, ↓gX_Md68, ↓gX_Md69, ↓gX_Md70, ↓gX_Md71, ↓gX_Md72, ↓gX_Md77, ↓gX_Md78, ↓gX_Md79, ↓aI_w, ↓qI_w, ↓aI_s0, ↓qI_s0, ↓aI_s1, ↓qI_s1, ↓aI_s2, ↓qI_s2, ↓aI_s3, ↓qI_s3, ↓aI_a0, ↓qI_a0, ↓aI_a1, ↓qI_a1, ↓aI_a2, ↓qI_a2, ↓aI_a3, ↓qI_a3, ↓aI_l0, ↓qI_l0, ↓aI_l1, ↓qI_l1, ↓aI_l2, ↓qI_l2, ↓aI_is, ↓qI_is, ↓aI_ar, ↓qI_ar, ↓aI_ob, ↓qI_ob, ↓aI_hw, ↓qI_hw, ↓aI_ho, ↓qI_ho, ↓aI_rd, ↓qI_rd, ↓aI_tp, ↓qI_tp, ↓aI_m1, ↓qI_m1, ↓aI_m2, ↓qI_m2, ↓aI_m3, ↓qI_m3, ↓aI_m4, ↓qI_m4, ↓aI_m5, ↓qI_m5, ↓aI_m6, ↓qI_m6, ↓aI_m7, ↓qI_m7, ↓aI_m8, ↓qI_m8, ↓aI_m9, ↓qI_m9, ↓aI_m10, ↓qI_m10, ↓aI_m11, ↓qI_m11, ↓aI_m12, ↓qI_m12, ↓aI_m13, ↓qI_m13, ↓aI_m14, ↓qI_m14, ↓aI_m15, ↓qI_m15, ↓aI_m16, ↓qI_m16, ↓aI_m17, ↓qI_m17, ↓aI_m18, ↓qI_m18, ↓aI_m19, ↓qI_m19, ↓aI_m20, ↓qI_m20, ↓aI_m21, ↓qI_m21, ↓aI_m22, ↓qI_m22, ↓aI_m23, ↓qI_m23, ↓aI_m24, ↓qI_m24, ↓aI_m25, ↓qI_m25, ↓aI_m26, ↓qI_m26, ↓aI_m27, ↓qI_m27, ↓aI_m28, ↓qI_m28, ↓aI_m29, ↓qI_m29, ↓aI_m30, ↓qI_m30, ↓aI_m31, ↓qI_m31, ↓aI_m32, ↓qI_m32, ↓aI_m33, ↓qI_m33, ↓aI_m34, ↓qI_m34, ↓aI_m35, ↓qI_m35, ↓aI_m36, ↓qI_m36, ↓aI_m37, ↓qI_m37, ↓aI_m38, ↓qI_m38, ↓aI_m39, ↓qI_m39, ↓aI_m40, ↓qI_m40, ↓aI_m41, ↓qI_m41, ↓aI_m42, ↓qI_m42, ↓aI_m43, ↓qI_m43, ↓aI_m44, ↓qI_m44, ↓aI_m45, ↓qI_m45, ↓aI_m46, ↓qI_m46, ↓aI_m47, ↓qI_m47, ↓aI_m48, ↓qI_m48, ↓aI_m49, ↓qI_m49, ↓aI_m50, ↓qI_m50, ↓aI_m51, ↓qI_m51, ↓aI_m52, ↓qI_m52, ↓aI_m54, ↓qI_m54, ↓aI_m55, ↓qI_m55, ↓aZ_m53, ↓qZ_m53, ↓aZ_m56, ↓qZ_m56, ↓aX_3, ↓aX_4, ↓aX_5, ↓aX_6, ↓aX_324, ↓aX_325, ↓ai_0, ↓ai_1, ↓ai_2, ↓ai_3, ↓qi_0, ↓qi_1, ↓qi_2, ↓qi_3, ↓qi_4, ↓ly_qJ, ↓bd2_mk, ↓bdT_0, ↓bdC_0]
  | succ j ih =>
    intro k n h1 h2
    obtain ⟨n', rfl⟩ : ∃ n', n = n' + 1 := ⟨n - 1, by omega⟩
    have nle : ¬ nI cnt ≤ nI k := nI_ge (by omega) (by omega)
    obtain ⟨c1, c2, c3⟩ := hcs k (by omega)
    rw [fSt_next_2, nxC]
    simp (disch := first | with_reducible assumption | omega | (repeat (first | with_reducible assumption | with_reducible apply Ly_wI | with_reducible apply Ly_nx | with_reducible apply Ly_wJ | with_reducible apply Ly_fl))) only [h6, nle, c1, c2, c3, nI_1, ↓reduceIte, rd_s, rd_n, rd_nx, rd_wJ, t00, t10, t20, t30, ↓gI_Mp, ↓pI_Mp, ↓ck_Mp, ↓gI_Pr, ↓pI_Pr, ↓ck_Pr, ↓gI_La, ↓pI_La, ↓pZ_La, ↓ck_La, ↓gI_Li, ↓pI_Li, ↓ck_Li, ↓gI_Ky, ↓pI_Ky, ↓ck_Ky, ↓gI_Rd, ↓pI_Rd, ↓ck_Rd, ↓gI_Tp, ↓pI_Tp, ↓ck_Tp, ↓gI_St, ↓pI_St, ↓ck_St, ↓gI_Ac, ↓pI_Ac, ↓ck_Ac, ↓gI_Ta, ↓pI_Ta, ↓ck_Ta, ↓gI_Sp, ↓pI_Sp, ↓ck_Sp, ↓gI_Op, ↓pI_Op, ↓ck_Op, ↓gI_Oe, ↓pI_Oe, ↓ck_Oe, ↓gI_Ob, ↓pI_Ob, ↓ck_Ob, ↓gI_He, ↓pI_He, ↓pZ_He, ↓ck_He, ↓gI_En, ↓pI_En, ↓ck_En, ↓gI_Md, ↓pI_Md, ↓pZ_Md, ↓ck_Md, ↓gX_Mp0, ↓gX_Mp1, ↓gX_Mp2, ↓gX_Mp3, ↓gX_Mp4, ↓gX_Mp5, ↓gX_Pr0, ↓gX_Pr1, ↓gX_Pr2, ↓gX_Pr3, ↓gX_Pr4, ↓gX_La0, ↓gX_La1, ↓gX_La2, ↓gX_Li0, ↓gX_Li1, ↓gX_Li2, ↓gX_Li3, ↓gX_Li4, ↓gX_Li5, ↓gX_Rd0, ↓gX_Tp0, ↓gX_St0, ↓gX_St1, ↓gX_St2, ↓gX_St3, ↓gX_Ac0, ↓gX_Ac1, ↓gX_Ac2, ↓gX_Ac3, ↓gX_Ta0, ↓gX_Op0, ↓gX_Op1, ↓gX_Ob0, ↓gX_He0, ↓gX_He1, ↓gX_Md8, ↓gX_Md9, ↓gX_Md10, ↓gX_Md11, ↓gX_Md12, ↓gX_Md13, ↓gX_Md14, ↓gX_Md15, ↓gX_Md16, ↓gX_Md17, ↓gX_Md18, ↓gX_Md19, ↓gX_Md20, ↓gX_Md21, ↓gX_Md22, ↓gX_Md23, ↓gX_Md24, ↓gX_Md25, ↓gX_Md26, ↓gX_Md27, ↓gX_Md28, ↓gX_Md29, ↓gX_Md30, ↓gX_Md31, ↓gX_Md32, ↓gX_Md35, ↓gX_Md36, ↓gX_Md37, ↓gX_Md38, ↓gX_Md39, ↓gX_Md40, ↓gX_Md41, ↓gX_Md42, ↓gX_Md43, ↓gX_Md44, ↓gX_Md45, ↓gX_Md46, ↓gX_Md57, ↓gX_Md58, ↓gX_Md59, ↓gX_Md60, ↓gX_Md61, ↓gX_Md62, ↓gX_Md63, ↓gX_Md64, ↓gX_Md65, ↓gX_Md66, ↓gX_Md67, ↓gX_Md68, ↓gX_Md69, ↓gX_Md70, ↓gX_Md71, ↓gX_Md72, ↓gX_Md77, ↓gX_Md78, ↓gX_Md79, ↓aI_w, ↓qI_w, ↓aI_s0, ↓qI_s0, ↓aI_s1, ↓qI_s1, ↓aI_s2, ↓qI_s2, ↓aI_s3, ↓qI_s3, ↓aI_a0, ↓qI_a0, ↓aI_a1, ↓qI_a1, ↓aI_a2, ↓qI_a2, ↓aI_a3, ↓qI_a3, ↓aI_l0, ↓qI_l0, ↓aI_l1, ↓qI_l1, ↓aI_l2, ↓qI_l2, ↓aI_is, ↓qI_is, ↓aI_ar, ↓qI_ar, ↓aI_ob, ↓qI_ob, ↓aI_hw, ↓qI_hw, ↓aI_ho, ↓qI_ho, ↓aI_rd, ↓qI_rd, ↓aI_tp, ↓qI_tp, ↓aI_m1, ↓qI_m1, ↓aI_m2, ↓qI_m2, ↓aI_m3, ↓qI_m3, ↓aI_m4, ↓qI_m4, ↓aI_m5, ↓qI_m5, ↓aI_m6, ↓qI_m6, ↓aI_m7, ↓qI_m7, ↓aI_m8, ↓qI_m8, ↓aI_m9, ↓qI_m9, ↓aI_m10, ↓qI_m10, ↓aI_m11, ↓qI_m11, ↓aI_m12, ↓qI_m12, ↓aI_m13, ↓qI_m13, ↓aI_m14, ↓qI_m14, ↓aI_m15, ↓qI_m15, ↓aI_m16, ↓qI_m16, ↓aI_m17, ↓qI_m17, ↓aI_m18, ↓qI_m18, ↓aI_m19, ↓qI_m19, ↓aI_m20, ↓qI_m20, ↓aI_m21, ↓qI_m21, ↓aI_m22, ↓qI_m22, ↓aI_m23, ↓qI_m23, ↓aI_m24, ↓qI_m24, ↓aI_m25, ↓qI_m25, ↓aI_m26, ↓qI_m26, ↓aI_m27, ↓qI_m27, ↓aI_m28, ↓qI_m28, ↓aI_m29, ↓qI_m29, ↓aI_m30, ↓qI_m30, ↓aI_m31, ↓qI_m31, ↓aI_m32, ↓qI_m32, ↓aI_m33, ↓qI_m33, ↓aI_m34, ↓qI_m34, ↓aI_m35, ↓qI_m35, ↓aI_m36, ↓qI_m36, ↓aI_m37, ↓qI_m37, ↓aI_m38, ↓qI_m38, ↓aI_m39, ↓qI_m39, ↓aI_m40, ↓qI_m40, ↓aI_m41, ↓qI_m41, ↓aI_m42, ↓qI_m42, ↓aI_m43, ↓qI_m43, ↓aI_m44, ↓qI_m44, ↓aI_m45, ↓qI_m45, ↓aI_m46, ↓qI_m46, ↓aI_m47, ↓qI_m47, ↓aI_m48, ↓qI_m48, ↓aI_m49, ↓qI_m49, ↓aI_m50, ↓qI_m50, ↓aI_m51, ↓qI_m51, ↓aI_m52, ↓qI_m52, ↓aI_m54, ↓qI_m54, ↓aI_m55, ↓qI_m55, ↓aZ_m53, ↓qZ_m53, ↓aZ_m56, ↓qZ_m56, ↓aX_3, ↓aX_4, ↓aX_5, ↓aX_6, ↓aX_324, ↓aX_325, ↓ai_0, ↓ai_1, ↓ai_2, ↓ai_3, ↓qi_0, ↓qi_1, ↓qi_2, ↓qi_3, ↓qi_4, ↓ly_qJ, ↓bd2_mk, ↓bdT_0, ↓bdC_0]
    by_cases d : ((x ^^^ v 898 (4 * s + k)) &&& v 899 (4 * s + k)) = 0
    · rw [if_pos d, if_pos d]
    · rw [if_neg d, if_neg d]
      exact ih (k + 1) n' (by omega) (by omega)
theorem in2 {a : Int32} (h : a = -2) : ¬ a = -1 ∧ a < 0 := by subst h; exact ⟨by decide, by decide⟩
/-- the class's reading is rdP -/
theorem reads_l {o h pl nf ns na nt np m : Nat} {v0 : Nat → Nat → Int32} {rk : Nat → Nat} (hh : h < 16) (hpl : pl < 128) (hm : m ≤ 60) (hp : PR v0 nf ns na nt np) (hW : WY v0 ns rk) (hby : v0 (328 + 4 * pl) 2 = nI m) :
    ∀ N k n a r S, k + N = 136 → N < n → Ly o S → (∀ c k, ¬ hdC h c k → V o S c k = v0 c k) → RHc (V o S) h r → RSk (wdv v0) nf m r → aOK2 ns a → ∀ R, rdP v0 (cb v0 (331 + 4 * pl)) m N a r = some R →
      ∃ S1, FrH o S S1 h ∧ ((R = none ∧ fHe_reads_10 n (o + (840 + 3 * h)) (o + 2) (o + (328 + 4 * pl)) 136 a (nI k) S = some (0, S1)) ∨ ∃ r', R = some r' ∧ RHc (V o S1) h r' ∧ RSk (wdv v0) nf m r' ∧ fHe_reads_10 n (o + (840 + 3 * h)) (o + 2) (o + (328 + 4 * pl)) 136 a (nI k) S = some (1, S1)) := by
  have hp0 := hp
  obtain ⟨⟨b1, b2, b3, b4, b5⟩, _, ⟨n6, _⟩, _, _, _, hF, hSt, _, _, _⟩ := hp
  intro N
  induction N with
  | zero =>
    intro k n a r S h1 h2 hL hB hR hK ha R e
    obtain ⟨n', rfl⟩ : ∃ n', n = n' + 1 := ⟨n - 1, by omega⟩
    rw [rdP] at e
    have le : (136 : Int32) ≤ nI k := nI_le (a := 136) (by omega) (by omega)
    refine ⟨S, FrH_id hL, ?_⟩
    rw [fHe_reads_10, if_pos le]
    unfold fHe_reads_92
    by_cases c1 : a = -1
    · rw [if_pos c1] at e
      rw [if_pos c1]
      exact Or.inr ⟨r, (Option.some.inj e).symm, hR, hK, rfl⟩
    · rw [if_neg c1] at e
      rw [if_neg c1]
      by_cases c2 : a = -2
      · rw [if_pos c2] at e
        exact Or.inl ⟨(Option.some.inj e).symm, rfl⟩
      · rw [if_neg c2] at e; cases e
  | succ N ih =>
    intro k n a r S h1 h2 hL hB hR hK ha R e
    obtain ⟨n', rfl⟩ : ∃ n', n = n' + 1 := ⟨n - 1, by omega⟩
    rw [rdP] at e
    have nle : ¬ (136 : Int32) ≤ nI k := nI_ge (b := 136) (by omega) (by omega)
    rw [fHe_reads_10, if_neg nle]
    rcases ha with c | c | ⟨s, s1, c⟩
    · rw [if_neg (in2 c).1, if_pos c] at e
      refine ⟨S, FrH_id hL, Or.inl ⟨(Option.some.inj e).symm, ?_⟩⟩
      rw [if_pos (in2 c).2]
      unfold fHe_reads_92
      rw [if_neg (in2 c).1]
    · rw [if_pos c] at e
      refine ⟨S, FrH_id hL, Or.inr ⟨r, (Option.some.inj e).symm, hR, hK, ?_⟩⟩
      rw [if_pos (by rw [c]; decide)]
      unfold fHe_reads_92
      rw [if_pos c]
    · have s8 : s < 8 := by omega
      have a0 : ¬ a < 0 := by rw [c]; exact nI_pos (by omega)
      have a2 : ¬ a = -2 := fun q => a0 (in2 q).2
      have a1 : ¬ a = -1 := by rw [c]; exact nN1 (by omega)
      rw [if_neg a1, if_neg a2] at e
      rw [if_neg a0]
      obtain ⟨⟨cnt, t1, t2, t3, t4⟩, ⟨o1, o2⟩, ⟨cc, u1, u2', u3, u4⟩, d1, d2⟩ := hSt s s1
      have ecl : cl a = s := by rw [c, cl_n (by omega)]
      rw [ecl] at e
      have en : nTs v0 s = cnt := by unfold nTs; rw [t2, cl_n (by omega)]
      rw [en] at e
      have hS : ∀ c k, ¬ hdC h c k → sI S (o + c) k = v0 c k := hB
      have r6 : sI S (o + 2) 6 = nI ns := by rw [hS _ _ (by unfold hdC; omega)]; exact n6
      have lt : ¬ nI ns ≤ nI s := nI_ge s1 (by omega)
      obtain ⟨S1, F1, T⟩ := tf_l (o := o) (fl := flS v0 s) hh s8 hpl b1 hm hF t1 t2 (fun k hk => ⟨(t3 k hk).1, by unfold flS; rw [(t3 k hk).2]⟩) hby cnt 0 fuel r S (by omega) (by unfold fuel; omega) hL hB hR hK
      have hB1 : ∀ c k, ¬ hdC h c k → V o S1 c k = v0 c k := fun c k w => by rw [F1.2.2.2 c k w]; exact hB c k w
      have hS1 : ∀ c k, ¬ hdC h c k → sI S1 (o + c) k = v0 c k := hB1
      have hL1 := F1.1
      rw [c]
      rcases T with ⟨T1, T2⟩ | ⟨r', T1, T2, T3⟩
      · rw [T1] at e
        have T2' : fHe_takesFields (o + (840 + 3 * h)) (o + (8 + 5 * s)) (o + 2) (o + (328 + 4 * pl)) S = some (0, S1) := T2
        refine ⟨S1, F1, Or.inl ⟨(Option.some.inj e).symm, ?_⟩⟩
        simp (disch := first | with_reducible assumption | omega | (repeat (first | with_reducible assumption | with_reducible apply Ly_wI | with_reducible apply Ly_nx | with_reducible apply Ly_wJ | with_reducible apply Ly_fl))) only [r6, lt, T2', bd2_mk, ↓reduceIte, rd_s, rd_n, rd_nx, rd_wJ, t00, t10, t20, t30, ↓gI_Mp, ↓pI_Mp, ↓ck_Mp, ↓gI_Pr, ↓pI_Pr, ↓ck_Pr, ↓gI_La, ↓pI_La, ↓pZ_La, ↓ck_La, ↓gI_Li, ↓pI_Li, ↓ck_Li, ↓gI_Ky, ↓pI_Ky, ↓ck_Ky, ↓gI_Rd, ↓pI_Rd, ↓ck_Rd, ↓gI_Tp, ↓pI_Tp, ↓ck_Tp, ↓gI_St, ↓pI_St, ↓ck_St, ↓gI_Ac, ↓pI_Ac, ↓ck_Ac, ↓gI_Ta, ↓pI_Ta, ↓ck_Ta, ↓gI_Sp, ↓pI_Sp, ↓ck_Sp, ↓gI_Op, ↓pI_Op, ↓ck_Op, ↓gI_Oe, ↓pI_Oe, ↓ck_Oe, ↓gI_Ob, ↓pI_Ob, ↓ck_Ob, ↓gI_He, ↓pI_He, ↓pZ_He, ↓ck_He, ↓gI_En, ↓pI_En, ↓ck_En, ↓gI_Md, ↓pI_Md, ↓pZ_Md, ↓ck_Md, ↓gX_Mp0, ↓gX_Mp1, ↓gX_Mp2, ↓gX_Mp3, ↓gX_Mp4, ↓gX_Mp5, ↓gX_Pr0, ↓gX_Pr1, ↓gX_Pr2, ↓gX_Pr3, ↓gX_Pr4, ↓gX_La0, ↓gX_La1, ↓gX_La2, ↓gX_Li0, ↓gX_Li1, ↓gX_Li2, ↓gX_Li3, ↓gX_Li4, ↓gX_Li5, ↓gX_Rd0, ↓gX_Tp0, ↓gX_St0, ↓gX_St1, ↓gX_St2, ↓gX_St3, ↓gX_Ac0, ↓gX_Ac1, ↓gX_Ac2, ↓gX_Ac3, ↓gX_Ta0, ↓gX_Op0, ↓gX_Op1, ↓gX_Ob0, ↓gX_He0, ↓gX_He1, ↓gX_Md8, ↓gX_Md9, ↓gX_Md10, ↓gX_Md11, ↓gX_Md12, ↓gX_Md13, ↓gX_Md14, ↓gX_Md15, ↓gX_Md16, ↓gX_Md17, ↓gX_Md18, ↓gX_Md19, ↓gX_Md20, ↓gX_Md21, ↓gX_Md22, ↓gX_Md23, ↓gX_Md24, ↓gX_Md25, ↓gX_Md26, ↓gX_Md27, ↓gX_Md28, ↓gX_Md29, ↓gX_Md30, ↓gX_Md31, ↓gX_Md32, ↓gX_Md35, ↓gX_Md36, ↓gX_Md37, ↓gX_Md38, ↓gX_Md39, ↓gX_Md40, ↓gX_Md41, ↓gX_Md42, ↓gX_Md43, ↓gX_Md44, ↓gX_Md45, ↓gX_Md46, ↓gX_Md57, ↓gX_Md58, ↓gX_Md59, ↓gX_Md60, ↓gX_Md61, ↓gX_Md62, ↓gX_Md63, ↓gX_Md64, ↓gX_Md65, ↓gX_Md66, ↓gX_Md67, ↓gX_Md68, ↓gX_Md69, ↓gX_Md70, ↓gX_Md71, ↓gX_Md72, ↓gX_Md77, ↓gX_Md78, ↓gX_Md79, ↓aI_w, ↓qI_w, ↓aI_s0, ↓qI_s0, ↓aI_s1, ↓qI_s1, ↓aI_s2, ↓qI_s2, ↓aI_s3, ↓qI_s3, ↓aI_a0, ↓qI_a0, ↓aI_a1, ↓qI_a1, ↓aI_a2, ↓qI_a2, ↓aI_a3, ↓qI_a3, ↓aI_l0, ↓qI_l0, ↓aI_l1, ↓qI_l1, ↓aI_l2, ↓qI_l2, ↓aI_is, ↓qI_is, ↓aI_ar, ↓qI_ar, ↓aI_ob, ↓qI_ob, ↓aI_hw, ↓qI_hw, ↓aI_ho, ↓qI_ho, ↓aI_rd, ↓qI_rd, ↓aI_tp, ↓qI_tp, ↓aI_m1, ↓qI_m1, ↓aI_m2, ↓qI_m2, ↓aI_m3, ↓qI_m3, ↓aI_m4, ↓qI_m4, ↓aI_m5, ↓qI_m5, ↓aI_m6, ↓qI_m6, ↓aI_m7, ↓qI_m7, ↓aI_m8, ↓qI_m8, ↓aI_m9, ↓qI_m9, ↓aI_m10, ↓qI_m10, ↓aI_m11, ↓qI_m11, ↓aI_m12, ↓qI_m12, ↓aI_m13, ↓qI_m13, ↓aI_m14, ↓qI_m14, ↓aI_m15, ↓qI_m15, ↓aI_m16, ↓qI_m16, ↓aI_m17, ↓qI_m17, ↓aI_m18, ↓qI_m18, ↓aI_m19, ↓qI_m19, ↓aI_m20, ↓qI_m20, ↓aI_m21, ↓qI_m21, ↓aI_m22, ↓qI_m22, ↓aI_m23, ↓qI_m23, ↓aI_m24, ↓qI_m24, ↓aI_m25, ↓qI_m25, ↓aI_m26, ↓qI_m26, ↓aI_m27, ↓qI_m27, ↓aI_m28, ↓qI_m28, ↓aI_m29, ↓qI_m29, ↓aI_m30, ↓qI_m30, ↓aI_m31, ↓qI_m31, ↓aI_m32, ↓qI_m32, ↓aI_m33, ↓qI_m33, ↓aI_m34, ↓qI_m34, ↓aI_m35, ↓qI_m35, ↓aI_m36, ↓qI_m36, ↓aI_m37, ↓qI_m37, ↓aI_m38, ↓qI_m38, ↓aI_m39, ↓qI_m39, ↓aI_m40, ↓qI_m40, ↓aI_m41, ↓qI_m41, ↓aI_m42, ↓qI_m42, ↓aI_m43, ↓qI_m43, ↓aI_m44, ↓qI_m44, ↓aI_m45, ↓qI_m45, ↓aI_m46, ↓qI_m46, ↓aI_m47, ↓qI_m47, ↓aI_m48, ↓qI_m48, ↓aI_m49, ↓qI_m49, ↓aI_m50, ↓qI_m50, ↓aI_m51, ↓qI_m51, ↓aI_m52, ↓qI_m52, ↓aI_m54, ↓qI_m54, ↓aI_m55, ↓qI_m55, ↓aZ_m53, ↓qZ_m53, ↓aZ_m56, ↓qZ_m56, ↓aX_3, ↓aX_4, ↓aX_5, ↓aX_6, ↓aX_324, ↓aX_325, ↓ai_0, ↓ai_1, ↓ai_2, ↓ai_3, ↓qi_0, ↓qi_1, ↓qi_2, ↓qi_3, ↓qi_4, ↓ly_qJ, ↓bd2_mk, ↓bdT_0, ↓bdC_0]
      · rw [T1] at e
        replace e : rdP v0 (cb v0 (331 + 4 * pl)) m N (nxt v0 s r'.w) r' = some R := e
        have T3' : fHe_takesFields (o + (840 + 3 * h)) (o + (8 + 5 * s)) (o + 2) (o + (328 + 4 * pl)) S = some (1, S1) := T3
        obtain ⟨K1, _⟩ := rdL_k b1 cnt 0 r r' (fun i w1 _ => by
          obtain ⟨f, f1, f2⟩ := (t3 i (by omega)).1
          unfold flS; rw [(t3 i (by omega)).2, f2, cl_n (by omega)]; exact f1) hK T1
        obtain ⟨S2, F2, G⟩ := ih (k + 1) n' (nxt v0 s r'.w) r' S1 (by omega) (by omega) hL1 hB1 T2 K1 (nxt_ok hW s1) R e
        have r5 : sI S1 (o + (8 + 5 * s)) 5 = v0 896 s := by rw [hS1 _ _ (by unfold hdC; omega)]; exact o1
        have r7 : sI S1 (o + (8 + 5 * s)) 7 = v0 901 s := by rw [hS1 _ _ (by unfold hdC; omega)]; exact d1
        have step : fHe_reads_10 (n' + 1) (o + (840 + 3 * h)) (o + 2) (o + (328 + 4 * pl)) 136 (nI s) (nI k) S = fHe_reads_10 n' (o + (840 + 3 * h)) (o + 2) (o + (328 + 4 * pl)) 136 (nxt v0 s r'.w) (nI (k + 1)) S1 := by
          rw [fHe_reads_10, if_neg nle, if_neg (by rw [← c]; exact a0)]
          unfold nxt
          rcases o2 with q | ⟨f, f1, f2⟩
          · rw [if_pos q]
            rw [q] at r5
            simp (disch := first | with_reducible assumption | omega | (repeat (first | with_reducible assumption | with_reducible apply Ly_wI | with_reducible apply Ly_nx | with_reducible apply Ly_wJ | with_reducible apply Ly_fl))) only [r6, lt, T3', bd2_mk, i10, r5, r7, nI_1, ↓reduceIte, rd_s, rd_n, rd_nx, rd_wJ, t00, t10, t20, t30, ↓gI_Mp, ↓pI_Mp, ↓ck_Mp, ↓gI_Pr, ↓pI_Pr, ↓ck_Pr, ↓gI_La, ↓pI_La, ↓pZ_La, ↓ck_La, ↓gI_Li, ↓pI_Li, ↓ck_Li, ↓gI_Ky, ↓pI_Ky, ↓ck_Ky, ↓gI_Rd, ↓pI_Rd, ↓ck_Rd, ↓gI_Tp, ↓pI_Tp, ↓ck_Tp, ↓gI_St, ↓pI_St, ↓ck_St, ↓gI_Ac, ↓pI_Ac, ↓ck_Ac, ↓gI_Ta, ↓pI_Ta, ↓ck_Ta, ↓gI_Sp, ↓pI_Sp, ↓ck_Sp, ↓gI_Op, ↓pI_Op, ↓ck_Op, ↓gI_Oe, ↓pI_Oe, ↓ck_Oe, ↓gI_Ob, ↓pI_Ob, ↓ck_Ob, ↓gI_He, ↓pI_He, ↓pZ_He, ↓ck_He, ↓gI_En, ↓pI_En, ↓ck_En, ↓gI_Md, ↓pI_Md, ↓pZ_Md, ↓ck_Md, ↓gX_Mp0, ↓gX_Mp1, ↓gX_Mp2, ↓gX_Mp3, ↓gX_Mp4, ↓gX_Mp5, ↓gX_Pr0, ↓gX_Pr1, ↓gX_Pr2, ↓gX_Pr3, ↓gX_Pr4, ↓gX_La0, ↓gX_La1, ↓gX_La2, ↓gX_Li0, ↓gX_Li1, ↓gX_Li2, ↓gX_Li3, ↓gX_Li4, ↓gX_Li5, ↓gX_Rd0, ↓gX_Tp0, ↓gX_St0, ↓gX_St1, ↓gX_St2, ↓gX_St3, ↓gX_Ac0, ↓gX_Ac1, ↓gX_Ac2, ↓gX_Ac3, ↓gX_Ta0, ↓gX_Op0, ↓gX_Op1, ↓gX_Ob0, ↓gX_He0, ↓gX_He1, ↓gX_Md8, ↓gX_Md9, ↓gX_Md10, ↓gX_Md11, ↓gX_Md12, ↓gX_Md13, ↓gX_Md14, ↓gX_Md15, ↓gX_Md16, ↓gX_Md17, ↓gX_Md18, ↓gX_Md19, ↓gX_Md20, ↓gX_Md21, ↓gX_Md22, ↓gX_Md23, ↓gX_Md24, ↓gX_Md25, ↓gX_Md26, ↓gX_Md27, ↓gX_Md28, ↓gX_Md29, ↓gX_Md30, ↓gX_Md31, ↓gX_Md32, ↓gX_Md35, ↓gX_Md36, ↓gX_Md37, ↓gX_Md38, ↓gX_Md39, ↓gX_Md40, ↓gX_Md41, ↓gX_Md42, ↓gX_Md43, ↓gX_Md44, ↓gX_Md45, ↓gX_Md46, ↓gX_Md57, ↓gX_Md58, ↓gX_Md59, ↓gX_Md60, ↓gX_Md61, ↓gX_Md62, ↓gX_Md63, ↓gX_Md64, ↓gX_Md65, ↓gX_Md66, ↓gX_Md67, ↓gX_Md68, ↓gX_Md69, ↓gX_Md70, ↓gX_Md71, ↓gX_Md72, ↓gX_Md77, ↓gX_Md78, ↓gX_Md79, ↓aI_w, ↓qI_w, ↓aI_s0, ↓qI_s0, ↓aI_s1, ↓qI_s1, ↓aI_s2, ↓qI_s2, ↓aI_s3, ↓qI_s3, ↓aI_a0, ↓qI_a0, ↓aI_a1, ↓qI_a1, ↓aI_a2, ↓qI_a2, ↓aI_a3, ↓qI_a3, ↓aI_l0, ↓qI_l0, ↓aI_l1, ↓qI_l1, ↓aI_l2, ↓qI_l2, ↓aI_is, ↓qI_is, ↓aI_ar, ↓qI_ar, ↓aI_ob, ↓qI_ob, ↓aI_hw, ↓qI_hw, ↓aI_ho, ↓qI_ho, ↓aI_rd, ↓qI_rd, ↓aI_tp, ↓qI_tp, ↓aI_m1, ↓qI_m1, ↓aI_m2, ↓qI_m2, ↓aI_m3, ↓qI_m3, ↓aI_m4, ↓qI_m4, ↓aI_m5, ↓qI_m5, ↓aI_m6, ↓qI_m6, ↓aI_m7, ↓qI_m7, ↓aI_m8, ↓qI_m8, ↓aI_m9, ↓qI_m9, ↓aI_m10, ↓qI_m10, ↓aI_m11, ↓qI_m11, ↓aI_m12, ↓qI_m12, ↓aI_m13, ↓qI_m13, ↓aI_m14, ↓qI_m14, ↓aI_m15, ↓qI_m15, ↓aI_m16, ↓qI_m16, ↓aI_m17, ↓qI_m17, ↓aI_m18, ↓qI_m18, ↓aI_m19, ↓qI_m19, ↓aI_m20, ↓qI_m20, ↓aI_m21, ↓qI_m21, ↓aI_m22, ↓qI_m22, ↓aI_m23, ↓qI_m23, ↓aI_m24, ↓qI_m24, ↓aI_m25, ↓qI_m25, ↓aI_m26, ↓qI_m26, ↓aI_m27, ↓qI_m27, ↓aI_m28, ↓qI_m28, ↓aI_m29, ↓qI_m29, ↓aI_m30, ↓qI_m30, ↓aI_m31, ↓qI_m31, ↓aI_m32, ↓qI_m32, ↓aI_m33, ↓qI_m33, ↓aI_m34, ↓qI_m34, ↓aI_m35, ↓qI_m35, ↓aI_m36, ↓qI_m36, ↓aI_m37, ↓qI_m37, ↓aI_m38, ↓qI_m38, ↓aI_m39, ↓qI_m39, ↓aI_m40, ↓qI_m40, ↓aI_m41, ↓qI_m41, ↓aI_m42, ↓qI_m42, ↓aI_m43, ↓qI_m43, ↓aI_m44, ↓qI_m44, ↓aI_m45, ↓qI_m45, ↓aI_m46, ↓qI_m46, ↓aI_m47, ↓qI_m47, ↓aI_m48, ↓qI_m48, ↓aI_m49, ↓qI_m49, ↓aI_m50, ↓qI_m50, ↓aI_m51, ↓qI_m51, ↓aI_m52, ↓qI_m52, ↓aI_m54, ↓qI_m54, ↓aI_m55, ↓qI_m55, ↓aZ_m53, ↓qZ_m53, ↓aZ_m56, ↓qZ_m56, ↓aX_3, ↓aX_4, ↓aX_5, ↓aX_6, ↓aX_324, ↓aX_325, ↓ai_0, ↓ai_1, ↓ai_2, ↓ai_3, ↓qi_0, ↓qi_1, ↓qi_2, ↓qi_3, ↓qi_4, ↓ly_qJ, ↓bd2_mk, ↓bdT_0, ↓bdC_0]
          · have nf1 : ¬ nI f = -1 := nN1 (by omega)
            rw [if_neg (by rw [f2]; exact nf1), f2, cl_n (by omega)]
            rw [f2] at r5
            have rx : sI S1 (o + (841 + 3 * h)) f = r'.w f := T2.1 f (by omega)
            have ec : cl (v0 897 s) = cc := by rw [u3, cl_n (by omega)]
            rw [ec]
            have NX := next_l (x := r'.w f) (v := v0) hL1 s8 u1 (by rw [hS1 _ _ (by unfold hdC; omega)]; exact u2') r7 (fun k hk => ⟨by rw [hS1 _ _ (by unfold hdC; omega)]; exact (u4 k hk).1, by rw [hS1 _ _ (by unfold hdC; omega)]; exact (u4 k hk).2.1, by rw [hS1 _ _ (by unfold hdC; omega)]; exact (u4 k hk).2.2.1⟩) cc 0 fuel (by omega) (by unfold fuel; omega)
            have NX' : fSt_next (o + (8 + 5 * s)) (r'.w f) S1 = some (nxC v0 s (r'.w f) cc 0, S1) := NX
            simp (disch := first | with_reducible assumption | omega | (repeat (first | with_reducible assumption | with_reducible apply Ly_wI | with_reducible apply Ly_nx | with_reducible apply Ly_wJ | with_reducible apply Ly_fl))) only [r6, lt, T3', bd2_mk, i10, r5, nf1, rx, NX', nI_1, ↓reduceIte, rd_s, rd_n, rd_nx, rd_wJ, t00, t10, t20, t30, ↓gI_Mp, ↓pI_Mp, ↓ck_Mp, ↓gI_Pr, ↓pI_Pr, ↓ck_Pr, ↓gI_La, ↓pI_La, ↓pZ_La, ↓ck_La, ↓gI_Li, ↓pI_Li, ↓ck_Li, ↓gI_Ky, ↓pI_Ky, ↓ck_Ky, ↓gI_Rd, ↓pI_Rd, ↓ck_Rd, ↓gI_Tp, ↓pI_Tp, ↓ck_Tp, ↓gI_St, ↓pI_St, ↓ck_St, ↓gI_Ac, ↓pI_Ac, ↓ck_Ac, ↓gI_Ta, ↓pI_Ta, ↓ck_Ta, ↓gI_Sp, ↓pI_Sp, ↓ck_Sp, ↓gI_Op, ↓pI_Op, ↓ck_Op, ↓gI_Oe, ↓pI_Oe, ↓ck_Oe, ↓gI_Ob, ↓pI_Ob, ↓ck_Ob, ↓gI_He, ↓pI_He, ↓pZ_He, ↓ck_He, ↓gI_En, ↓pI_En, ↓ck_En, ↓gI_Md, ↓pI_Md, ↓pZ_Md, ↓ck_Md, ↓gX_Mp0, ↓gX_Mp1, ↓gX_Mp2, ↓gX_Mp3, ↓gX_Mp4, ↓gX_Mp5, ↓gX_Pr0, ↓gX_Pr1, ↓gX_Pr2, ↓gX_Pr3, ↓gX_Pr4, ↓gX_La0, ↓gX_La1, ↓gX_La2, ↓gX_Li0, ↓gX_Li1, ↓gX_Li2, ↓gX_Li3, ↓gX_Li4, ↓gX_Li5, ↓gX_Rd0, ↓gX_Tp0, ↓gX_St0, ↓gX_St1, ↓gX_St2, ↓gX_St3, ↓gX_Ac0, ↓gX_Ac1, ↓gX_Ac2, ↓gX_Ac3, ↓gX_Ta0, ↓gX_Op0, ↓gX_Op1, ↓gX_Ob0, ↓gX_He0, ↓gX_He1, ↓gX_Md8, ↓gX_Md9, ↓gX_Md10, ↓gX_Md11, ↓gX_Md12, ↓gX_Md13, ↓gX_Md14, ↓gX_Md15, ↓gX_Md16, ↓gX_Md17, ↓gX_Md18, ↓gX_Md19, ↓gX_Md20, ↓gX_Md21, ↓gX_Md22, ↓gX_Md23, ↓gX_Md24, ↓gX_Md25, ↓gX_Md26, ↓gX_Md27, ↓gX_Md28, ↓gX_Md29, ↓gX_Md30, ↓gX_Md31, ↓gX_Md32, ↓gX_Md35, ↓gX_Md36, ↓gX_Md37, ↓gX_Md38, ↓gX_Md39, ↓gX_Md40, ↓gX_Md41, ↓gX_Md42, ↓gX_Md43, ↓gX_Md44, ↓gX_Md45, ↓gX_Md46, ↓gX_Md57, ↓gX_Md58, ↓gX_Md59, ↓gX_Md60, ↓gX_Md61, ↓gX_Md62, ↓gX_Md63, ↓gX_Md64, ↓gX_Md65, ↓gX_Md66, ↓gX_Md67, ↓gX_Md68, ↓gX_Md69, ↓gX_Md70, ↓gX_Md71, ↓gX_Md72, ↓gX_Md77, ↓gX_Md78, ↓gX_Md79, ↓aI_w, ↓qI_w, ↓aI_s0, ↓qI_s0, ↓aI_s1, ↓qI_s1, ↓aI_s2, ↓qI_s2, ↓aI_s3, ↓qI_s3, ↓aI_a0, ↓qI_a0, ↓aI_a1, ↓qI_a1, ↓aI_a2, ↓qI_a2, ↓aI_a3, ↓qI_a3, ↓aI_l0, ↓qI_l0, ↓aI_l1, ↓qI_l1, ↓aI_l2, ↓qI_l2, ↓aI_is, ↓qI_is, ↓aI_ar, ↓qI_ar, ↓aI_ob, ↓qI_ob, ↓aI_hw, ↓qI_hw, ↓aI_ho, ↓qI_ho, ↓aI_rd, ↓qI_rd, ↓aI_tp, ↓qI_tp, ↓aI_m1, ↓qI_m1, ↓aI_m2, ↓qI_m2, ↓aI_m3, ↓qI_m3, ↓aI_m4, ↓qI_m4, ↓aI_m5, ↓qI_m5, ↓aI_m6, ↓qI_m6, ↓aI_m7, ↓qI_m7, ↓aI_m8, ↓qI_m8, ↓aI_m9, ↓qI_m9, ↓aI_m10, ↓qI_m10, ↓aI_m11, ↓qI_m11, ↓aI_m12, ↓qI_m12, ↓aI_m13, ↓qI_m13, ↓aI_m14, ↓qI_m14, ↓aI_m15, ↓qI_m15, ↓aI_m16, ↓qI_m16, ↓aI_m17, ↓qI_m17, ↓aI_m18, ↓qI_m18, ↓aI_m19, ↓qI_m19, ↓aI_m20, ↓qI_m20, ↓aI_m21, ↓qI_m21, ↓aI_m22, ↓qI_m22, ↓aI_m23, ↓qI_m23, ↓aI_m24, ↓qI_m24, ↓aI_m25, ↓qI_m25, ↓aI_m26, ↓qI_m26, ↓aI_m27, ↓qI_m27, ↓aI_m28, ↓qI_m28, ↓aI_m29, ↓qI_m29, ↓aI_m30, ↓qI_m30, ↓aI_m31, ↓qI_m31, ↓aI_m32, ↓qI_m32, ↓aI_m33, ↓qI_m33, ↓aI_m34, ↓qI_m34, ↓aI_m35, ↓qI_m35, ↓aI_m36, ↓qI_m36, ↓aI_m37, ↓qI_m37, ↓aI_m38, ↓qI_m38, ↓aI_m39, ↓qI_m39, ↓aI_m40, ↓qI_m40, ↓aI_m41, ↓qI_m41, ↓aI_m42, ↓qI_m42, ↓aI_m43, ↓qI_m43, ↓aI_m44, ↓qI_m44, ↓aI_m45, ↓qI_m45, ↓aI_m46, ↓qI_m46, ↓aI_m47, ↓qI_m47, ↓aI_m48, ↓qI_m48, ↓aI_m49, ↓qI_m49, ↓aI_m50, ↓qI_m50, ↓aI_m51, ↓qI_m51, ↓aI_m52, ↓qI_m52, ↓aI_m54, ↓qI_m54, ↓aI_m55, ↓qI_m55, ↓aZ_m53, ↓qZ_m53, ↓aZ_m56, ↓qZ_m56, ↓aX_3, ↓aX_4, ↓aX_5, ↓aX_6, ↓aX_324, ↓aX_325, ↓ai_0, ↓ai_1, ↓ai_2, ↓ai_3, ↓qi_0, ↓qi_1, ↓qi_2, ↓qi_3, ↓qi_4, ↓ly_qJ, ↓bd2_mk, ↓bdT_0, ↓bdC_0]
        refine ⟨S2, FrH_tr F1 F2, ?_⟩
        have st2 := step
        rw [fHe_reads_10, if_neg nle, if_neg (by rw [← c]; exact a0)] at st2
        rw [st2]
        exact G
