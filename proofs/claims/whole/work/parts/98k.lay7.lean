/-! the component's plan -/
def wf (w : Int32 × Int32) (k : Int32) (x : Option Nat) : Int32 × Int32 := if w.1 ≤ 0 then (match x with | none => w | some p => (k, nI p)) else w
theorem wf_p {w : Int32 × Int32} {k : Int32} {x : Option Nat} (h : ¬ w.1 ≤ 0) : wf w k x = w := by unfold wf; rw [if_neg h]
theorem wf_n {w : Int32 × Int32} {k : Int32} : wf w k none = w := by unfold wf; split <;> rfl
theorem wf_s {w : Int32 × Int32} {k : Int32} {p : Nat} (h : w.1 ≤ 0) : wf w k (some p) = (k, nI p) := by unfold wf; rw [if_pos h]
theorem wf_q {k y j : Int32} {x : Option Nat} (h : ¬ k ≤ 0) : wf (k, y) j x = (k, y) := wf_p (w := (k, y)) h
def plO (x : Option Nat) (a : Option Sx) (f : Nat → Option Sx) : Option Sx := match x with | none => a | some p => f p
/-- what is wrong, and where: of six that may be -/
def chn (a1 a2 a3 a4 a5 a6 : Option Nat) : Int32 × Int32 := wf (wf (wf (wf (wf (wf (0, -1) 1 a1) 2 a2) 3 a3) 4 a4) 5 a5) 6 a6
theorem ch0 : chn none none none none none none = (0, -1) := by unfold chn; rw [wf_n, wf_n, wf_n, wf_n, wf_n, wf_n]
theorem ch6 {p : Nat} : chn none none none none none (some p) = (6, nI p) := by unfold chn; rw [wf_n, wf_n, wf_n, wf_n, wf_n, wf_s (by decide)]
theorem ch5 {p : Nat} {x : Option Nat} : chn none none none none (some p) x = (5, nI p) := by unfold chn; rw [wf_n, wf_n, wf_n, wf_n, wf_s (by decide), wf_q (k := 5) (y := nI p) (j := 6) (by decide)]
theorem ch4 {p : Nat} {y x : Option Nat} : chn none none none (some p) y x = (4, nI p) := by unfold chn; rw [wf_n, wf_n, wf_n, wf_s (by decide), wf_q (k := 4) (y := nI p) (j := 5) (by decide), wf_q (k := 4) (y := nI p) (j := 6) (by decide)]
theorem ch3 {p : Nat} {z y x : Option Nat} : chn none none (some p) z y x = (3, nI p) := by unfold chn; rw [wf_n, wf_n, wf_s (by decide), wf_q (k := 3) (y := nI p) (j := 4) (by decide), wf_q (k := 3) (y := nI p) (j := 5) (by decide), wf_q (k := 3) (y := nI p) (j := 6) (by decide)]
theorem ch2 {p : Nat} {w z y x : Option Nat} : chn none (some p) w z y x = (2, nI p) := by unfold chn; rw [wf_n, wf_s (by decide), wf_q (k := 2) (y := nI p) (j := 3) (by decide), wf_q (k := 2) (y := nI p) (j := 4) (by decide), wf_q (k := 2) (y := nI p) (j := 5) (by decide), wf_q (k := 2) (y := nI p) (j := 6) (by decide)]
theorem ch1 {p : Nat} {u w z y x : Option Nat} : chn (some p) u w z y x = (1, nI p) := by unfold chn; rw [wf_s (by decide), wf_q (k := 1) (y := nI p) (j := 2) (by decide), wf_q (k := 1) (y := nI p) (j := 3) (by decide), wf_q (k := 1) (y := nI p) (j := 4) (by decide), wf_q (k := 1) (y := nI p) (j := 5) (by decide), wf_q (k := 1) (y := nI p) (j := 6) (by decide)]
theorem plO_n {a : Option Sx} {f : Nat → Option Sx} : plO none a f = a := rfl
theorem plO_s {a : Option Sx} {f : Nat → Option Sx} {p : Nat} : plO (some p) a f = f p := rfl
theorem pl_st {o k m n : Nat} {kk kq : Int32} {x : Option Nat} {S S1 : Sx} (hn : n = m + 1) (hkk : kk = nI k) (hkq : kq = nI (k + 1)) (hx : ∀ p, x = some p → p < 1000) (hk : k ≤ 6) (hL : Ly o S) (hL1 : Ly o S1) (hf : fLa_placeOfFault (o + 320) kk (o + 2) S = some (fI x, S1)) : fLa_plan_6 n (o + 320) (o + 2) kk S = plO x (fLa_plan_6 m (o + 320) (o + 2) kq S1) (fun p => some (wI (wI S1 (o + 320) 5 kk) (o + 320) 6 (nI p))) := by
  subst hn hkk hkq
  have nl : ¬ (6 : Int32) < nI k := nI_nl (a := 6) (by omega) (by omega)
  rw [fLa_plan_6]
  cases x with
  | none =>
    have hf' : fLa_placeOfFault (o + 320) (nI k) (o + 2) S = some (-1, S1) := hf
    simp (disch := first | with_reducible assumption | omega | (repeat (first | with_reducible assumption | with_reducible apply Ly_wI | with_reducible apply Ly_nx | with_reducible apply Ly_wJ | with_reducible apply Ly_fl))) only [nl, ↓bdO hf', nI_1, ↓reduceIte, rd_s, rd_n, rd_nx, rd_wJ, t00, t10, t20, t30, ↓gI_Mp, ↓pI_Mp, ↓ck_Mp, ↓gI_Pr, ↓pI_Pr, ↓ck_Pr, ↓gI_La, ↓pI_La, ↓pZ_La, ↓ck_La, ↓gI_Li, ↓pI_Li, ↓ck_Li, ↓gI_Ky, ↓pI_Ky, ↓ck_Ky, ↓gI_Rd, ↓pI_Rd, ↓ck_Rd, ↓gI_Tp, ↓pI_Tp, ↓ck_Tp, ↓gI_St, ↓pI_St, ↓ck_St, ↓gI_Ac, ↓pI_Ac, ↓ck_Ac, ↓gI_Ta, ↓pI_Ta, ↓ck_Ta, ↓gI_Sp, ↓pI_Sp, ↓ck_Sp, ↓gI_Op, ↓pI_Op, ↓ck_Op, ↓gI_Oe, ↓pI_Oe, ↓ck_Oe, ↓gI_Ob, ↓pI_Ob, ↓ck_Ob, ↓gI_He, ↓pI_He, ↓pZ_He, ↓ck_He, ↓gI_En, ↓pI_En, ↓ck_En, ↓gI_Md, ↓pI_Md, ↓pZ_Md, ↓ck_Md, ↓gX_Mp0, ↓gX_Mp1, ↓gX_Mp2, ↓gX_Mp3, ↓gX_Mp4, ↓gX_Mp5, ↓gX_Pr0, ↓gX_Pr1, ↓gX_Pr2, ↓gX_Pr3, ↓gX_Pr4, ↓gX_La0, ↓gX_La1, ↓gX_La2, ↓gX_Li0, ↓gX_Li1, ↓gX_Li2, ↓gX_Li3, ↓gX_Li4, ↓gX_Li5, ↓gX_Rd0, ↓gX_Tp0, ↓gX_St0, ↓gX_St1, ↓gX_St2, ↓gX_St3, ↓gX_Ac0, ↓gX_Ac1, ↓gX_Ac2, ↓gX_Ac3, ↓gX_Ta0, ↓gX_Op0, ↓gX_Op1, ↓gX_Ob0, ↓gX_He0, ↓gX_He1, ↓gX_Md8, ↓gX_Md9, ↓gX_Md10, ↓gX_Md11, ↓gX_Md12, ↓gX_Md13, ↓gX_Md14, ↓gX_Md15, ↓gX_Md16, ↓gX_Md17, ↓gX_Md18, ↓gX_Md19, ↓gX_Md20, ↓gX_Md21, ↓gX_Md22, ↓gX_Md23, ↓gX_Md24, ↓gX_Md25, ↓gX_Md26, ↓gX_Md27, ↓gX_Md28, ↓gX_Md29, ↓gX_Md30, ↓gX_Md31, ↓gX_Md32, ↓gX_Md35, ↓gX_Md36, ↓gX_Md37, ↓gX_Md38, ↓gX_Md39, ↓gX_Md40, ↓gX_Md41, ↓gX_Md42, ↓gX_Md43, ↓gX_Md44, ↓gX_Md45, ↓gX_Md46, ↓gX_Md57, ↓gX_Md58, ↓gX_Md59, ↓gX_Md60, ↓gX_Md61, ↓gX_Md62, ↓gX_Md63, ↓gX_Md64, ↓gX_Md65, ↓gX_Md66, ↓gX_Md67, ↓gX_Md68, ↓gX_Md69, ↓gX_Md70, ↓gX_Md71, ↓gX_Md72, ↓gX_Md77, ↓gX_Md78, ↓gX_Md79, ↓aI_w, ↓qI_w, ↓aI_s0, ↓qI_s0, ↓aI_s1, ↓qI_s1, ↓aI_s2, ↓qI_s2, ↓aI_s3, ↓qI_s3, ↓aI_a0, ↓qI_a0, ↓aI_a1, ↓qI_a1, ↓aI_a2, ↓qI_a2, ↓aI_a3, ↓qI_a3, ↓aI_l0, ↓qI_l0, ↓aI_l1, ↓qI_l1, ↓aI_l2, ↓qI_l2, ↓aI_is, ↓qI_is, ↓aI_ar, ↓qI_ar, ↓aI_ob, ↓qI_ob, ↓aI_hw, ↓qI_hw, ↓aI_ho, ↓qI_ho, ↓aI_rd, ↓qI_rd, ↓aI_tp, ↓qI_tp, ↓aI_m1, ↓qI_m1, ↓aI_m2, ↓qI_m2, ↓aI_m3, ↓qI_m3, ↓aI_m4, ↓qI_m4, ↓aI_m5, ↓qI_m5, ↓aI_m6, ↓qI_m6, ↓aI_m7, ↓qI_m7, ↓aI_m8, ↓qI_m8, ↓aI_m9, ↓qI_m9, ↓aI_m10, ↓qI_m10, ↓aI_m11, ↓qI_m11, ↓aI_m12, ↓qI_m12, ↓aI_m13, ↓qI_m13, ↓aI_m14, ↓qI_m14, ↓aI_m15, ↓qI_m15, ↓aI_m16, ↓qI_m16, ↓aI_m17, ↓qI_m17, ↓aI_m18, ↓qI_m18, ↓aI_m19, ↓qI_m19, ↓aI_m20, ↓qI_m20, ↓aI_m21, ↓qI_m21, ↓aI_m22, ↓qI_m22, ↓aI_m23, ↓qI_m23, ↓aI_m24, ↓qI_m24, ↓aI_m25, ↓qI_m25, ↓aI_m26, ↓qI_m26, ↓aI_m27, ↓qI_m27, ↓aI_m28, ↓qI_m28, ↓aI_m29, ↓qI_m29, ↓aI_m30, ↓qI_m30, ↓aI_m31, ↓qI_m31, ↓aI_m32, ↓qI_m32, ↓aI_m33, ↓qI_m33, ↓aI_m34, ↓qI_m34, ↓aI_m35, ↓qI_m35, ↓aI_m36, ↓qI_m36, ↓aI_m37, ↓qI_m37, ↓aI_m38, ↓qI_m38, ↓aI_m39, ↓qI_m39, ↓aI_m40, ↓qI_m40, ↓aI_m41, ↓qI_m41, ↓aI_m42, ↓qI_m42, ↓aI_m43, ↓qI_m43, ↓aI_m44, ↓qI_m44, ↓aI_m45, ↓qI_m45, ↓aI_m46, ↓qI_m46, ↓aI_m47, ↓qI_m47, ↓aI_m48, ↓qI_m48, ↓aI_m49, ↓qI_m49, ↓aI_m50, ↓qI_m50, ↓aI_m51, ↓qI_m51, ↓aI_m52, ↓qI_m52, ↓aI_m54, ↓qI_m54, ↓aI_m55, ↓qI_m55, ↓aZ_m53, ↓qZ_m53, ↓aZ_m56, ↓qZ_m56, ↓aX_3, ↓aX_4, ↓aX_5, ↓aX_6, ↓aX_324, ↓aX_325, ↓ai_0, ↓ai_1, ↓ai_2, ↓ai_3, ↓qi_0, ↓qi_1, ↓qi_2, ↓qi_3, ↓qi_4, ↓ly_qJ, ↓bd2_mk, ↓bdT_0, ↓bdC_0]
    rfl
  | some p =>
    have hf' : fLa_placeOfFault (o + 320) (nI k) (o + 2) S = some (nI p, S1) := hf
    have ng := nN1 (show p < 2 ^ 31 by have := hx p rfl; omega)
    simp (disch := first | with_reducible assumption | omega | (repeat (first | with_reducible assumption | with_reducible apply Ly_wI | with_reducible apply Ly_nx | with_reducible apply Ly_wJ | with_reducible apply Ly_fl))) only [nl, ↓bdO hf', ng, ↓reduceIte, rd_s, rd_n, rd_nx, rd_wJ, t00, t10, t20, t30, ↓gI_Mp, ↓pI_Mp, ↓ck_Mp, ↓gI_Pr, ↓pI_Pr, ↓ck_Pr, ↓gI_La, ↓pI_La, ↓pZ_La, ↓ck_La, ↓gI_Li, ↓pI_Li, ↓ck_Li, ↓gI_Ky, ↓pI_Ky, ↓ck_Ky, ↓gI_Rd, ↓pI_Rd, ↓ck_Rd, ↓gI_Tp, ↓pI_Tp, ↓ck_Tp, ↓gI_St, ↓pI_St, ↓ck_St, ↓gI_Ac, ↓pI_Ac, ↓ck_Ac, ↓gI_Ta, ↓pI_Ta, ↓ck_Ta, ↓gI_Sp, ↓pI_Sp, ↓ck_Sp, ↓gI_Op, ↓pI_Op, ↓ck_Op, ↓gI_Oe, ↓pI_Oe, ↓ck_Oe, ↓gI_Ob, ↓pI_Ob, ↓ck_Ob, ↓gI_He, ↓pI_He, ↓pZ_He, ↓ck_He, ↓gI_En, ↓pI_En, ↓ck_En, ↓gI_Md, ↓pI_Md, ↓pZ_Md, ↓ck_Md, ↓gX_Mp0, ↓gX_Mp1, ↓gX_Mp2, ↓gX_Mp3, ↓gX_Mp4, ↓gX_Mp5, ↓gX_Pr0, ↓gX_Pr1, ↓gX_Pr2, ↓gX_Pr3, ↓gX_Pr4, ↓gX_La0, ↓gX_La1, ↓gX_La2, ↓gX_Li0, ↓gX_Li1, ↓gX_Li2, ↓gX_Li3, ↓gX_Li4, ↓gX_Li5, ↓gX_Rd0, ↓gX_Tp0, ↓gX_St0, ↓gX_St1, ↓gX_St2, ↓gX_St3, ↓gX_Ac0, ↓gX_Ac1, ↓gX_Ac2, ↓gX_Ac3, ↓gX_Ta0, ↓gX_Op0, ↓gX_Op1, ↓gX_Ob0, ↓gX_He0, ↓gX_He1, ↓gX_Md8, ↓gX_Md9, ↓gX_Md10, ↓gX_Md11, ↓gX_Md12, ↓gX_Md13, ↓gX_Md14, ↓gX_Md15, ↓gX_Md16, ↓gX_Md17, ↓gX_Md18, ↓gX_Md19, ↓gX_Md20, ↓gX_Md21, ↓gX_Md22, ↓gX_Md23, ↓gX_Md24, ↓gX_Md25, ↓gX_Md26, ↓gX_Md27, ↓gX_Md28, ↓gX_Md29, ↓gX_Md30, ↓gX_Md31, ↓gX_Md32, ↓gX_Md35, ↓gX_Md36, ↓gX_Md37, ↓gX_Md38, ↓gX_Md39, ↓gX_Md40, ↓gX_Md41, ↓gX_Md42, ↓gX_Md43, ↓gX_Md44, ↓gX_Md45, ↓gX_Md46, ↓gX_Md57, ↓gX_Md58, ↓gX_Md59, ↓gX_Md60, ↓gX_Md61, ↓gX_Md62, ↓gX_Md63, ↓gX_Md64, ↓gX_Md65, ↓gX_Md66, ↓gX_Md67, ↓gX_Md68, ↓gX_Md69, ↓gX_Md70, ↓gX_Md71, ↓gX_Md72, ↓gX_Md77, ↓gX_Md78, ↓gX_Md79, ↓aI_w, ↓qI_w, ↓aI_s0, ↓qI_s0, ↓aI_s1, ↓qI_s1, ↓aI_s2, ↓qI_s2, ↓aI_s3, ↓qI_s3, ↓aI_a0, ↓qI_a0, ↓aI_a1, ↓qI_a1, ↓aI_a2, ↓qI_a2, ↓aI_a3, ↓qI_a3, ↓aI_l0, ↓qI_l0, ↓aI_l1, ↓qI_l1, ↓aI_l2, ↓qI_l2, ↓aI_is, ↓qI_is, ↓aI_ar, ↓qI_ar, ↓aI_ob, ↓qI_ob, ↓aI_hw, ↓qI_hw, ↓aI_ho, ↓qI_ho, ↓aI_rd, ↓qI_rd, ↓aI_tp, ↓qI_tp, ↓aI_m1, ↓qI_m1, ↓aI_m2, ↓qI_m2, ↓aI_m3, ↓qI_m3, ↓aI_m4, ↓qI_m4, ↓aI_m5, ↓qI_m5, ↓aI_m6, ↓qI_m6, ↓aI_m7, ↓qI_m7, ↓aI_m8, ↓qI_m8, ↓aI_m9, ↓qI_m9, ↓aI_m10, ↓qI_m10, ↓aI_m11, ↓qI_m11, ↓aI_m12, ↓qI_m12, ↓aI_m13, ↓qI_m13, ↓aI_m14, ↓qI_m14, ↓aI_m15, ↓qI_m15, ↓aI_m16, ↓qI_m16, ↓aI_m17, ↓qI_m17, ↓aI_m18, ↓qI_m18, ↓aI_m19, ↓qI_m19, ↓aI_m20, ↓qI_m20, ↓aI_m21, ↓qI_m21, ↓aI_m22, ↓qI_m22, ↓aI_m23, ↓qI_m23, ↓aI_m24, ↓qI_m24, ↓aI_m25, ↓qI_m25, ↓aI_m26, ↓qI_m26, ↓aI_m27, ↓qI_m27, ↓aI_m28, ↓qI_m28, ↓aI_m29, ↓qI_m29, ↓aI_m30, ↓qI_m30, ↓aI_m31, ↓qI_m31, ↓aI_m32, ↓qI_m32, ↓aI_m33, ↓qI_m33, ↓aI_m34, ↓qI_m34, ↓aI_m35, ↓qI_m35, ↓aI_m36, ↓qI_m36, ↓aI_m37, ↓qI_m37, ↓aI_m38, ↓qI_m38, ↓aI_m39, ↓qI_m39, ↓aI_m40, ↓qI_m40, ↓aI_m41, ↓qI_m41, ↓aI_m42, ↓qI_m42, ↓aI_m43, ↓qI_m43, ↓aI_m44, ↓qI_m44, ↓aI_m45, ↓qI_m45, ↓aI_m46, ↓qI_m46, ↓aI_m47, ↓qI_m47, ↓aI_m48, ↓qI_m48, ↓aI_m49, ↓qI_m49, ↓aI_m50, ↓qI_m50, ↓aI_m51, ↓qI_m51, ↓aI_m52, ↓qI_m52, ↓aI_m54, ↓qI_m54, ↓aI_m55, ↓qI_m55, ↓aZ_m53, ↓qZ_m53, ↓aZ_m56, ↓qZ_m56, ↓aX_3, ↓aX_4, ↓aX_5, ↓aX_6, ↓aX_324, ↓aX_325, ↓ai_0, ↓ai_1, ↓ai_2, ↓ai_3, ↓qi_0, ↓qi_1, ↓qi_2, ↓qi_3, ↓qi_4, ↓ly_qJ, ↓bd2_mk, ↓bdT_0, ↓bdC_0]
    rfl
theorem pf1 {o : Nat} {S : Sx} : fLa_placeOfFault (o + 320) 1 (o + 2) S = fLa_missingState (o + 2) S := by
  unfold fLa_placeOfFault
  rw [if_pos rfl]
  cases fLa_missingState (o + 2) S <;> rfl
theorem pf2 {o : Nat} {S : Sx} : fLa_placeOfFault (o + 320) 2 (o + 2) S = fLa_emptyRound (o + 2) S := by
  unfold fLa_placeOfFault
  rw [if_neg (by decide), if_pos rfl]
  cases fLa_emptyRound (o + 2) S <;> rfl
theorem pf3 {o : Nat} {S : Sx} : fLa_placeOfFault (o + 320) 3 (o + 2) S = fLa_testWithoutLater (o + 2) S := by
  unfold fLa_placeOfFault
  rw [if_neg (by decide), if_neg (by decide), if_pos rfl]
  cases fLa_testWithoutLater (o + 2) S <;> rfl
theorem pf4 {o : Nat} {S : Sx} : fLa_placeOfFault (o + 320) 4 (o + 2) S = fLa_secondApply (o + 2) S := by
  unfold fLa_placeOfFault
  rw [if_neg (by decide), if_neg (by decide), if_neg (by decide), if_pos rfl]
  cases fLa_secondApply (o + 2) S <;> rfl
theorem pf5 {o : Nat} {S : Sx} : fLa_placeOfFault (o + 320) 5 (o + 2) S = fLa_sharedArray (o + 2) S := by
  unfold fLa_placeOfFault
  rw [if_neg (by decide), if_neg (by decide), if_neg (by decide), if_neg (by decide), if_pos rfl]
  cases fLa_sharedArray (o + 2) S <;> rfl
theorem pf6 {o : Nat} {S : Sx} (hL : Ly o S) : fLa_placeOfFault (o + 320) 6 (o + 2) S = fLa_stepBeyondStages (o + 320) (o + 2) S := by
  unfold fLa_placeOfFault
  rw [if_neg (by decide), if_neg (by decide), if_neg (by decide), if_neg (by decide), if_neg (by decide)]
  simp (disch := first | with_reducible assumption | omega | (repeat (first | with_reducible assumption | with_reducible apply Ly_wI | with_reducible apply Ly_nx | with_reducible apply Ly_wJ | with_reducible apply Ly_fl))) only [↓reduceIte, rd_s, rd_n, rd_nx, rd_wJ, t00, t10, t20, t30, ↓gI_Mp, ↓pI_Mp, ↓ck_Mp, ↓gI_Pr, ↓pI_Pr, ↓ck_Pr, ↓gI_La, ↓pI_La, ↓pZ_La, ↓ck_La, ↓gI_Li, ↓pI_Li, ↓ck_Li, ↓gI_Ky, ↓pI_Ky, ↓ck_Ky, ↓gI_Rd, ↓pI_Rd, ↓ck_Rd, ↓gI_Tp, ↓pI_Tp, ↓ck_Tp, ↓gI_St, ↓pI_St, ↓ck_St, ↓gI_Ac, ↓pI_Ac, ↓ck_Ac, ↓gI_Ta, ↓pI_Ta, ↓ck_Ta, ↓gI_Sp, ↓pI_Sp, ↓ck_Sp, ↓gI_Op, ↓pI_Op, ↓ck_Op, ↓gI_Oe, ↓pI_Oe, ↓ck_Oe, ↓gI_Ob, ↓pI_Ob, ↓ck_Ob, ↓gI_He, ↓pI_He, ↓pZ_He, ↓ck_He, ↓gI_En, ↓pI_En, ↓ck_En, ↓gI_Md, ↓pI_Md, ↓pZ_Md, ↓ck_Md, ↓gX_Mp0, ↓gX_Mp1, ↓gX_Mp2, ↓gX_Mp3, ↓gX_Mp4, ↓gX_Mp5, ↓gX_Pr0, ↓gX_Pr1, ↓gX_Pr2, ↓gX_Pr3, ↓gX_Pr4, ↓gX_La0, ↓gX_La1, ↓gX_La2, ↓gX_Li0, ↓gX_Li1, ↓gX_Li2, ↓gX_Li3, ↓gX_Li4, ↓gX_Li5, ↓gX_Rd0, ↓gX_Tp0, ↓gX_St0, ↓gX_St1, ↓gX_St2, ↓gX_St3, ↓gX_Ac0, ↓gX_Ac1, ↓gX_Ac2, ↓gX_Ac3, ↓gX_Ta0, ↓gX_Op0, ↓gX_Op1, ↓gX_Ob0, ↓gX_He0, ↓gX_He1, ↓gX_Md8, ↓gX_Md9, ↓gX_Md10, ↓gX_Md11, ↓gX_Md12, ↓gX_Md13, ↓gX_Md14, ↓gX_Md15, ↓gX_Md16, ↓gX_Md17, ↓gX_Md18, ↓gX_Md19, ↓gX_Md20, ↓gX_Md21, ↓gX_Md22, ↓gX_Md23, ↓gX_Md24, ↓gX_Md25, ↓gX_Md26, ↓gX_Md27, ↓gX_Md28, ↓gX_Md29, ↓gX_Md30, ↓gX_Md31, ↓gX_Md32, ↓gX_Md35, ↓gX_Md36, ↓gX_Md37, ↓gX_Md38, ↓gX_Md39, ↓gX_Md40, ↓gX_Md41, ↓gX_Md42, ↓gX_Md43, ↓gX_Md44, ↓gX_Md45, ↓gX_Md46, ↓gX_Md57, ↓gX_Md58, ↓gX_Md59, ↓gX_Md60, ↓gX_Md61, ↓gX_Md62, ↓gX_Md63, ↓gX_Md64, ↓gX_Md65, ↓gX_Md66, ↓gX_Md67, ↓gX_Md68, ↓gX_Md69, ↓gX_Md70, ↓gX_Md71, ↓gX_Md72, ↓gX_Md77, ↓gX_Md78, ↓gX_Md79, ↓aI_w, ↓qI_w, ↓aI_s0, ↓qI_s0, ↓aI_s1, ↓qI_s1, ↓aI_s2, ↓qI_s2, ↓aI_s3, ↓qI_s3, ↓aI_a0, ↓qI_a0, ↓aI_a1, ↓qI_a1, ↓aI_a2, ↓qI_a2, ↓aI_a3, ↓qI_a3, ↓aI_l0, ↓qI_l0, ↓aI_l1, ↓qI_l1, ↓aI_l2, ↓qI_l2, ↓aI_is, ↓qI_is, ↓aI_ar, ↓qI_ar, ↓aI_ob, ↓qI_ob, ↓aI_hw, ↓qI_hw, ↓aI_ho, ↓qI_ho, ↓aI_rd, ↓qI_rd, ↓aI_tp, ↓qI_tp, ↓aI_m1, ↓qI_m1, ↓aI_m2, ↓qI_m2, ↓aI_m3, ↓qI_m3, ↓aI_m4, ↓qI_m4, ↓aI_m5, ↓qI_m5, ↓aI_m6, ↓qI_m6, ↓aI_m7, ↓qI_m7, ↓aI_m8, ↓qI_m8, ↓aI_m9, ↓qI_m9, ↓aI_m10, ↓qI_m10, ↓aI_m11, ↓qI_m11, ↓aI_m12, ↓qI_m12, ↓aI_m13, ↓qI_m13, ↓aI_m14, ↓qI_m14, ↓aI_m15, ↓qI_m15, ↓aI_m16, ↓qI_m16, ↓aI_m17, ↓qI_m17, ↓aI_m18, ↓qI_m18, ↓aI_m19, ↓qI_m19, ↓aI_m20, ↓qI_m20, ↓aI_m21, ↓qI_m21, ↓aI_m22, ↓qI_m22, ↓aI_m23, ↓qI_m23, ↓aI_m24, ↓qI_m24, ↓aI_m25, ↓qI_m25, ↓aI_m26, ↓qI_m26, ↓aI_m27, ↓qI_m27, ↓aI_m28, ↓qI_m28, ↓aI_m29, ↓qI_m29, ↓aI_m30, ↓qI_m30, ↓aI_m31, ↓qI_m31, ↓aI_m32, ↓qI_m32, ↓aI_m33, ↓qI_m33, ↓aI_m34, ↓qI_m34, ↓aI_m35, ↓qI_m35, ↓aI_m36, ↓qI_m36, ↓aI_m37, ↓qI_m37, ↓aI_m38, ↓qI_m38, ↓aI_m39, ↓qI_m39, ↓aI_m40, ↓qI_m40, ↓aI_m41, ↓qI_m41, ↓aI_m42, ↓qI_m42, ↓aI_m43, ↓qI_m43, ↓aI_m44, ↓qI_m44, ↓aI_m45, ↓qI_m45, ↓aI_m46, ↓qI_m46, ↓aI_m47, ↓qI_m47, ↓aI_m48, ↓qI_m48, ↓aI_m49, ↓qI_m49, ↓aI_m50, ↓qI_m50, ↓aI_m51, ↓qI_m51, ↓aI_m52, ↓qI_m52, ↓aI_m54, ↓qI_m54, ↓aI_m55, ↓qI_m55, ↓aZ_m53, ↓qZ_m53, ↓aZ_m56, ↓qZ_m56, ↓aX_3, ↓aX_4, ↓aX_5, ↓aX_6, ↓aX_324, ↓aX_325, ↓ai_0, ↓ai_1, ↓ai_2, ↓ai_3, ↓qi_0, ↓qi_1, ↓qi_2, ↓qi_3, ↓qi_4, ↓ly_qJ, ↓bd2_mk, ↓bdT_0, ↓bdC_0]
  cases fLa_stepBeyondStages (o + 320) (o + 2) S <;> rfl
noncomputable def A1 (v : Nat → Nat → Int32) (ns : Nat) : Option Nat := P1 v ns
noncomputable def A2 (v : Nat → Nat → Int32) (ns : Nat) : Option Nat := fs0 (fun s => Rc v ns s s) ns 0
noncomputable def A3 (v : Nat → Nat → Int32) (np : Nat) : Option Nat := fs0 (bd3 v np) np 0
noncomputable def A4 (v : Nat → Nat → Int32) (np : Nat) : Option Nat := fs0 (bd4 v) np 0
noncomputable def A5 (v : Nat → Nat → Int32) (nt np : Nat) : Option Nat := fs0 (bd5 v nt np) 4 0
noncomputable def A6 (v : Nat → Nat → Int32) (na np : Nat) : Option Nat := fs0 (fun p => 12 ≤ sg v na p) np 0
noncomputable def chv (v : Nat → Nat → Int32) (ns na nt np : Nat) : Int32 × Int32 := chn (A1 v ns) (A2 v ns) (A3 v np) (A4 v np) (A5 v nt np) (A6 v na np)
def allN (v : Nat → Nat → Int32) (ns na nt np : Nat) : Prop := A1 v ns = none ∧ A2 v ns = none ∧ A3 v np = none ∧ A4 v np = none ∧ A5 v nt np = none ∧ A6 v na np = none
theorem fs0_lt {P : Nat → Prop} {n p : Nat} (h : fs0 P n 0 = some p) : p < n := by have := (fs0_some n 0 p h).2.1; omega
theorem plan_ {o nf ns na nt np : Nat} {v : Nat → Nat → Int32} {S : Sx} (hL : Ly o S) (hp : PR v nf ns na nt np) (e : pE o S v) (h21 : V o S 322 0 = 0) : ∃ S1, fLa_plan (o + 320) (o + 2) S = some S1 ∧ (Ly o S1 ∧ sR S1 = sR S ∧ sJ S1 = sJ S ∧ ∀ c q, ¬ (321 ≤ c ∧ c ≤ 323) → ¬ (c = 320 ∧ 3 ≤ q ∧ q ≤ 6) → V o S1 c q = V o S c q) ∧ V o S1 322 0 = 0 ∧ V o S1 320 5 = (chv v ns na nt np).1 ∧ V o S1 320 6 = (chv v ns na nt np).2 ∧
    ((V o S1 320 3 = 0 ∧ ¬ (chv v ns na nt np).1 ≤ 0) ∨ (V o S1 320 3 = 1 ∧ allN v ns na nt np ∧ ∃ fs, CF o S1 v na np fs)) := by
  have b2 := hp.1.2.1
  have b5 := hp.1.2.2.2.2
  have F0 : fLa_forget (o + 320) S = some (wI (wI (wI S (o + 320) 3 0) (o + 320) 5 0) (o + 320) 6 (-1)) := by
    have z0 : (0 : Int32) = 0 ∨ (0 : Int32) = 1 := Or.inl rfl
    unfold fLa_forget
    simp (disch := first | with_reducible assumption | omega | (repeat (first | with_reducible assumption | with_reducible apply Ly_wI | with_reducible apply Ly_nx | with_reducible apply Ly_wJ | with_reducible apply Ly_fl))) only [↓reduceIte, rd_s, rd_n, rd_nx, rd_wJ, t00, t10, t20, t30, ↓gI_Mp, ↓pI_Mp, ↓ck_Mp, ↓gI_Pr, ↓pI_Pr, ↓ck_Pr, ↓gI_La, ↓pI_La, ↓pZ_La, ↓ck_La, ↓gI_Li, ↓pI_Li, ↓ck_Li, ↓gI_Ky, ↓pI_Ky, ↓ck_Ky, ↓gI_Rd, ↓pI_Rd, ↓ck_Rd, ↓gI_Tp, ↓pI_Tp, ↓ck_Tp, ↓gI_St, ↓pI_St, ↓ck_St, ↓gI_Ac, ↓pI_Ac, ↓ck_Ac, ↓gI_Ta, ↓pI_Ta, ↓ck_Ta, ↓gI_Sp, ↓pI_Sp, ↓ck_Sp, ↓gI_Op, ↓pI_Op, ↓ck_Op, ↓gI_Oe, ↓pI_Oe, ↓ck_Oe, ↓gI_Ob, ↓pI_Ob, ↓ck_Ob, ↓gI_He, ↓pI_He, ↓pZ_He, ↓ck_He, ↓gI_En, ↓pI_En, ↓ck_En, ↓gI_Md, ↓pI_Md, ↓pZ_Md, ↓ck_Md, ↓gX_Mp0, ↓gX_Mp1, ↓gX_Mp2, ↓gX_Mp3, ↓gX_Mp4, ↓gX_Mp5, ↓gX_Pr0, ↓gX_Pr1, ↓gX_Pr2, ↓gX_Pr3, ↓gX_Pr4, ↓gX_La0, ↓gX_La1, ↓gX_La2, ↓gX_Li0, ↓gX_Li1, ↓gX_Li2, ↓gX_Li3, ↓gX_Li4, ↓gX_Li5, ↓gX_Rd0, ↓gX_Tp0, ↓gX_St0, ↓gX_St1, ↓gX_St2, ↓gX_St3, ↓gX_Ac0, ↓gX_Ac1, ↓gX_Ac2, ↓gX_Ac3, ↓gX_Ta0, ↓gX_Op0, ↓gX_Op1, ↓gX_Ob0, ↓gX_He0, ↓gX_He1, ↓gX_Md8, ↓gX_Md9, ↓gX_Md10, ↓gX_Md11, ↓gX_Md12, ↓gX_Md13, ↓gX_Md14, ↓gX_Md15, ↓gX_Md16, ↓gX_Md17, ↓gX_Md18, ↓gX_Md19, ↓gX_Md20, ↓gX_Md21, ↓gX_Md22, ↓gX_Md23, ↓gX_Md24, ↓gX_Md25, ↓gX_Md26, ↓gX_Md27, ↓gX_Md28, ↓gX_Md29, ↓gX_Md30, ↓gX_Md31, ↓gX_Md32, ↓gX_Md35, ↓gX_Md36, ↓gX_Md37, ↓gX_Md38, ↓gX_Md39, ↓gX_Md40, ↓gX_Md41, ↓gX_Md42, ↓gX_Md43, ↓gX_Md44, ↓gX_Md45, ↓gX_Md46, ↓gX_Md57, ↓gX_Md58, ↓gX_Md59, ↓gX_Md60, ↓gX_Md61, ↓gX_Md62, ↓gX_Md63, ↓gX_Md64, ↓gX_Md65, ↓gX_Md66, ↓gX_Md67, ↓gX_Md68, ↓gX_Md69, ↓gX_Md70, ↓gX_Md71, ↓gX_Md72, ↓gX_Md77, ↓gX_Md78, ↓gX_Md79, ↓aI_w, ↓qI_w, ↓aI_s0, ↓qI_s0, ↓aI_s1, ↓qI_s1, ↓aI_s2, ↓qI_s2, ↓aI_s3, ↓qI_s3, ↓aI_a0, ↓qI_a0, ↓aI_a1, ↓qI_a1, ↓aI_a2, ↓qI_a2, ↓aI_a3, ↓qI_a3, ↓aI_l0, ↓qI_l0, ↓aI_l1, ↓qI_l1, ↓aI_l2, ↓qI_l2, ↓aI_is, ↓qI_is, ↓aI_ar, ↓qI_ar, ↓aI_ob, ↓qI_ob, ↓aI_hw, ↓qI_hw, ↓aI_ho, ↓qI_ho, ↓aI_rd, ↓qI_rd, ↓aI_tp, ↓qI_tp, ↓aI_m1, ↓qI_m1, ↓aI_m2, ↓qI_m2, ↓aI_m3, ↓qI_m3, ↓aI_m4, ↓qI_m4, ↓aI_m5, ↓qI_m5, ↓aI_m6, ↓qI_m6, ↓aI_m7, ↓qI_m7, ↓aI_m8, ↓qI_m8, ↓aI_m9, ↓qI_m9, ↓aI_m10, ↓qI_m10, ↓aI_m11, ↓qI_m11, ↓aI_m12, ↓qI_m12, ↓aI_m13, ↓qI_m13, ↓aI_m14, ↓qI_m14, ↓aI_m15, ↓qI_m15, ↓aI_m16, ↓qI_m16, ↓aI_m17, ↓qI_m17, ↓aI_m18, ↓qI_m18, ↓aI_m19, ↓qI_m19, ↓aI_m20, ↓qI_m20, ↓aI_m21, ↓qI_m21, ↓aI_m22, ↓qI_m22, ↓aI_m23, ↓qI_m23, ↓aI_m24, ↓qI_m24, ↓aI_m25, ↓qI_m25, ↓aI_m26, ↓qI_m26, ↓aI_m27, ↓qI_m27, ↓aI_m28, ↓qI_m28, ↓aI_m29, ↓qI_m29, ↓aI_m30, ↓qI_m30, ↓aI_m31, ↓qI_m31, ↓aI_m32, ↓qI_m32, ↓aI_m33, ↓qI_m33, ↓aI_m34, ↓qI_m34, ↓aI_m35, ↓qI_m35, ↓aI_m36, ↓qI_m36, ↓aI_m37, ↓qI_m37, ↓aI_m38, ↓qI_m38, ↓aI_m39, ↓qI_m39, ↓aI_m40, ↓qI_m40, ↓aI_m41, ↓qI_m41, ↓aI_m42, ↓qI_m42, ↓aI_m43, ↓qI_m43, ↓aI_m44, ↓qI_m44, ↓aI_m45, ↓qI_m45, ↓aI_m46, ↓qI_m46, ↓aI_m47, ↓qI_m47, ↓aI_m48, ↓qI_m48, ↓aI_m49, ↓qI_m49, ↓aI_m50, ↓qI_m50, ↓aI_m51, ↓qI_m51, ↓aI_m52, ↓qI_m52, ↓aI_m54, ↓qI_m54, ↓aI_m55, ↓qI_m55, ↓aZ_m53, ↓qZ_m53, ↓aZ_m56, ↓qZ_m56, ↓aX_3, ↓aX_4, ↓aX_5, ↓aX_6, ↓aX_324, ↓aX_325, ↓ai_0, ↓ai_1, ↓ai_2, ↓ai_3, ↓qi_0, ↓qi_1, ↓qi_2, ↓qi_3, ↓qi_4, ↓ly_qJ, ↓bd2_mk, ↓bdT_0, ↓bdC_0]
  have E0 := Ef_wI (c := 320) (k := 6) (x := -1) (Ef_wI (c := 320) (k := 5) (x := 0) (Ef_wI (c := 320) (k := 3) (x := 0) (Ef_id hL)))
  generalize hS0 : wI (wI (wI S (o + 320) 3 0) (o + 320) 5 0) (o + 320) 6 (-1) = S0 at F0 E0
  have L0 := E0.1
  have v0 : ∀ c q, V o S0 c q = u2 (u2 (u2 (V o S) 320 3 0) 320 5 0) 320 6 (-1) c q := fun c q => congrFun (congrFun E0.2.2.2 c) q
  have e0 : pE o S0 v := by
    intro c q hc
    have x := v0 c q
    rw [u2_n (by unfold pc at hc; omega), u2_n (by unfold pc at hc; omega), u2_n (by unfold pc at hc; omega)] at x
    exact (show sI S0 (o + c) q = sI S (o + c) q from x).trans (e c q hc)
  have G : fLa_plan (o + 320) (o + 2) S = fLa_plan_6 fuel (o + 320) (o + 2) 1 S0 := by
    unfold fLa_plan
    simp (disch := first | with_reducible assumption | omega | (repeat (first | with_reducible assumption | with_reducible apply Ly_wI | with_reducible apply Ly_nx | with_reducible apply Ly_wJ | with_reducible apply Ly_fl))) only [↓bnO F0, ↓reduceIte, rd_s, rd_n, rd_nx, rd_wJ, t00, t10, t20, t30, ↓gI_Mp, ↓pI_Mp, ↓ck_Mp, ↓gI_Pr, ↓pI_Pr, ↓ck_Pr, ↓gI_La, ↓pI_La, ↓pZ_La, ↓ck_La, ↓gI_Li, ↓pI_Li, ↓ck_Li, ↓gI_Ky, ↓pI_Ky, ↓ck_Ky, ↓gI_Rd, ↓pI_Rd, ↓ck_Rd, ↓gI_Tp, ↓pI_Tp, ↓ck_Tp, ↓gI_St, ↓pI_St, ↓ck_St, ↓gI_Ac, ↓pI_Ac, ↓ck_Ac, ↓gI_Ta, ↓pI_Ta, ↓ck_Ta, ↓gI_Sp, ↓pI_Sp, ↓ck_Sp, ↓gI_Op, ↓pI_Op, ↓ck_Op, ↓gI_Oe, ↓pI_Oe, ↓ck_Oe, ↓gI_Ob, ↓pI_Ob, ↓ck_Ob, ↓gI_He, ↓pI_He, ↓pZ_He, ↓ck_He, ↓gI_En, ↓pI_En, ↓ck_En, ↓gI_Md, ↓pI_Md, ↓pZ_Md, ↓ck_Md, ↓gX_Mp0, ↓gX_Mp1, ↓gX_Mp2, ↓gX_Mp3, ↓gX_Mp4, ↓gX_Mp5, ↓gX_Pr0, ↓gX_Pr1, ↓gX_Pr2, ↓gX_Pr3, ↓gX_Pr4, ↓gX_La0, ↓gX_La1, ↓gX_La2, ↓gX_Li0, ↓gX_Li1, ↓gX_Li2, ↓gX_Li3, ↓gX_Li4, ↓gX_Li5, ↓gX_Rd0, ↓gX_Tp0, ↓gX_St0, ↓gX_St1, ↓gX_St2, ↓gX_St3, ↓gX_Ac0, ↓gX_Ac1, ↓gX_Ac2, ↓gX_Ac3, ↓gX_Ta0, ↓gX_Op0, ↓gX_Op1, ↓gX_Ob0, ↓gX_He0, ↓gX_He1, ↓gX_Md8, ↓gX_Md9, ↓gX_Md10, ↓gX_Md11, ↓gX_Md12, ↓gX_Md13, ↓gX_Md14, ↓gX_Md15, ↓gX_Md16, ↓gX_Md17, ↓gX_Md18, ↓gX_Md19, ↓gX_Md20, ↓gX_Md21, ↓gX_Md22, ↓gX_Md23, ↓gX_Md24, ↓gX_Md25, ↓gX_Md26, ↓gX_Md27, ↓gX_Md28, ↓gX_Md29, ↓gX_Md30, ↓gX_Md31, ↓gX_Md32, ↓gX_Md35, ↓gX_Md36, ↓gX_Md37, ↓gX_Md38, ↓gX_Md39, ↓gX_Md40, ↓gX_Md41, ↓gX_Md42, ↓gX_Md43, ↓gX_Md44, ↓gX_Md45, ↓gX_Md46, ↓gX_Md57, ↓gX_Md58, ↓gX_Md59, ↓gX_Md60, ↓gX_Md61, ↓gX_Md62, ↓gX_Md63, ↓gX_Md64, ↓gX_Md65, ↓gX_Md66, ↓gX_Md67, ↓gX_Md68, ↓gX_Md69, ↓gX_Md70, ↓gX_Md71, ↓gX_Md72, ↓gX_Md77, ↓gX_Md78, ↓gX_Md79, ↓aI_w, ↓qI_w, ↓aI_s0, ↓qI_s0, ↓aI_s1, ↓qI_s1, ↓aI_s2, ↓qI_s2, ↓aI_s3, ↓qI_s3, ↓aI_a0, ↓qI_a0, ↓aI_a1, ↓qI_a1, ↓aI_a2, ↓qI_a2, ↓aI_a3, ↓qI_a3, ↓aI_l0, ↓qI_l0, ↓aI_l1, ↓qI_l1, ↓aI_l2, ↓qI_l2, ↓aI_is, ↓qI_is, ↓aI_ar, ↓qI_ar, ↓aI_ob, ↓qI_ob, ↓aI_hw, ↓qI_hw, ↓aI_ho, ↓qI_ho, ↓aI_rd, ↓qI_rd, ↓aI_tp, ↓qI_tp, ↓aI_m1, ↓qI_m1, ↓aI_m2, ↓qI_m2, ↓aI_m3, ↓qI_m3, ↓aI_m4, ↓qI_m4, ↓aI_m5, ↓qI_m5, ↓aI_m6, ↓qI_m6, ↓aI_m7, ↓qI_m7, ↓aI_m8, ↓qI_m8, ↓aI_m9, ↓qI_m9, ↓aI_m10, ↓qI_m10, ↓aI_m11, ↓qI_m11, ↓aI_m12, ↓qI_m12, ↓aI_m13, ↓qI_m13, ↓aI_m14, ↓qI_m14, ↓aI_m15, ↓qI_m15, ↓aI_m16, ↓qI_m16, ↓aI_m17, ↓qI_m17, ↓aI_m18, ↓qI_m18, ↓aI_m19, ↓qI_m19, ↓aI_m20, ↓qI_m20, ↓aI_m21, ↓qI_m21, ↓aI_m22, ↓qI_m22, ↓aI_m23, ↓qI_m23, ↓aI_m24, ↓qI_m24, ↓aI_m25, ↓qI_m25, ↓aI_m26, ↓qI_m26, ↓aI_m27, ↓qI_m27, ↓aI_m28, ↓qI_m28, ↓aI_m29, ↓qI_m29, ↓aI_m30, ↓qI_m30, ↓aI_m31, ↓qI_m31, ↓aI_m32, ↓qI_m32, ↓aI_m33, ↓qI_m33, ↓aI_m34, ↓qI_m34, ↓aI_m35, ↓qI_m35, ↓aI_m36, ↓qI_m36, ↓aI_m37, ↓qI_m37, ↓aI_m38, ↓qI_m38, ↓aI_m39, ↓qI_m39, ↓aI_m40, ↓qI_m40, ↓aI_m41, ↓qI_m41, ↓aI_m42, ↓qI_m42, ↓aI_m43, ↓qI_m43, ↓aI_m44, ↓qI_m44, ↓aI_m45, ↓qI_m45, ↓aI_m46, ↓qI_m46, ↓aI_m47, ↓qI_m47, ↓aI_m48, ↓qI_m48, ↓aI_m49, ↓qI_m49, ↓aI_m50, ↓qI_m50, ↓aI_m51, ↓qI_m51, ↓aI_m52, ↓qI_m52, ↓aI_m54, ↓qI_m54, ↓aI_m55, ↓qI_m55, ↓aZ_m53, ↓qZ_m53, ↓aZ_m56, ↓qZ_m56, ↓aX_3, ↓aX_4, ↓aX_5, ↓aX_6, ↓aX_324, ↓aX_325, ↓ai_0, ↓ai_1, ↓ai_2, ↓ai_3, ↓qi_0, ↓qi_1, ↓qi_2, ↓qi_3, ↓qi_4, ↓ly_qJ, ↓bd2_mk, ↓bdT_0, ↓bdC_0]
  rw [G]
  -- a fault found: what is written
  have out : ∀ (S1 : Sx) (k p : Nat), FC o S0 S1 → V o S1 322 0 = 0 → 1 ≤ k → k ≤ 6 → chv v ns na nt np = (nI k, nI p) → ∃ S2, some (wI (wI S1 (o + 320) 5 (nI k)) (o + 320) 6 (nI p)) = some S2 ∧ (Ly o S2 ∧ sR S2 = sR S ∧ sJ S2 = sJ S ∧ ∀ c q, ¬ (321 ≤ c ∧ c ≤ 323) → ¬ (c = 320 ∧ 3 ≤ q ∧ q ≤ 6) → V o S2 c q = V o S c q) ∧ V o S2 322 0 = 0 ∧ V o S2 320 5 = (chv v ns na nt np).1 ∧ V o S2 320 6 = (chv v ns na nt np).2 ∧ ((V o S2 320 3 = 0 ∧ ¬ (chv v ns na nt np).1 ≤ 0) ∨ (V o S2 320 3 = 1 ∧ allN v ns na nt np ∧ ∃ fs, CF o S2 v na np fs)) := by
    intro S1 k p hF h0 k1 k2 hc
    obtain ⟨g1, g2, g3, g4⟩ := hF
    refine ⟨_, rfl, ⟨Ly_wI (Ly_wI g1), by rw [sR_wI, sR_wI, g2, E0.2.1], by rw [sJ_wI, sJ_wI, g3, E0.2.2.1], fun c q w1 w2 => ?_⟩, ?_, ?_, ?_, Or.inl ⟨?_, ?_⟩⟩
    · rw [V_wI, V_wI, u2_n (by omega), u2_n (by omega), g4 c q w1 (by omega), v0, u2_n (by omega), u2_n (by omega), u2_n (by omega)]
    · rw [V_wI, V_wI, u2_n (by omega), u2_n (by omega), h0]
    · rw [hc, V_wI, V_wI, u2_n (by omega), u2_s]
    · rw [hc, V_wI, u2_s]
    · rw [V_wI, V_wI, u2_n (by omega), u2_n (by omega), g4 _ _ (by omega) (by omega), v0, u2_n (by omega), u2_n (by omega), u2_s]
    · rw [hc]; exact nI_ge (b := k) (a := 0) (by omega) (by omega)
  have same : FC o S0 S0 := ⟨L0, rfl, rfl, fun _ _ _ _ => rfl⟩
  have h210 : V o S0 322 0 = 0 := by rw [v0, u2_n (by omega), u2_n (by omega), u2_n (by omega)]; exact h21
  have q1 := pl_st (n := fuel) (m := 99999) (k := 1) (kk := 1) (kq := 2) (x := A1 v ns) rfl rfl rfl (fun p h => by
    have h' : P1 v ns = some p := h
    unfold P1 at h'
    by_cases c : ns = 0
    · rw [if_pos c] at h'; injection h' with h'; omega
    · rw [if_neg c] at h'; have := fs0_lt h'; omega) (by omega) L0 L0 (pf1.trans (cf1 L0 hp e0))
  have q2 := pl_st (n := 99999) (m := 99998) (k := 2) (kk := 2) (kq := 3) (x := A2 v ns) rfl rfl rfl (fun p h => by have := fs0_lt h; omega) (by omega) L0 L0 (pf2.trans (cf2 L0 hp e0))
  have q3 := pl_st (n := 99998) (m := 99997) (k := 3) (kk := 3) (kq := 4) (x := A3 v np) rfl rfl rfl (fun p h => by have := fs0_lt h; omega) (by omega) L0 L0 (pf3.trans (cf3 L0 hp e0))
  have q4 := pl_st (n := 99997) (m := 99996) (k := 4) (kk := 4) (kq := 5) (x := A4 v np) rfl rfl rfl (fun p h => by have := fs0_lt h; omega) (by omega) L0 L0 (pf4.trans (cf4 L0 hp e0))
  have q5 := pl_st (n := 99996) (m := 99995) (k := 5) (kk := 5) (kq := 6) (x := A5 v nt np) rfl rfl rfl (fun p h => by have := fs0_lt h; omega) (by omega) L0 L0 (pf5.trans (cf5 L0 hp e0))
  obtain ⟨S6, r1, r2, r3, r4⟩ := cf6 L0 hp e0 h210
  have q6 := pl_st (n := 99995) (m := 99994) (k := 6) (kk := 6) (kq := 7) (x := A6 v na np) rfl rfl rfl (fun p h => by have := fs0_lt h; omega) (by omega) L0 r2.1 ((pf6 L0).trans r1)
  rw [q1]
  rcases h1 : A1 v ns with _ | p
  rotate_left
  · rw [plO_s]; exact out S0 1 p same h210 (by omega) (by omega) (by unfold chv; rw [h1]; exact ch1)
  rw [plO_n]
  rw [q2]
  rcases h2 : A2 v ns with _ | p
  rotate_left
  · rw [plO_s]; exact out S0 2 p same h210 (by omega) (by omega) (by unfold chv; rw [h1, h2]; exact ch2)
  rw [plO_n]
  rw [q3]
  rcases h3 : A3 v np with _ | p
  rotate_left
  · rw [plO_s]; exact out S0 3 p same h210 (by omega) (by omega) (by unfold chv; rw [h1, h2, h3]; exact ch3)
  rw [plO_n]
  rw [q4]
  rcases h4 : A4 v np with _ | p
  rotate_left
  · rw [plO_s]; exact out S0 4 p same h210 (by omega) (by omega) (by unfold chv; rw [h1, h2, h3, h4]; exact ch4)
  rw [plO_n]
  rw [q5]
  rcases h5 : A5 v nt np with _ | p
  rotate_left
  · rw [plO_s]; exact out S0 5 p same h210 (by omega) (by omega) (by unfold chv; rw [h1, h2, h3, h4, h5]; exact ch5)
  rw [plO_n]
  rw [q6]
  rcases h6 : A6 v na np with _ | p
  rotate_left
  · rw [plO_s]; exact out S6 6 p r2 r3 (by omega) (by omega) (by unfold chv; rw [h1, h2, h3, h4, h5, h6]; exact ch6)
  rw [plO_n]
  have L6 := r2.1
  have l7 : (6 : Int32) < 7 := by decide
  have z1 : (1 : Int32) = 0 ∨ (1 : Int32) = 1 := Or.inr rfl
  obtain ⟨g1, g2, g3, g4⟩ := r2
  obtain ⟨fs, hC⟩ := r4 h6
  have hc : chv v ns na nt np = (0, -1) := by unfold chv; rw [h1, h2, h3, h4, h5, h6]; exact ch0
  refine ⟨wI S6 (o + 320) 3 1, ?_, ⟨Ly_wI g1, by rw [sR_wI, g2, E0.2.1], by rw [sJ_wI, g3, E0.2.2.1], fun c q w1 w2 => ?_⟩, ?_, ?_, ?_, Or.inr ⟨?_, ⟨h1, h2, h3, h4, h5, h6⟩, fs, ?_⟩⟩
  · rw [show (99994 : Nat) = 99993 + 1 from rfl, fLa_plan_6]
    simp (disch := first | with_reducible assumption | omega | (repeat (first | with_reducible assumption | with_reducible apply Ly_wI | with_reducible apply Ly_nx | with_reducible apply Ly_wJ | with_reducible apply Ly_fl))) only [l7, ↓reduceIte, rd_s, rd_n, rd_nx, rd_wJ, t00, t10, t20, t30, ↓gI_Mp, ↓pI_Mp, ↓ck_Mp, ↓gI_Pr, ↓pI_Pr, ↓ck_Pr, ↓gI_La, ↓pI_La, ↓pZ_La, ↓ck_La, ↓gI_Li, ↓pI_Li, ↓ck_Li, ↓gI_Ky, ↓pI_Ky, ↓ck_Ky, ↓gI_Rd, ↓pI_Rd, ↓ck_Rd, ↓gI_Tp, ↓pI_Tp, ↓ck_Tp, ↓gI_St, ↓pI_St, ↓ck_St, ↓gI_Ac, ↓pI_Ac, ↓ck_Ac, ↓gI_Ta, ↓pI_Ta, ↓ck_Ta, ↓gI_Sp, ↓pI_Sp, ↓ck_Sp, ↓gI_Op, ↓pI_Op, ↓ck_Op, ↓gI_Oe, ↓pI_Oe, ↓ck_Oe, ↓gI_Ob, ↓pI_Ob, ↓ck_Ob, ↓gI_He, ↓pI_He, ↓pZ_He, ↓ck_He, ↓gI_En, ↓pI_En, ↓ck_En, ↓gI_Md, ↓pI_Md, ↓pZ_Md, ↓ck_Md, ↓gX_Mp0, ↓gX_Mp1, ↓gX_Mp2, ↓gX_Mp3, ↓gX_Mp4, ↓gX_Mp5, ↓gX_Pr0, ↓gX_Pr1, ↓gX_Pr2, ↓gX_Pr3, ↓gX_Pr4, ↓gX_La0, ↓gX_La1, ↓gX_La2, ↓gX_Li0, ↓gX_Li1, ↓gX_Li2, ↓gX_Li3, ↓gX_Li4, ↓gX_Li5, ↓gX_Rd0, ↓gX_Tp0, ↓gX_St0, ↓gX_St1, ↓gX_St2, ↓gX_St3, ↓gX_Ac0, ↓gX_Ac1, ↓gX_Ac2, ↓gX_Ac3, ↓gX_Ta0, ↓gX_Op0, ↓gX_Op1, ↓gX_Ob0, ↓gX_He0, ↓gX_He1, ↓gX_Md8, ↓gX_Md9, ↓gX_Md10, ↓gX_Md11, ↓gX_Md12, ↓gX_Md13, ↓gX_Md14, ↓gX_Md15, ↓gX_Md16, ↓gX_Md17, ↓gX_Md18, ↓gX_Md19, ↓gX_Md20, ↓gX_Md21, ↓gX_Md22, ↓gX_Md23, ↓gX_Md24, ↓gX_Md25, ↓gX_Md26, ↓gX_Md27, ↓gX_Md28, ↓gX_Md29, ↓gX_Md30, ↓gX_Md31, ↓gX_Md32, ↓gX_Md35, ↓gX_Md36, ↓gX_Md37, ↓gX_Md38, ↓gX_Md39, ↓gX_Md40, ↓gX_Md41, ↓gX_Md42, ↓gX_Md43, ↓gX_Md44, ↓gX_Md45, ↓gX_Md46, ↓gX_Md57, ↓gX_Md58, ↓gX_Md59, ↓gX_Md60, ↓gX_Md61, ↓gX_Md62, ↓gX_Md63, ↓gX_Md64, ↓gX_Md65, ↓gX_Md66, ↓gX_Md67, ↓gX_Md68, ↓gX_Md69, ↓gX_Md70, ↓gX_Md71, ↓gX_Md72, ↓gX_Md77, ↓gX_Md78, ↓gX_Md79, ↓aI_w, ↓qI_w, ↓aI_s0, ↓qI_s0, ↓aI_s1, ↓qI_s1, ↓aI_s2, ↓qI_s2, ↓aI_s3, ↓qI_s3, ↓aI_a0, ↓qI_a0, ↓aI_a1, ↓qI_a1, ↓aI_a2, ↓qI_a2, ↓aI_a3, ↓qI_a3, ↓aI_l0, ↓qI_l0, ↓aI_l1, ↓qI_l1, ↓aI_l2, ↓qI_l2, ↓aI_is, ↓qI_is, ↓aI_ar, ↓qI_ar, ↓aI_ob, ↓qI_ob, ↓aI_hw, ↓qI_hw, ↓aI_ho, ↓qI_ho, ↓aI_rd, ↓qI_rd, ↓aI_tp, ↓qI_tp, ↓aI_m1, ↓qI_m1, ↓aI_m2, ↓qI_m2, ↓aI_m3, ↓qI_m3, ↓aI_m4, ↓qI_m4, ↓aI_m5, ↓qI_m5, ↓aI_m6, ↓qI_m6, ↓aI_m7, ↓qI_m7, ↓aI_m8, ↓qI_m8, ↓aI_m9, ↓qI_m9, ↓aI_m10, ↓qI_m10, ↓aI_m11, ↓qI_m11, ↓aI_m12, ↓qI_m12, ↓aI_m13, ↓qI_m13, ↓aI_m14, ↓qI_m14, ↓aI_m15, ↓qI_m15, ↓aI_m16, ↓qI_m16, ↓aI_m17, ↓qI_m17, ↓aI_m18, ↓qI_m18, ↓aI_m19, ↓qI_m19, ↓aI_m20, ↓qI_m20, ↓aI_m21, ↓qI_m21, ↓aI_m22, ↓qI_m22, ↓aI_m23, ↓qI_m23, ↓aI_m24, ↓qI_m24, ↓aI_m25, ↓qI_m25, ↓aI_m26, ↓qI_m26, ↓aI_m27, ↓qI_m27, ↓aI_m28, ↓qI_m28, ↓aI_m29, ↓qI_m29, ↓aI_m30, ↓qI_m30, ↓aI_m31, ↓qI_m31, ↓aI_m32, ↓qI_m32, ↓aI_m33, ↓qI_m33, ↓aI_m34, ↓qI_m34, ↓aI_m35, ↓qI_m35, ↓aI_m36, ↓qI_m36, ↓aI_m37, ↓qI_m37, ↓aI_m38, ↓qI_m38, ↓aI_m39, ↓qI_m39, ↓aI_m40, ↓qI_m40, ↓aI_m41, ↓qI_m41, ↓aI_m42, ↓qI_m42, ↓aI_m43, ↓qI_m43, ↓aI_m44, ↓qI_m44, ↓aI_m45, ↓qI_m45, ↓aI_m46, ↓qI_m46, ↓aI_m47, ↓qI_m47, ↓aI_m48, ↓qI_m48, ↓aI_m49, ↓qI_m49, ↓aI_m50, ↓qI_m50, ↓aI_m51, ↓qI_m51, ↓aI_m52, ↓qI_m52, ↓aI_m54, ↓qI_m54, ↓aI_m55, ↓qI_m55, ↓aZ_m53, ↓qZ_m53, ↓aZ_m56, ↓qZ_m56, ↓aX_3, ↓aX_4, ↓aX_5, ↓aX_6, ↓aX_324, ↓aX_325, ↓ai_0, ↓ai_1, ↓ai_2, ↓ai_3, ↓qi_0, ↓qi_1, ↓qi_2, ↓qi_3, ↓qi_4, ↓ly_qJ, ↓bd2_mk, ↓bdT_0, ↓bdC_0]
  · rw [V_wI, u2_n (by omega), g4 c q w1 (by omega), v0, u2_n (by omega), u2_n (by omega), u2_n (by omega)]
  · rw [V_wI, u2_n (by omega), r3]
  · rw [hc, V_wI, u2_n (by omega), g4 _ _ (by omega) (by omega), v0, u2_n (by omega), u2_s]
  · rw [hc, V_wI, u2_n (by omega), g4 _ _ (by omega) (by omega), v0, u2_s]
  · rw [V_wI, u2_s]
  · obtain ⟨C1, C2, C3, C4, C5, C6⟩ := hC
    refine ⟨C1, C2, fun s hs => ?_, ?_, fun p hp' => ?_, fun t ht => ?_⟩
    · rw [V_wI, u2_n (by omega)]; exact C3 s hs
    · rw [V_wI, u2_n (by omega)]; exact C4
    · rw [V_wI, u2_n (by omega)]; exact C5 p hp'
    · rw [V_wI, u2_n (by omega)]; exact C6 t ht
