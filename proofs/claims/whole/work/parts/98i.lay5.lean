/-! the stages, as the component lays them -/
def ct (v : Nat → Nat → Int32) (na n : Nat) (s : Nat × Nat × Int32) : Prop := ((stR v na n ||| stW v na n) &&& s.2.2) ≠ 0 ∨ (0 < n ∧ v 913 (n - 1) = -1) ∨ 3 ≤ n - s.2.1
/-- stage, its first step, what it writes, before step n -/
noncomputable def sgS (v : Nat → Nat → Int32) (na : Nat) : Nat → Nat × Nat × Int32
  | 0 => (0, 0, 0)
  | n + 1 => (@ite _ (ct v na n (sgS v na n)) (Classical.propDecidable _) (((sgS v na n).1 + 1, n, stW v na n)) (((sgS v na n).1, (sgS v na n).2.1, (sgS v na n).2.2 ||| stW v na n)))
theorem sgS_y {v : Nat → Nat → Int32} {na n : Nat} (h : ct v na n (sgS v na n)) : sgS v na (n + 1) = ((sgS v na n).1 + 1, n, stW v na n) := by rw [sgS, if_pos h]
theorem sgS_n {v : Nat → Nat → Int32} {na n : Nat} (h : ¬ ct v na n (sgS v na n)) : sgS v na (n + 1) = ((sgS v na n).1, (sgS v na n).2.1, (sgS v na n).2.2 ||| stW v na n) := by rw [sgS, if_neg h]
noncomputable def sg (v : Nat → Nat → Int32) (na p : Nat) : Nat := (sgS v na (p + 1)).1
theorem sg_d {v : Nat → Nat → Int32} {na p : Nat} : sg v na p = (sgS v na p).1 ∨ sg v na p = (sgS v na p).1 + 1 := by
  unfold sg
  rcases Classical.em (ct v na p (sgS v na p)) with c | c
  · rw [sgS_y c]; exact Or.inr rfl
  · rw [sgS_n c]; exact Or.inl rfl
theorem sgS_f {v : Nat → Nat → Int32} {na : Nat} : ∀ n, (sgS v na n).2.1 ≤ n := by
  intro n
  induction n with
  | zero => exact Nat.le_refl _
  | succ n ih =>
    rcases Classical.em (ct v na n (sgS v na n)) with c | c
    · rw [sgS_y c]; show n ≤ n + 1; omega
    · rw [sgS_n c]; show (sgS v na n).2.1 ≤ n + 1; omega
/-- the stage of the last step before i that applies t -/
noncomputable def tg (v : Nat → Nat → Int32) (na : Nat) : Nat → Nat → Nat
  | 0, _ => 0
  | i + 1, t => (@ite _ (v 913 i = nI t) (Classical.propDecidable _) (sg v na i) (tg v na i t))
theorem tg_y {v : Nat → Nat → Int32} {na i t : Nat} (h : v 913 i = nI t) : tg v na (i + 1) t = sg v na i := by rw [tg, if_pos h]
theorem tg_n {v : Nat → Nat → Int32} {na i t : Nat} (h : ¬ v 913 i = nI t) : tg v na (i + 1) t = tg v na i t := by rw [tg, if_neg h]
theorem tg_le {v : Nat → Nat → Int32} {na t : Nat} : ∀ i, tg v na i t ≤ (sgS v na i).1 := by
  intro i
  induction i with
  | zero => exact Nat.le_refl _
  | succ i ih =>
    rcases Classical.em (v 913 i = nI t) with c | c
    · rw [tg_y c]; exact Nat.le_refl _
    · rw [tg_n c]
      have := sg_d (v := v) (na := na) (p := i)
      unfold sg at this
      omega
/-- what the stages before step i have been laid to -/
def CI (o : Nat) (S0 S : Sx) (v : Nat → Nat → Int32) (na i : Nat) (fs : Nat → Nat) : Prop :=
  (Ly o S ∧ sR S = sR S0 ∧ sJ S = sJ S0 ∧ ∀ c q, ¬ (321 ≤ c ∧ c ≤ 323) → ¬ (c = 320 ∧ q = 4) → V o S c q = V o S0 c q) ∧
  (fs 0 = 0 ∧ fs (sgS v na i).1 = (sgS v na i).2.1) ∧ (∀ s, s ≤ (sgS v na i).1 → V o S 322 s = nI (fs s)) ∧ (∀ s, s < (sgS v na i).1 → fs s ≤ fs (s + 1)) ∧
  (∀ p, p < i → V o S 321 p = nI (sg v na p) ∧ sg v na p ≤ (sgS v na i).1 ∧ fs (sg v na p) ≤ p ∧ (sg v na p < (sgS v na i).1 → p < fs (sg v na p + 1))) ∧
  ∀ t, t < 8 → V o S 323 t = nI (tg v na i t)
theorem pE_w {o c q : Nat} {x : Int32} {S : Sx} {v : Nat → Nat → Int32} (hc : ¬ pc c q) (e : pE o S v) : pE o (wI S (o + c) q x) v := by
  intro a b hab
  have := e a b hab
  have h2 : V o (wI S (o + c) q x) a b = V o S a b := by
    rw [V_wI, u2_n (by rcases Classical.em (a = c) with x | x; exact Or.inr (fun y => hc (by rw [← x, ← y]; exact hab)); exact Or.inl x)]
  exact (show sI (wI S (o + c) q x) (o + a) b = sI S (o + a) b from h2).trans this
def S134 (o : Nat) (v : Nat → Nat → Int32) (st i : Nat) (S : Sx) : Sx := if v 913 i = -1 then wI S (o + 321) i (nI st) else wI (wI S (o + 321) i (nI st)) (o + 323) (cl (v 913 i)) (nI st)
theorem l134 {o nf ns na nt np i st : Nat} {v : Nat → Nat → Int32} {S : Sx} {x3 W : Int32} {k : Nat → Nat → Int32 → Int32 → Int32 → Sx → Option (Int32 × Sx)} (hL : Ly o S) (hp : PR v nf ns na nt np) (e : pE o S v) (hi : i < np) : fLa_stepBeyondStages_134 k (o + 320) (o + 2) (nI st) x3 (nI i) (o + (304 + i)) W S = k (o + 320) (o + 2) (nI st) (x3 ||| W) (nI (i + 1)) (S134 o v st i S) := by
  have b4 := hp.1.2.2.2.1
  have b5 := hp.1.2.2.2.2
  have hi16 : i < 16 := by omega
  have L1 : Ly o (wI S (o + 321) i (nI st)) := Ly_wI hL
  have e1 : pE o (wI S (o + 321) i (nI st)) v := pE_w (by unfold pc; omega) e
  have it := isT L1 hp e1 hi
  have e0 : sI (wI S (o + 321) i (nI st)) (o + (304 + i)) 0 = v 913 i := by rw [e1 _ _ (by unfold pc; omega)]; exact (hp.2.2.2.2.2.2.2.2.2.2 i hi).1
  unfold S134 fLa_stepBeyondStages_134
  generalize hS1 : wI S (o + 321) i (nI st) = S1 at L1 it e0
  rcases (hp.2.2.2.2.2.2.2.2.2.2 i hi).2 with ⟨t, t1, t2⟩ | ⟨c, _⟩
  · have ne : ¬ v 913 i = -1 := by rw [t2]; exact nN1 (by omega)
    have ht8 : t < 8 := by omega
    rw [bi_f ne] at it
    rw [t2] at e0
    rw [if_neg ne, t2, cl_n (by omega)]
    simp (disch := first | with_reducible assumption | omega | (repeat (first | with_reducible assumption | with_reducible apply Ly_wI | with_reducible apply Ly_nx | with_reducible apply Ly_wJ | with_reducible apply Ly_fl))) only [hS1, ↓bdO it, e0, nI_1, ↓reduceIte, rd_s, rd_n, rd_nx, rd_wJ, t00, t10, t20, t30, ↓gI_Mp, ↓pI_Mp, ↓ck_Mp, ↓gI_Pr, ↓pI_Pr, ↓ck_Pr, ↓gI_La, ↓pI_La, ↓pZ_La, ↓ck_La, ↓gI_Li, ↓pI_Li, ↓ck_Li, ↓gI_Ky, ↓pI_Ky, ↓ck_Ky, ↓gI_Rd, ↓pI_Rd, ↓ck_Rd, ↓gI_Tp, ↓pI_Tp, ↓ck_Tp, ↓gI_St, ↓pI_St, ↓ck_St, ↓gI_Ac, ↓pI_Ac, ↓ck_Ac, ↓gI_Ta, ↓pI_Ta, ↓ck_Ta, ↓gI_Sp, ↓pI_Sp, ↓ck_Sp, ↓gI_Op, ↓pI_Op, ↓ck_Op, ↓gI_Oe, ↓pI_Oe, ↓ck_Oe, ↓gI_Ob, ↓pI_Ob, ↓ck_Ob, ↓gI_He, ↓pI_He, ↓pZ_He, ↓ck_He, ↓gI_En, ↓pI_En, ↓ck_En, ↓gI_Md, ↓pI_Md, ↓pZ_Md, ↓ck_Md, ↓gX_Mp0, ↓gX_Mp1, ↓gX_Mp2, ↓gX_Mp3, ↓gX_Mp4, ↓gX_Mp5, ↓gX_Pr0, ↓gX_Pr1, ↓gX_Pr2, ↓gX_Pr3, ↓gX_Pr4, ↓gX_La0, ↓gX_La1, ↓gX_La2, ↓gX_Li0, ↓gX_Li1, ↓gX_Li2, ↓gX_Li3, ↓gX_Li4, ↓gX_Li5, ↓gX_Rd0, ↓gX_Tp0, ↓gX_St0, ↓gX_St1, ↓gX_St2, ↓gX_St3, ↓gX_Ac0, ↓gX_Ac1, ↓gX_Ac2, ↓gX_Ac3, ↓gX_Ta0, ↓gX_Op0, ↓gX_Op1, ↓gX_Ob0, ↓gX_He0, ↓gX_He1, ↓gX_Md8, ↓gX_Md9, ↓gX_Md10, ↓gX_Md11, ↓gX_Md12, ↓gX_Md13, ↓gX_Md14, ↓gX_Md15, ↓gX_Md16, ↓gX_Md17, ↓gX_Md18, ↓gX_Md19, ↓gX_Md20, ↓gX_Md21, ↓gX_Md22, ↓gX_Md23, ↓gX_Md24, ↓gX_Md25, ↓gX_Md26, ↓gX_Md27, ↓gX_Md28, ↓gX_Md29, ↓gX_Md30, ↓gX_Md31, ↓gX_Md32, ↓gX_Md35, ↓gX_Md36, ↓gX_Md37, ↓gX_Md38, ↓gX_Md39, ↓gX_Md40, ↓gX_Md41, ↓gX_Md42, ↓gX_Md43, ↓gX_Md44, ↓gX_Md45, ↓gX_Md46, ↓gX_Md57, ↓gX_Md58, ↓gX_Md59, ↓gX_Md60, ↓gX_Md61, ↓gX_Md62, ↓gX_Md63, ↓gX_Md64, ↓gX_Md65, ↓gX_Md66, ↓gX_Md67, ↓gX_Md68, ↓gX_Md69, ↓gX_Md70, ↓gX_Md71, ↓gX_Md72, ↓gX_Md77, ↓gX_Md78, ↓gX_Md79, ↓aI_w, ↓qI_w, ↓aI_s0, ↓qI_s0, ↓aI_s1, ↓qI_s1, ↓aI_s2, ↓qI_s2, ↓aI_s3, ↓qI_s3, ↓aI_a0, ↓qI_a0, ↓aI_a1, ↓qI_a1, ↓aI_a2, ↓qI_a2, ↓aI_a3, ↓qI_a3, ↓aI_l0, ↓qI_l0, ↓aI_l1, ↓qI_l1, ↓aI_l2, ↓qI_l2, ↓aI_is, ↓qI_is, ↓aI_ar, ↓qI_ar, ↓aI_ob, ↓qI_ob, ↓aI_hw, ↓qI_hw, ↓aI_ho, ↓qI_ho, ↓aI_rd, ↓qI_rd, ↓aI_tp, ↓qI_tp, ↓aI_m1, ↓qI_m1, ↓aI_m2, ↓qI_m2, ↓aI_m3, ↓qI_m3, ↓aI_m4, ↓qI_m4, ↓aI_m5, ↓qI_m5, ↓aI_m6, ↓qI_m6, ↓aI_m7, ↓qI_m7, ↓aI_m8, ↓qI_m8, ↓aI_m9, ↓qI_m9, ↓aI_m10, ↓qI_m10, ↓aI_m11, ↓qI_m11, ↓aI_m12, ↓qI_m12, ↓aI_m13, ↓qI_m13, ↓aI_m14, ↓qI_m14, ↓aI_m15, ↓qI_m15, ↓aI_m16, ↓qI_m16, ↓aI_m17, ↓qI_m17, ↓aI_m18, ↓qI_m18, ↓aI_m19, ↓qI_m19, ↓aI_m20, ↓qI_m20, ↓aI_m21, ↓qI_m21, ↓aI_m22, ↓qI_m22, ↓aI_m23, ↓qI_m23, ↓aI_m24, ↓qI_m24, ↓aI_m25, ↓qI_m25, ↓aI_m26, ↓qI_m26, ↓aI_m27, ↓qI_m27, ↓aI_m28, ↓qI_m28, ↓aI_m29, ↓qI_m29, ↓aI_m30, ↓qI_m30, ↓aI_m31, ↓qI_m31, ↓aI_m32, ↓qI_m32, ↓aI_m33, ↓qI_m33, ↓aI_m34, ↓qI_m34, ↓aI_m35, ↓qI_m35, ↓aI_m36, ↓qI_m36, ↓aI_m37, ↓qI_m37, ↓aI_m38, ↓qI_m38, ↓aI_m39, ↓qI_m39, ↓aI_m40, ↓qI_m40, ↓aI_m41, ↓qI_m41, ↓aI_m42, ↓qI_m42, ↓aI_m43, ↓qI_m43, ↓aI_m44, ↓qI_m44, ↓aI_m45, ↓qI_m45, ↓aI_m46, ↓qI_m46, ↓aI_m47, ↓qI_m47, ↓aI_m48, ↓qI_m48, ↓aI_m49, ↓qI_m49, ↓aI_m50, ↓qI_m50, ↓aI_m51, ↓qI_m51, ↓aI_m52, ↓qI_m52, ↓aI_m54, ↓qI_m54, ↓aI_m55, ↓qI_m55, ↓aZ_m53, ↓qZ_m53, ↓aZ_m56, ↓qZ_m56, ↓aX_3, ↓aX_4, ↓aX_5, ↓aX_6, ↓aX_324, ↓aX_325, ↓ai_0, ↓ai_1, ↓ai_2, ↓ai_3, ↓qi_0, ↓qi_1, ↓qi_2, ↓qi_3, ↓qi_4, ↓ly_qJ, ↓bd2_mk, ↓bdT_0, ↓bdC_0]
  · rw [bi_t c] at it
    rw [if_pos c]
    simp (disch := first | with_reducible assumption | omega | (repeat (first | with_reducible assumption | with_reducible apply Ly_wI | with_reducible apply Ly_nx | with_reducible apply Ly_wJ | with_reducible apply Ly_fl))) only [hS1, ↓bdO it, i10, nI_1, ↓reduceIte, rd_s, rd_n, rd_nx, rd_wJ, t00, t10, t20, t30, ↓gI_Mp, ↓pI_Mp, ↓ck_Mp, ↓gI_Pr, ↓pI_Pr, ↓ck_Pr, ↓gI_La, ↓pI_La, ↓pZ_La, ↓ck_La, ↓gI_Li, ↓pI_Li, ↓ck_Li, ↓gI_Ky, ↓pI_Ky, ↓ck_Ky, ↓gI_Rd, ↓pI_Rd, ↓ck_Rd, ↓gI_Tp, ↓pI_Tp, ↓ck_Tp, ↓gI_St, ↓pI_St, ↓ck_St, ↓gI_Ac, ↓pI_Ac, ↓ck_Ac, ↓gI_Ta, ↓pI_Ta, ↓ck_Ta, ↓gI_Sp, ↓pI_Sp, ↓ck_Sp, ↓gI_Op, ↓pI_Op, ↓ck_Op, ↓gI_Oe, ↓pI_Oe, ↓ck_Oe, ↓gI_Ob, ↓pI_Ob, ↓ck_Ob, ↓gI_He, ↓pI_He, ↓pZ_He, ↓ck_He, ↓gI_En, ↓pI_En, ↓ck_En, ↓gI_Md, ↓pI_Md, ↓pZ_Md, ↓ck_Md, ↓gX_Mp0, ↓gX_Mp1, ↓gX_Mp2, ↓gX_Mp3, ↓gX_Mp4, ↓gX_Mp5, ↓gX_Pr0, ↓gX_Pr1, ↓gX_Pr2, ↓gX_Pr3, ↓gX_Pr4, ↓gX_La0, ↓gX_La1, ↓gX_La2, ↓gX_Li0, ↓gX_Li1, ↓gX_Li2, ↓gX_Li3, ↓gX_Li4, ↓gX_Li5, ↓gX_Rd0, ↓gX_Tp0, ↓gX_St0, ↓gX_St1, ↓gX_St2, ↓gX_St3, ↓gX_Ac0, ↓gX_Ac1, ↓gX_Ac2, ↓gX_Ac3, ↓gX_Ta0, ↓gX_Op0, ↓gX_Op1, ↓gX_Ob0, ↓gX_He0, ↓gX_He1, ↓gX_Md8, ↓gX_Md9, ↓gX_Md10, ↓gX_Md11, ↓gX_Md12, ↓gX_Md13, ↓gX_Md14, ↓gX_Md15, ↓gX_Md16, ↓gX_Md17, ↓gX_Md18, ↓gX_Md19, ↓gX_Md20, ↓gX_Md21, ↓gX_Md22, ↓gX_Md23, ↓gX_Md24, ↓gX_Md25, ↓gX_Md26, ↓gX_Md27, ↓gX_Md28, ↓gX_Md29, ↓gX_Md30, ↓gX_Md31, ↓gX_Md32, ↓gX_Md35, ↓gX_Md36, ↓gX_Md37, ↓gX_Md38, ↓gX_Md39, ↓gX_Md40, ↓gX_Md41, ↓gX_Md42, ↓gX_Md43, ↓gX_Md44, ↓gX_Md45, ↓gX_Md46, ↓gX_Md57, ↓gX_Md58, ↓gX_Md59, ↓gX_Md60, ↓gX_Md61, ↓gX_Md62, ↓gX_Md63, ↓gX_Md64, ↓gX_Md65, ↓gX_Md66, ↓gX_Md67, ↓gX_Md68, ↓gX_Md69, ↓gX_Md70, ↓gX_Md71, ↓gX_Md72, ↓gX_Md77, ↓gX_Md78, ↓gX_Md79, ↓aI_w, ↓qI_w, ↓aI_s0, ↓qI_s0, ↓aI_s1, ↓qI_s1, ↓aI_s2, ↓qI_s2, ↓aI_s3, ↓qI_s3, ↓aI_a0, ↓qI_a0, ↓aI_a1, ↓qI_a1, ↓aI_a2, ↓qI_a2, ↓aI_a3, ↓qI_a3, ↓aI_l0, ↓qI_l0, ↓aI_l1, ↓qI_l1, ↓aI_l2, ↓qI_l2, ↓aI_is, ↓qI_is, ↓aI_ar, ↓qI_ar, ↓aI_ob, ↓qI_ob, ↓aI_hw, ↓qI_hw, ↓aI_ho, ↓qI_ho, ↓aI_rd, ↓qI_rd, ↓aI_tp, ↓qI_tp, ↓aI_m1, ↓qI_m1, ↓aI_m2, ↓qI_m2, ↓aI_m3, ↓qI_m3, ↓aI_m4, ↓qI_m4, ↓aI_m5, ↓qI_m5, ↓aI_m6, ↓qI_m6, ↓aI_m7, ↓qI_m7, ↓aI_m8, ↓qI_m8, ↓aI_m9, ↓qI_m9, ↓aI_m10, ↓qI_m10, ↓aI_m11, ↓qI_m11, ↓aI_m12, ↓qI_m12, ↓aI_m13, ↓qI_m13, ↓aI_m14, ↓qI_m14, ↓aI_m15, ↓qI_m15, ↓aI_m16, ↓qI_m16, ↓aI_m17, ↓qI_m17, ↓aI_m18, ↓qI_m18, ↓aI_m19, ↓qI_m19, ↓aI_m20, ↓qI_m20, ↓aI_m21, ↓qI_m21, ↓aI_m22, ↓qI_m22, ↓aI_m23, ↓qI_m23, ↓aI_m24, ↓qI_m24, ↓aI_m25, ↓qI_m25, ↓aI_m26, ↓qI_m26, ↓aI_m27, ↓qI_m27, ↓aI_m28, ↓qI_m28, ↓aI_m29, ↓qI_m29, ↓aI_m30, ↓qI_m30, ↓aI_m31, ↓qI_m31, ↓aI_m32, ↓qI_m32, ↓aI_m33, ↓qI_m33, ↓aI_m34, ↓qI_m34, ↓aI_m35, ↓qI_m35, ↓aI_m36, ↓qI_m36, ↓aI_m37, ↓qI_m37, ↓aI_m38, ↓qI_m38, ↓aI_m39, ↓qI_m39, ↓aI_m40, ↓qI_m40, ↓aI_m41, ↓qI_m41, ↓aI_m42, ↓qI_m42, ↓aI_m43, ↓qI_m43, ↓aI_m44, ↓qI_m44, ↓aI_m45, ↓qI_m45, ↓aI_m46, ↓qI_m46, ↓aI_m47, ↓qI_m47, ↓aI_m48, ↓qI_m48, ↓aI_m49, ↓qI_m49, ↓aI_m50, ↓qI_m50, ↓aI_m51, ↓qI_m51, ↓aI_m52, ↓qI_m52, ↓aI_m54, ↓qI_m54, ↓aI_m55, ↓qI_m55, ↓aZ_m53, ↓qZ_m53, ↓aZ_m56, ↓qZ_m56, ↓aX_3, ↓aX_4, ↓aX_5, ↓aX_6, ↓aX_324, ↓aX_325, ↓ai_0, ↓ai_1, ↓ai_2, ↓ai_3, ↓qi_0, ↓qi_1, ↓qi_2, ↓qi_3, ↓qi_4, ↓ly_qJ, ↓bd2_mk, ↓bdT_0, ↓bdC_0]
theorem l60 {o nf ns na nt np i st fi : Nat} {v : Nat → Nat → Int32} {S : Sx} {x3 W z : Int32} {k : Nat → Nat → Int32 → Int32 → Int32 → Sx → Option (Int32 × Sx)} (hL : Ly o S) (hp : PR v nf ns na nt np) (e : pE o S v) (hi : i < np) (hst : st < 12) (hfi : fi ≤ i) (e21 : sI S (o + 322) st = nI fi) (hz : z = 0 ∨ z = 1) : fLa_stepBeyondStages_60 k (o + 320) (o + 2) (nI st) x3 (nI i) (o + (304 + i)) W z S = (@ite _ (z = 1 ∨ (0 < i ∧ v 913 (i - 1) = -1) ∨ 3 ≤ i - fi) (Classical.propDecidable _) (fLa_stepBeyondStages_112 k (o + 320) (o + 2) (nI st) (nI i) (o + (304 + i)) W S) (fLa_stepBeyondStages_134 k (o + 320) (o + 2) (nI st) x3 (nI i) (o + (304 + i)) W S)) := by
  have b5 := hp.1.2.2.2.2
  have sub : nI i - nI fi = nI (i - fi) := nI_sub hfi
  have i01 : ¬ (1 : Int32) = 0 := by decide
  have h87 : ∀ y : Int32, (y = 0 ∨ y = 1) → fLa_stepBeyondStages_87 k (o + 320) (o + 2) (nI st) x3 (nI i) (o + (304 + i)) W z y S = (@ite _ (z = 1 ∨ y = 1 ∨ 3 ≤ i - fi) (Classical.propDecidable _) (fLa_stepBeyondStages_112 k (o + 320) (o + 2) (nI st) (nI i) (o + (304 + i)) W S) (fLa_stepBeyondStages_134 k (o + 320) (o + 2) (nI st) x3 (nI i) (o + (304 + i)) W S)) := by
    intro y hy
    unfold fLa_stepBeyondStages_87
    rcases hz with hz | hz
    · rcases hy with hy | hy
      · by_cases d : 3 ≤ i - fi
        · have nl : ¬ nI (i - fi) < 3 := nI_nl (b := 3) d (by omega)
          rw [if_pos (c := z = 1 ∨ y = 1 ∨ 3 ≤ i - fi) (Or.inr (Or.inr d)), if_pos hz, if_pos hy]
          simp (disch := first | with_reducible assumption | omega | (repeat (first | with_reducible assumption | with_reducible apply Ly_wI | with_reducible apply Ly_nx | with_reducible apply Ly_wJ | with_reducible apply Ly_fl))) only [e21, sub, nl, ↓reduceIte, rd_s, rd_n, rd_nx, rd_wJ, t00, t10, t20, t30, ↓gI_Mp, ↓pI_Mp, ↓ck_Mp, ↓gI_Pr, ↓pI_Pr, ↓ck_Pr, ↓gI_La, ↓pI_La, ↓pZ_La, ↓ck_La, ↓gI_Li, ↓pI_Li, ↓ck_Li, ↓gI_Ky, ↓pI_Ky, ↓ck_Ky, ↓gI_Rd, ↓pI_Rd, ↓ck_Rd, ↓gI_Tp, ↓pI_Tp, ↓ck_Tp, ↓gI_St, ↓pI_St, ↓ck_St, ↓gI_Ac, ↓pI_Ac, ↓ck_Ac, ↓gI_Ta, ↓pI_Ta, ↓ck_Ta, ↓gI_Sp, ↓pI_Sp, ↓ck_Sp, ↓gI_Op, ↓pI_Op, ↓ck_Op, ↓gI_Oe, ↓pI_Oe, ↓ck_Oe, ↓gI_Ob, ↓pI_Ob, ↓ck_Ob, ↓gI_He, ↓pI_He, ↓pZ_He, ↓ck_He, ↓gI_En, ↓pI_En, ↓ck_En, ↓gI_Md, ↓pI_Md, ↓pZ_Md, ↓ck_Md, ↓gX_Mp0, ↓gX_Mp1, ↓gX_Mp2, ↓gX_Mp3, ↓gX_Mp4, ↓gX_Mp5, ↓gX_Pr0, ↓gX_Pr1, ↓gX_Pr2, ↓gX_Pr3, ↓gX_Pr4, ↓gX_La0, ↓gX_La1, ↓gX_La2, ↓gX_Li0, ↓gX_Li1, ↓gX_Li2, ↓gX_Li3, ↓gX_Li4, ↓gX_Li5, ↓gX_Rd0, ↓gX_Tp0, ↓gX_St0, ↓gX_St1, ↓gX_St2, ↓gX_St3, ↓gX_Ac0, ↓gX_Ac1, ↓gX_Ac2, ↓gX_Ac3, ↓gX_Ta0, ↓gX_Op0, ↓gX_Op1, ↓gX_Ob0, ↓gX_He0, ↓gX_He1, ↓gX_Md8, ↓gX_Md9, ↓gX_Md10, ↓gX_Md11, ↓gX_Md12, ↓gX_Md13, ↓gX_Md14, ↓gX_Md15, ↓gX_Md16, ↓gX_Md17, ↓gX_Md18, ↓gX_Md19, ↓gX_Md20, ↓gX_Md21, ↓gX_Md22, ↓gX_Md23, ↓gX_Md24, ↓gX_Md25, ↓gX_Md26, ↓gX_Md27, ↓gX_Md28, ↓gX_Md29, ↓gX_Md30, ↓gX_Md31, ↓gX_Md32, ↓gX_Md35, ↓gX_Md36, ↓gX_Md37, ↓gX_Md38, ↓gX_Md39, ↓gX_Md40, ↓gX_Md41, ↓gX_Md42, ↓gX_Md43, ↓gX_Md44, ↓gX_Md45, ↓gX_Md46, ↓gX_Md57, ↓gX_Md58, ↓gX_Md59, ↓gX_Md60, ↓gX_Md61, ↓gX_Md62, ↓gX_Md63, ↓gX_Md64, ↓gX_Md65, ↓gX_Md66, ↓gX_Md67, ↓gX_Md68, ↓gX_Md69, ↓gX_Md70, ↓gX_Md71, ↓gX_Md72, ↓gX_Md77, ↓gX_Md78, ↓gX_Md79, ↓aI_w, ↓qI_w, ↓aI_s0, ↓qI_s0, ↓aI_s1, ↓qI_s1, ↓aI_s2, ↓qI_s2, ↓aI_s3, ↓qI_s3, ↓aI_a0, ↓qI_a0, ↓aI_a1, ↓qI_a1, ↓aI_a2, ↓qI_a2, ↓aI_a3, ↓qI_a3, ↓aI_l0, ↓qI_l0, ↓aI_l1, ↓qI_l1, ↓aI_l2, ↓qI_l2, ↓aI_is, ↓qI_is, ↓aI_ar, ↓qI_ar, ↓aI_ob, ↓qI_ob, ↓aI_hw, ↓qI_hw, ↓aI_ho, ↓qI_ho, ↓aI_rd, ↓qI_rd, ↓aI_tp, ↓qI_tp, ↓aI_m1, ↓qI_m1, ↓aI_m2, ↓qI_m2, ↓aI_m3, ↓qI_m3, ↓aI_m4, ↓qI_m4, ↓aI_m5, ↓qI_m5, ↓aI_m6, ↓qI_m6, ↓aI_m7, ↓qI_m7, ↓aI_m8, ↓qI_m8, ↓aI_m9, ↓qI_m9, ↓aI_m10, ↓qI_m10, ↓aI_m11, ↓qI_m11, ↓aI_m12, ↓qI_m12, ↓aI_m13, ↓qI_m13, ↓aI_m14, ↓qI_m14, ↓aI_m15, ↓qI_m15, ↓aI_m16, ↓qI_m16, ↓aI_m17, ↓qI_m17, ↓aI_m18, ↓qI_m18, ↓aI_m19, ↓qI_m19, ↓aI_m20, ↓qI_m20, ↓aI_m21, ↓qI_m21, ↓aI_m22, ↓qI_m22, ↓aI_m23, ↓qI_m23, ↓aI_m24, ↓qI_m24, ↓aI_m25, ↓qI_m25, ↓aI_m26, ↓qI_m26, ↓aI_m27, ↓qI_m27, ↓aI_m28, ↓qI_m28, ↓aI_m29, ↓qI_m29, ↓aI_m30, ↓qI_m30, ↓aI_m31, ↓qI_m31, ↓aI_m32, ↓qI_m32, ↓aI_m33, ↓qI_m33, ↓aI_m34, ↓qI_m34, ↓aI_m35, ↓qI_m35, ↓aI_m36, ↓qI_m36, ↓aI_m37, ↓qI_m37, ↓aI_m38, ↓qI_m38, ↓aI_m39, ↓qI_m39, ↓aI_m40, ↓qI_m40, ↓aI_m41, ↓qI_m41, ↓aI_m42, ↓qI_m42, ↓aI_m43, ↓qI_m43, ↓aI_m44, ↓qI_m44, ↓aI_m45, ↓qI_m45, ↓aI_m46, ↓qI_m46, ↓aI_m47, ↓qI_m47, ↓aI_m48, ↓qI_m48, ↓aI_m49, ↓qI_m49, ↓aI_m50, ↓qI_m50, ↓aI_m51, ↓qI_m51, ↓aI_m52, ↓qI_m52, ↓aI_m54, ↓qI_m54, ↓aI_m55, ↓qI_m55, ↓aZ_m53, ↓qZ_m53, ↓aZ_m56, ↓qZ_m56, ↓aX_3, ↓aX_4, ↓aX_5, ↓aX_6, ↓aX_324, ↓aX_325, ↓ai_0, ↓ai_1, ↓ai_2, ↓ai_3, ↓qi_0, ↓qi_1, ↓qi_2, ↓qi_3, ↓qi_4, ↓ly_qJ, ↓bd2_mk, ↓bdT_0, ↓bdC_0]
        · have nl : nI (i - fi) < 3 := nI_lt (b := 3) (by omega) (by omega)
          rw [if_neg (c := z = 1 ∨ y = 1 ∨ 3 ≤ i - fi) (by rw [hz, hy]; rintro (w | w | w); exact absurd w (by decide); exact absurd w (by decide); exact d w), if_pos hz, if_pos hy]
          simp (disch := first | with_reducible assumption | omega | (repeat (first | with_reducible assumption | with_reducible apply Ly_wI | with_reducible apply Ly_nx | with_reducible apply Ly_wJ | with_reducible apply Ly_fl))) only [e21, sub, nl, ↓reduceIte, rd_s, rd_n, rd_nx, rd_wJ, t00, t10, t20, t30, ↓gI_Mp, ↓pI_Mp, ↓ck_Mp, ↓gI_Pr, ↓pI_Pr, ↓ck_Pr, ↓gI_La, ↓pI_La, ↓pZ_La, ↓ck_La, ↓gI_Li, ↓pI_Li, ↓ck_Li, ↓gI_Ky, ↓pI_Ky, ↓ck_Ky, ↓gI_Rd, ↓pI_Rd, ↓ck_Rd, ↓gI_Tp, ↓pI_Tp, ↓ck_Tp, ↓gI_St, ↓pI_St, ↓ck_St, ↓gI_Ac, ↓pI_Ac, ↓ck_Ac, ↓gI_Ta, ↓pI_Ta, ↓ck_Ta, ↓gI_Sp, ↓pI_Sp, ↓ck_Sp, ↓gI_Op, ↓pI_Op, ↓ck_Op, ↓gI_Oe, ↓pI_Oe, ↓ck_Oe, ↓gI_Ob, ↓pI_Ob, ↓ck_Ob, ↓gI_He, ↓pI_He, ↓pZ_He, ↓ck_He, ↓gI_En, ↓pI_En, ↓ck_En, ↓gI_Md, ↓pI_Md, ↓pZ_Md, ↓ck_Md, ↓gX_Mp0, ↓gX_Mp1, ↓gX_Mp2, ↓gX_Mp3, ↓gX_Mp4, ↓gX_Mp5, ↓gX_Pr0, ↓gX_Pr1, ↓gX_Pr2, ↓gX_Pr3, ↓gX_Pr4, ↓gX_La0, ↓gX_La1, ↓gX_La2, ↓gX_Li0, ↓gX_Li1, ↓gX_Li2, ↓gX_Li3, ↓gX_Li4, ↓gX_Li5, ↓gX_Rd0, ↓gX_Tp0, ↓gX_St0, ↓gX_St1, ↓gX_St2, ↓gX_St3, ↓gX_Ac0, ↓gX_Ac1, ↓gX_Ac2, ↓gX_Ac3, ↓gX_Ta0, ↓gX_Op0, ↓gX_Op1, ↓gX_Ob0, ↓gX_He0, ↓gX_He1, ↓gX_Md8, ↓gX_Md9, ↓gX_Md10, ↓gX_Md11, ↓gX_Md12, ↓gX_Md13, ↓gX_Md14, ↓gX_Md15, ↓gX_Md16, ↓gX_Md17, ↓gX_Md18, ↓gX_Md19, ↓gX_Md20, ↓gX_Md21, ↓gX_Md22, ↓gX_Md23, ↓gX_Md24, ↓gX_Md25, ↓gX_Md26, ↓gX_Md27, ↓gX_Md28, ↓gX_Md29, ↓gX_Md30, ↓gX_Md31, ↓gX_Md32, ↓gX_Md35, ↓gX_Md36, ↓gX_Md37, ↓gX_Md38, ↓gX_Md39, ↓gX_Md40, ↓gX_Md41, ↓gX_Md42, ↓gX_Md43, ↓gX_Md44, ↓gX_Md45, ↓gX_Md46, ↓gX_Md57, ↓gX_Md58, ↓gX_Md59, ↓gX_Md60, ↓gX_Md61, ↓gX_Md62, ↓gX_Md63, ↓gX_Md64, ↓gX_Md65, ↓gX_Md66, ↓gX_Md67, ↓gX_Md68, ↓gX_Md69, ↓gX_Md70, ↓gX_Md71, ↓gX_Md72, ↓gX_Md77, ↓gX_Md78, ↓gX_Md79, ↓aI_w, ↓qI_w, ↓aI_s0, ↓qI_s0, ↓aI_s1, ↓qI_s1, ↓aI_s2, ↓qI_s2, ↓aI_s3, ↓qI_s3, ↓aI_a0, ↓qI_a0, ↓aI_a1, ↓qI_a1, ↓aI_a2, ↓qI_a2, ↓aI_a3, ↓qI_a3, ↓aI_l0, ↓qI_l0, ↓aI_l1, ↓qI_l1, ↓aI_l2, ↓qI_l2, ↓aI_is, ↓qI_is, ↓aI_ar, ↓qI_ar, ↓aI_ob, ↓qI_ob, ↓aI_hw, ↓qI_hw, ↓aI_ho, ↓qI_ho, ↓aI_rd, ↓qI_rd, ↓aI_tp, ↓qI_tp, ↓aI_m1, ↓qI_m1, ↓aI_m2, ↓qI_m2, ↓aI_m3, ↓qI_m3, ↓aI_m4, ↓qI_m4, ↓aI_m5, ↓qI_m5, ↓aI_m6, ↓qI_m6, ↓aI_m7, ↓qI_m7, ↓aI_m8, ↓qI_m8, ↓aI_m9, ↓qI_m9, ↓aI_m10, ↓qI_m10, ↓aI_m11, ↓qI_m11, ↓aI_m12, ↓qI_m12, ↓aI_m13, ↓qI_m13, ↓aI_m14, ↓qI_m14, ↓aI_m15, ↓qI_m15, ↓aI_m16, ↓qI_m16, ↓aI_m17, ↓qI_m17, ↓aI_m18, ↓qI_m18, ↓aI_m19, ↓qI_m19, ↓aI_m20, ↓qI_m20, ↓aI_m21, ↓qI_m21, ↓aI_m22, ↓qI_m22, ↓aI_m23, ↓qI_m23, ↓aI_m24, ↓qI_m24, ↓aI_m25, ↓qI_m25, ↓aI_m26, ↓qI_m26, ↓aI_m27, ↓qI_m27, ↓aI_m28, ↓qI_m28, ↓aI_m29, ↓qI_m29, ↓aI_m30, ↓qI_m30, ↓aI_m31, ↓qI_m31, ↓aI_m32, ↓qI_m32, ↓aI_m33, ↓qI_m33, ↓aI_m34, ↓qI_m34, ↓aI_m35, ↓qI_m35, ↓aI_m36, ↓qI_m36, ↓aI_m37, ↓qI_m37, ↓aI_m38, ↓qI_m38, ↓aI_m39, ↓qI_m39, ↓aI_m40, ↓qI_m40, ↓aI_m41, ↓qI_m41, ↓aI_m42, ↓qI_m42, ↓aI_m43, ↓qI_m43, ↓aI_m44, ↓qI_m44, ↓aI_m45, ↓qI_m45, ↓aI_m46, ↓qI_m46, ↓aI_m47, ↓qI_m47, ↓aI_m48, ↓qI_m48, ↓aI_m49, ↓qI_m49, ↓aI_m50, ↓qI_m50, ↓aI_m51, ↓qI_m51, ↓aI_m52, ↓qI_m52, ↓aI_m54, ↓qI_m54, ↓aI_m55, ↓qI_m55, ↓aZ_m53, ↓qZ_m53, ↓aZ_m56, ↓qZ_m56, ↓aX_3, ↓aX_4, ↓aX_5, ↓aX_6, ↓aX_324, ↓aX_325, ↓ai_0, ↓ai_1, ↓ai_2, ↓ai_3, ↓qi_0, ↓qi_1, ↓qi_2, ↓qi_3, ↓qi_4, ↓ly_qJ, ↓bd2_mk, ↓bdT_0, ↓bdC_0]
      · rw [if_pos (c := z = 1 ∨ y = 1 ∨ 3 ≤ i - fi) (Or.inr (Or.inl hy)), if_pos hz, if_neg (by rw [hy]; exact i01)]
    · rw [if_pos (c := z = 1 ∨ y = 1 ∨ 3 ≤ i - fi) (Or.inl hz), if_neg (by rw [hz]; exact i01)]
  unfold fLa_stepBeyondStages_60 fLa_stepBeyondStages_86
  by_cases d0 : i = 0
  · have le : nI i ≤ 0 := by rw [d0]; decide
    have r := h87 0 (Or.inl rfl)
    rw [if_pos le, r]
    congr 1
    exact propext ⟨fun w => w.elim Or.inl (fun w => w.elim (fun x => absurd x (by decide)) (fun x => Or.inr (Or.inr x))), fun w => w.elim Or.inl (fun w => w.elim (fun x => by omega) (fun x => Or.inr (Or.inr x)))⟩
  · have nle : ¬ nI i ≤ 0 := nI_ge (b := i) (a := 0) (by omega) (by omega)
    obtain ⟨i', rfl⟩ : ∃ i', i = i' + 1 := ⟨i - 1, by omega⟩
    have im : nI (i' + 1) - 1 = nI i' := by rw [← nI_1, nI_m]
    have it := isT hL hp e (show i' < np by omega)
    have hi16 : i' < 16 := by omega
    rw [if_neg nle]
    by_cases c : v 913 i' = -1
    · rw [bi_t c] at it
      rw [if_pos (c := z = 1 ∨ (0 < i' + 1 ∧ v 913 (i' + 1 - 1) = -1) ∨ 3 ≤ i' + 1 - fi) (Or.inr (Or.inl ⟨by omega, c⟩))]
      have r := h87 1 (Or.inr rfl)
      rw [if_pos (c := z = 1 ∨ (1 : Int32) = 1 ∨ 3 ≤ i' + 1 - fi) (Or.inr (Or.inl rfl))] at r
      refine Eq.trans ?_ r
      simp (disch := first | with_reducible assumption | omega | (repeat (first | with_reducible assumption | with_reducible apply Ly_wI | with_reducible apply Ly_nx | with_reducible apply Ly_wJ | with_reducible apply Ly_fl))) only [im, ↓bdO it, i10, ↓reduceIte, rd_s, rd_n, rd_nx, rd_wJ, t00, t10, t20, t30, ↓gI_Mp, ↓pI_Mp, ↓ck_Mp, ↓gI_Pr, ↓pI_Pr, ↓ck_Pr, ↓gI_La, ↓pI_La, ↓pZ_La, ↓ck_La, ↓gI_Li, ↓pI_Li, ↓ck_Li, ↓gI_Ky, ↓pI_Ky, ↓ck_Ky, ↓gI_Rd, ↓pI_Rd, ↓ck_Rd, ↓gI_Tp, ↓pI_Tp, ↓ck_Tp, ↓gI_St, ↓pI_St, ↓ck_St, ↓gI_Ac, ↓pI_Ac, ↓ck_Ac, ↓gI_Ta, ↓pI_Ta, ↓ck_Ta, ↓gI_Sp, ↓pI_Sp, ↓ck_Sp, ↓gI_Op, ↓pI_Op, ↓ck_Op, ↓gI_Oe, ↓pI_Oe, ↓ck_Oe, ↓gI_Ob, ↓pI_Ob, ↓ck_Ob, ↓gI_He, ↓pI_He, ↓pZ_He, ↓ck_He, ↓gI_En, ↓pI_En, ↓ck_En, ↓gI_Md, ↓pI_Md, ↓pZ_Md, ↓ck_Md, ↓gX_Mp0, ↓gX_Mp1, ↓gX_Mp2, ↓gX_Mp3, ↓gX_Mp4, ↓gX_Mp5, ↓gX_Pr0, ↓gX_Pr1, ↓gX_Pr2, ↓gX_Pr3, ↓gX_Pr4, ↓gX_La0, ↓gX_La1, ↓gX_La2, ↓gX_Li0, ↓gX_Li1, ↓gX_Li2, ↓gX_Li3, ↓gX_Li4, ↓gX_Li5, ↓gX_Rd0, ↓gX_Tp0, ↓gX_St0, ↓gX_St1, ↓gX_St2, ↓gX_St3, ↓gX_Ac0, ↓gX_Ac1, ↓gX_Ac2, ↓gX_Ac3, ↓gX_Ta0, ↓gX_Op0, ↓gX_Op1, ↓gX_Ob0, ↓gX_He0, ↓gX_He1, ↓gX_Md8, ↓gX_Md9, ↓gX_Md10, ↓gX_Md11, ↓gX_Md12, ↓gX_Md13, ↓gX_Md14, ↓gX_Md15, ↓gX_Md16, ↓gX_Md17, ↓gX_Md18, ↓gX_Md19, ↓gX_Md20, ↓gX_Md21, ↓gX_Md22, ↓gX_Md23, ↓gX_Md24, ↓gX_Md25, ↓gX_Md26, ↓gX_Md27, ↓gX_Md28, ↓gX_Md29, ↓gX_Md30, ↓gX_Md31, ↓gX_Md32, ↓gX_Md35, ↓gX_Md36, ↓gX_Md37, ↓gX_Md38, ↓gX_Md39, ↓gX_Md40, ↓gX_Md41, ↓gX_Md42, ↓gX_Md43, ↓gX_Md44, ↓gX_Md45, ↓gX_Md46, ↓gX_Md57, ↓gX_Md58, ↓gX_Md59, ↓gX_Md60, ↓gX_Md61, ↓gX_Md62, ↓gX_Md63, ↓gX_Md64, ↓gX_Md65, ↓gX_Md66, ↓gX_Md67, ↓gX_Md68, ↓gX_Md69, ↓gX_Md70, ↓gX_Md71, ↓gX_Md72, ↓gX_Md77, ↓gX_Md78, ↓gX_Md79, ↓aI_w, ↓qI_w, ↓aI_s0, ↓qI_s0, ↓aI_s1, ↓qI_s1, ↓aI_s2, ↓qI_s2, ↓aI_s3, ↓qI_s3, ↓aI_a0, ↓qI_a0, ↓aI_a1, ↓qI_a1, ↓aI_a2, ↓qI_a2, ↓aI_a3, ↓qI_a3, ↓aI_l0, ↓qI_l0, ↓aI_l1, ↓qI_l1, ↓aI_l2, ↓qI_l2, ↓aI_is, ↓qI_is, ↓aI_ar, ↓qI_ar, ↓aI_ob, ↓qI_ob, ↓aI_hw, ↓qI_hw, ↓aI_ho, ↓qI_ho, ↓aI_rd, ↓qI_rd, ↓aI_tp, ↓qI_tp, ↓aI_m1, ↓qI_m1, ↓aI_m2, ↓qI_m2, ↓aI_m3, ↓qI_m3, ↓aI_m4, ↓qI_m4, ↓aI_m5, ↓qI_m5, ↓aI_m6, ↓qI_m6, ↓aI_m7, ↓qI_m7, ↓aI_m8, ↓qI_m8, ↓aI_m9, ↓qI_m9, ↓aI_m10, ↓qI_m10, ↓aI_m11, ↓qI_m11, ↓aI_m12, ↓qI_m12, ↓aI_m13, ↓qI_m13, ↓aI_m14, ↓qI_m14, ↓aI_m15, ↓qI_m15, ↓aI_m16, ↓qI_m16, ↓aI_m17, ↓qI_m17, ↓aI_m18, ↓qI_m18, ↓aI_m19, ↓qI_m19, ↓aI_m20, ↓qI_m20, ↓aI_m21, ↓qI_m21, ↓aI_m22, ↓qI_m22, ↓aI_m23, ↓qI_m23, ↓aI_m24, ↓qI_m24, ↓aI_m25, ↓qI_m25, ↓aI_m26, ↓qI_m26, ↓aI_m27, ↓qI_m27, ↓aI_m28, ↓qI_m28, ↓aI_m29, ↓qI_m29, ↓aI_m30, ↓qI_m30, ↓aI_m31, ↓qI_m31, ↓aI_m32, ↓qI_m32, ↓aI_m33, ↓qI_m33, ↓aI_m34, ↓qI_m34, ↓aI_m35, ↓qI_m35, ↓aI_m36, ↓qI_m36, ↓aI_m37, ↓qI_m37, ↓aI_m38, ↓qI_m38, ↓aI_m39, ↓qI_m39, ↓aI_m40, ↓qI_m40, ↓aI_m41, ↓qI_m41, ↓aI_m42, ↓qI_m42, ↓aI_m43, ↓qI_m43, ↓aI_m44, ↓qI_m44, ↓aI_m45, ↓qI_m45, ↓aI_m46, ↓qI_m46, ↓aI_m47, ↓qI_m47, ↓aI_m48, ↓qI_m48, ↓aI_m49, ↓qI_m49, ↓aI_m50, ↓qI_m50, ↓aI_m51, ↓qI_m51, ↓aI_m52, ↓qI_m52, ↓aI_m54, ↓qI_m54, ↓aI_m55, ↓qI_m55, ↓aZ_m53, ↓qZ_m53, ↓aZ_m56, ↓qZ_m56, ↓aX_3, ↓aX_4, ↓aX_5, ↓aX_6, ↓aX_324, ↓aX_325, ↓ai_0, ↓ai_1, ↓ai_2, ↓ai_3, ↓qi_0, ↓qi_1, ↓qi_2, ↓qi_3, ↓qi_4, ↓ly_qJ, ↓bd2_mk, ↓bdT_0, ↓bdC_0]
    · rw [bi_f c] at it
      have r := h87 0 (Or.inl rfl)
      refine Eq.trans (Eq.trans ?_ r) ?_
      · simp (disch := first | with_reducible assumption | omega | (repeat (first | with_reducible assumption | with_reducible apply Ly_wI | with_reducible apply Ly_nx | with_reducible apply Ly_wJ | with_reducible apply Ly_fl))) only [im, ↓bdO it, ↓reduceIte, rd_s, rd_n, rd_nx, rd_wJ, t00, t10, t20, t30, ↓gI_Mp, ↓pI_Mp, ↓ck_Mp, ↓gI_Pr, ↓pI_Pr, ↓ck_Pr, ↓gI_La, ↓pI_La, ↓pZ_La, ↓ck_La, ↓gI_Li, ↓pI_Li, ↓ck_Li, ↓gI_Ky, ↓pI_Ky, ↓ck_Ky, ↓gI_Rd, ↓pI_Rd, ↓ck_Rd, ↓gI_Tp, ↓pI_Tp, ↓ck_Tp, ↓gI_St, ↓pI_St, ↓ck_St, ↓gI_Ac, ↓pI_Ac, ↓ck_Ac, ↓gI_Ta, ↓pI_Ta, ↓ck_Ta, ↓gI_Sp, ↓pI_Sp, ↓ck_Sp, ↓gI_Op, ↓pI_Op, ↓ck_Op, ↓gI_Oe, ↓pI_Oe, ↓ck_Oe, ↓gI_Ob, ↓pI_Ob, ↓ck_Ob, ↓gI_He, ↓pI_He, ↓pZ_He, ↓ck_He, ↓gI_En, ↓pI_En, ↓ck_En, ↓gI_Md, ↓pI_Md, ↓pZ_Md, ↓ck_Md, ↓gX_Mp0, ↓gX_Mp1, ↓gX_Mp2, ↓gX_Mp3, ↓gX_Mp4, ↓gX_Mp5, ↓gX_Pr0, ↓gX_Pr1, ↓gX_Pr2, ↓gX_Pr3, ↓gX_Pr4, ↓gX_La0, ↓gX_La1, ↓gX_La2, ↓gX_Li0, ↓gX_Li1, ↓gX_Li2, ↓gX_Li3, ↓gX_Li4, ↓gX_Li5, ↓gX_Rd0, ↓gX_Tp0, ↓gX_St0, ↓gX_St1, ↓gX_St2, ↓gX_St3, ↓gX_Ac0, ↓gX_Ac1, ↓gX_Ac2, ↓gX_Ac3, ↓gX_Ta0, ↓gX_Op0, ↓gX_Op1, ↓gX_Ob0, ↓gX_He0, ↓gX_He1, ↓gX_Md8, ↓gX_Md9, ↓gX_Md10, ↓gX_Md11, ↓gX_Md12, ↓gX_Md13, ↓gX_Md14, ↓gX_Md15, ↓gX_Md16, ↓gX_Md17, ↓gX_Md18, ↓gX_Md19, ↓gX_Md20, ↓gX_Md21, ↓gX_Md22, ↓gX_Md23, ↓gX_Md24, ↓gX_Md25, ↓gX_Md26, ↓gX_Md27, ↓gX_Md28, ↓gX_Md29, ↓gX_Md30, ↓gX_Md31, ↓gX_Md32, ↓gX_Md35, ↓gX_Md36, ↓gX_Md37, ↓gX_Md38, ↓gX_Md39, ↓gX_Md40, ↓gX_Md41, ↓gX_Md42, ↓gX_Md43, ↓gX_Md44, ↓gX_Md45, ↓gX_Md46, ↓gX_Md57, ↓gX_Md58, ↓gX_Md59, ↓gX_Md60, ↓gX_Md61, ↓gX_Md62, ↓gX_Md63, ↓gX_Md64, ↓gX_Md65, ↓gX_Md66, ↓gX_Md67, ↓gX_Md68, ↓gX_Md69, ↓gX_Md70, ↓gX_Md71, ↓gX_Md72, ↓gX_Md77, ↓gX_Md78, ↓gX_Md79, ↓aI_w, ↓qI_w, ↓aI_s0, ↓qI_s0, ↓aI_s1, ↓qI_s1, ↓aI_s2, ↓qI_s2, ↓aI_s3, ↓qI_s3, ↓aI_a0, ↓qI_a0, ↓aI_a1, ↓qI_a1, ↓aI_a2, ↓qI_a2, ↓aI_a3, ↓qI_a3, ↓aI_l0, ↓qI_l0, ↓aI_l1, ↓qI_l1, ↓aI_l2, ↓qI_l2, ↓aI_is, ↓qI_is, ↓aI_ar, ↓qI_ar, ↓aI_ob, ↓qI_ob, ↓aI_hw, ↓qI_hw, ↓aI_ho, ↓qI_ho, ↓aI_rd, ↓qI_rd, ↓aI_tp, ↓qI_tp, ↓aI_m1, ↓qI_m1, ↓aI_m2, ↓qI_m2, ↓aI_m3, ↓qI_m3, ↓aI_m4, ↓qI_m4, ↓aI_m5, ↓qI_m5, ↓aI_m6, ↓qI_m6, ↓aI_m7, ↓qI_m7, ↓aI_m8, ↓qI_m8, ↓aI_m9, ↓qI_m9, ↓aI_m10, ↓qI_m10, ↓aI_m11, ↓qI_m11, ↓aI_m12, ↓qI_m12, ↓aI_m13, ↓qI_m13, ↓aI_m14, ↓qI_m14, ↓aI_m15, ↓qI_m15, ↓aI_m16, ↓qI_m16, ↓aI_m17, ↓qI_m17, ↓aI_m18, ↓qI_m18, ↓aI_m19, ↓qI_m19, ↓aI_m20, ↓qI_m20, ↓aI_m21, ↓qI_m21, ↓aI_m22, ↓qI_m22, ↓aI_m23, ↓qI_m23, ↓aI_m24, ↓qI_m24, ↓aI_m25, ↓qI_m25, ↓aI_m26, ↓qI_m26, ↓aI_m27, ↓qI_m27, ↓aI_m28, ↓qI_m28, ↓aI_m29, ↓qI_m29, ↓aI_m30, ↓qI_m30, ↓aI_m31, ↓qI_m31, ↓aI_m32, ↓qI_m32, ↓aI_m33, ↓qI_m33, ↓aI_m34, ↓qI_m34, ↓aI_m35, ↓qI_m35, ↓aI_m36, ↓qI_m36, ↓aI_m37, ↓qI_m37, ↓aI_m38, ↓qI_m38, ↓aI_m39, ↓qI_m39, ↓aI_m40, ↓qI_m40, ↓aI_m41, ↓qI_m41, ↓aI_m42, ↓qI_m42, ↓aI_m43, ↓qI_m43, ↓aI_m44, ↓qI_m44, ↓aI_m45, ↓qI_m45, ↓aI_m46, ↓qI_m46, ↓aI_m47, ↓qI_m47, ↓aI_m48, ↓qI_m48, ↓aI_m49, ↓qI_m49, ↓aI_m50, ↓qI_m50, ↓aI_m51, ↓qI_m51, ↓aI_m52, ↓qI_m52, ↓aI_m54, ↓qI_m54, ↓aI_m55, ↓qI_m55, ↓aZ_m53, ↓qZ_m53, ↓aZ_m56, ↓qZ_m56, ↓aX_3, ↓aX_4, ↓aX_5, ↓aX_6, ↓aX_324, ↓aX_325, ↓ai_0, ↓ai_1, ↓ai_2, ↓ai_3, ↓qi_0, ↓qi_1, ↓qi_2, ↓qi_3, ↓qi_4, ↓ly_qJ, ↓bd2_mk, ↓bdT_0, ↓bdC_0]
      · congr 1
        exact propext ⟨fun w => w.elim Or.inl (fun w => w.elim (fun x => absurd x (by decide)) (fun x => Or.inr (Or.inr x))), fun w => w.elim Or.inl (fun w => w.elim (fun x => absurd x.2 c) (fun x => Or.inr (Or.inr x)))⟩
theorem V134 {o st i t nt : Nat} {v : Nat → Nat → Int32} {S : Sx} : (v 913 i = -1 → V o (S134 o v st i S) = u2 (V o S) 321 i (nI st)) ∧ (t < 8 → v 913 i = nI t → V o (S134 o v st i S) = u2 (u2 (V o S) 321 i (nI st)) 323 t (nI st)) := by
  unfold S134
  constructor
  · intro h; rw [if_pos h, V_wI]
  · intro ht h; rw [if_neg (by rw [h]; exact nN1 (by omega)), V_wI, V_wI, h, cl_n (by omega)]
theorem S134_L {o st i : Nat} {v : Nat → Nat → Int32} {S : Sx} (hL : Ly o S) : Ly o (S134 o v st i S) ∧ sR (S134 o v st i S) = sR S ∧ sJ (S134 o v st i S) = sJ S := by
  unfold S134
  by_cases h : v 913 i = -1
  · rw [if_pos h]; exact ⟨Ly_wI hL, rfl, rfl⟩
  · rw [if_neg h]; exact ⟨Ly_wI (Ly_wI hL), rfl, rfl⟩
/-- one more step laid -/
theorem CI_s {o nf ns na nt np i : Nat} {v : Nat → Nat → Int32} {S0 S S1 : Sx} {fs : Nat → Nat} (hp : PR v nf ns na nt np) (hi : i < np) (h : CI o S0 S v na i fs) (hs12 : sg v na i < 12)
    (h1 : Ly o S1 ∧ sR S1 = sR S ∧ sJ S1 = sJ S) (hV : V o S1 = if (sgS v na (i + 1)).1 = (sgS v na i).1 + 1 then u2 (V o S) 322 (sg v na i) (nI i) else V o S) : ∃ fs', CI o S0 (S134 o v (sg v na i) i S1) v na (i + 1) fs' := by
  obtain ⟨⟨a1, a2, a3, a4⟩, ⟨f0, f1⟩, A3, A4, A5, A6⟩ := h
  obtain ⟨L1, L2, L3⟩ := S134_L (st := sg v na i) (i := i) (v := v) h1.1
  have b4 := hp.1.2.2.2.1
  have b5 := hp.1.2.2.2.2
  have hsg : (sgS v na (i + 1)).1 = sg v na i := rfl
  have v1 : ∀ c q, ¬ (c = 322 ∧ q = sg v na i) → V o S1 c q = V o S c q := by
    intro c q w
    rw [hV]
    split
    · rw [u2_n (by omega)]
    · rfl
  have v2 : ∀ c q, ¬ (c = 321 ∧ q = i) → ¬ c = 323 → V o (S134 o v (sg v na i) i S1) c q = V o S1 c q := by
    intro c q w1 w2
    rcases (hp.2.2.2.2.2.2.2.2.2.2 i hi).2 with ⟨t, t1, t2⟩ | ⟨c', _⟩
    · rw [(V134 (nt := nt)).2 (show t < 8 by omega) t2, u2_n (by omega), u2_n (by omega)]
    · rw [(V134 (t := 0) (nt := nt)).1 c', u2_n (by omega)]
  have v20 : V o (S134 o v (sg v na i) i S1) 321 i = nI (sg v na i) := by
    rcases (hp.2.2.2.2.2.2.2.2.2.2 i hi).2 with ⟨t, t1, t2⟩ | ⟨c', _⟩
    · rw [(V134 (nt := nt)).2 (show t < 8 by omega) t2, u2_n (by omega), u2_s]
    · rw [(V134 (t := 0) (nt := nt)).1 c', u2_s]
  have v22 : ∀ t, t < 8 → V o (S134 o v (sg v na i) i S1) 323 t = nI (tg v na (i + 1) t) := by
    intro t ht
    rcases (hp.2.2.2.2.2.2.2.2.2.2 i hi).2 with ⟨u, t1, t2⟩ | ⟨c', _⟩
    · rw [(V134 (nt := nt)).2 (show u < 8 by omega) t2]
      by_cases d : t = u
      · rw [d, u2_s, tg_y t2]
      · rw [u2_n (by omega), u2_n (by omega), v1 _ _ (by omega), A6 t ht, tg_n (by rw [t2]; exact nI_ne (by omega) (by omega) (by omega))]
    · rw [(V134 (t := 0) (nt := nt)).1 c', u2_n (by omega), v1 _ _ (by omega), A6 t ht, tg_n (by rw [c']; exact fun w => nN1 (by omega) w.symm)]
  have fr : ∀ c q, ¬ (321 ≤ c ∧ c ≤ 323) → ¬ (c = 320 ∧ q = 4) → V o (S134 o v (sg v na i) i S1) c q = V o S0 c q := fun c q w1 w2 => by rw [v2 _ _ (by omega) (by omega), v1 _ _ (by omega)]; exact a4 c q w1 w2
  have F : Ly o (S134 o v (sg v na i) i S1) ∧ sR (S134 o v (sg v na i) i S1) = sR S0 ∧ sJ (S134 o v (sg v na i) i S1) = sJ S0 ∧ ∀ c q, ¬ (321 ≤ c ∧ c ≤ 323) → ¬ (c = 320 ∧ q = 4) → V o (S134 o v (sg v na i) i S1) c q = V o S0 c q := ⟨L1, by rw [L2, h1.2.1, a2], by rw [L3, h1.2.2, a3], fr⟩
  have fi := sgS_f (v := v) (na := na) i
  rcases Classical.em (ct v na i (sgS v na i)) with c | c
  · have e := sgS_y c
    have g1 : sg v na i = (sgS v na i).1 + 1 := by unfold sg; rw [e]
    rw [if_pos (by rw [hsg]; exact g1)] at hV
    refine ⟨fun s => if s = sg v na i then i else fs s, F, ⟨?_, ?_⟩, ?_, ?_, ?_, v22⟩
    · show (if _ then _ else _) = _; rw [if_neg (by omega)]; exact f0
    · show (if _ then _ else _) = _; rw [hsg, if_pos rfl, e]
    · intro s hs
      rw [hsg] at hs
      show _ = nI (if _ then _ else _)
      rw [v2 _ _ (by omega) (by omega)]
      by_cases d : s = sg v na i
      · rw [if_pos d, hV, d, u2_s]
      · rw [if_neg d, v1 _ _ (by omega)]; exact A3 s (by omega)
    · intro s hs
      rw [hsg] at hs
      show (if _ then _ else _) ≤ (if _ then _ else _)
      rw [if_neg (by omega)]
      by_cases d : s + 1 = sg v na i
      · rw [if_pos d, show s = (sgS v na i).1 from by omega, f1]; exact fi
      · rw [if_neg d]; exact A4 s (by omega)
    · intro p hp'
      show _ ∧ _ ∧ (if _ then _ else _) ≤ _ ∧ (_ → _ < (if _ then _ else _))
      rw [hsg]
      by_cases d : p = i
      · subst d
        rw [v20, if_pos rfl]
        exact ⟨rfl, Nat.le_refl _, Nat.le_refl _, fun w => absurd w (Nat.lt_irrefl _)⟩
      · obtain ⟨y1, y2, y3, y4⟩ := A5 p (by omega)
        rw [v2 _ _ (by omega) (by omega), v1 _ _ (by omega), if_neg (show ¬ sg v na p = sg v na i by omega)]
        refine ⟨y1, by omega, y3, fun w => ?_⟩
        by_cases d2 : sg v na p + 1 = sg v na i
        · rw [if_pos d2]; omega
        · rw [if_neg d2]; exact y4 (by omega)
  · have e := sgS_n c
    have g1 : sg v na i = (sgS v na i).1 := by unfold sg; rw [e]
    rw [if_neg (by rw [hsg]; omega)] at hV
    refine ⟨fs, F, ⟨f0, ?_⟩, ?_, ?_, ?_, v22⟩
    · rw [hsg, g1, f1, e]
    · intro s hs
      rw [hsg, g1] at hs
      rw [v2 _ _ (by omega) (by omega), hV]; exact A3 s hs
    · intro s hs
      rw [hsg, g1] at hs
      exact A4 s hs
    · intro p hp'
      rw [hsg]
      by_cases d : p = i
      · subst d
        rw [v20]
        refine ⟨rfl, Nat.le_refl _, ?_, fun w => absurd w (Nat.lt_irrefl _)⟩
        rw [g1, f1]; exact fi
      · obtain ⟨y1, y2, y3, y4⟩ := A5 p (by omega)
        rw [v2 _ _ (by omega) (by omega), hV]
        exact ⟨y1, by omega, y3, fun w => y4 (by omega)⟩
