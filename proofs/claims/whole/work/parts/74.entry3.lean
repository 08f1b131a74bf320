/-! AN ENTRY COMES OR GOES: the reference -/
def TU (T : TC) : Prop := ∀ i j, i < T.1 → j < T.1 → sK4 (T.2 i) (T.2 j) → i = j
noncomputable def lfd (T : TC) (e : Nat → Int32) : Nat → Nat → Option Nat → Option Nat
  | 0, _, b => b
  | m + 1, i, b => lfd T e m (i + 1) (@ite _ (sK4 (T.2 i) e) (Classical.propDecidable _) (some i) (b))
theorem lfd_no {T : TC} {e : Nat → Int32} : ∀ m i b, (∀ j, i ≤ j → j < i + m → ¬ sK4 (T.2 j) e) → lfd T e m i b = b := by
  intro m
  induction m with
  | zero => intro i b _; rfl
  | succ m ih =>
    intro i b h
    rw [lfd, if_neg (h i (by omega) (by omega))]
    exact ih _ _ (fun j h1 h2 => h j (by omega) (by omega))
theorem sK4_t {a b c : Nat → Int32} (h : sK4 a c) (h2 : sK4 b c) : sK4 a b := ⟨h.1.trans h2.1.symm, h.2.1.trans h2.2.1.symm, h.2.2.1.trans h2.2.2.1.symm, h.2.2.2.trans h2.2.2.2.symm⟩
theorem lfd_fnd {T : TC} {e : Nat → Int32} (hU : TU T) : ∀ m i, i + m = T.1 → lfd T e m i none = fnd T e m i := by
  intro m
  induction m with
  | zero => intro i _; rfl
  | succ m ih =>
    intro i h
    rw [lfd, fnd]
    by_cases c : sK4 (T.2 i) e
    · rw [if_pos c, if_pos c]
      refine lfd_no _ _ _ (fun j h1 h2 w => ?_)
      have := hU i j (by omega) (by omega) (sK4_t c w)
      omega
    · rw [if_neg c, if_neg c]; exact ih _ (by omega)
theorem and_o {a b w : Int32} : (a &&& w) &&& (b &&& w) = a &&& (b &&& w) := by
  refine bt_ext fun i hi => ?_
  simp only [bt_and]
  cases bt a i <;> cases bt b i <;> cases bt w i <;> rfl
theorem m1_and {w : Int32} : (-1 : Int32) &&& w = w := by
  refine bt_ext fun i hi => ?_
  rw [bt_and, bt_m1 hi, Bool.true_and]
theorem and_0 {a : Int32} : a &&& 0 = 0 := by
  refine bt_ext fun i hi => ?_
  rw [bt_and, bt_0, Bool.and_false]
/-- the reference's line: what its first operation brings -/
def lnE (v : Nat → Nat → Int32) : Nat → Int32 := fun k => if k < 4 then v 935 k else if k = 4 then v 936 0 else if k = 5 then v 937 0 else if k = 6 then v 938 0 else v 939 0
/-- what is known of the reference's table t -/
def MX (o : Nat) (S : Sx) (t f0 : Nat) (oF oG hF hG ac : Int32) (T : TC) : Prop :=
  (Ly o S) ∧
  (t < 8) ∧
  (f0 < 16) ∧
  (T.1 ≤ 20) ∧
  (sI S (o + 919) t = nI T.1) ∧
  (sI S (o + 907) t = nI f0) ∧
  (sI S (o + 909) t = hF) ∧
  (vF 3 hF) ∧
  (sI S (o + 910) t = hG) ∧
  (vF 3 hG) ∧
  (sI S (o + 911) t = ac) ∧
  (∀ a, a < 32 → bt ac a = true → a < 16) ∧
  (∀ (S' : Sx) y, Ly o S' → (∀ k, sI S' (o + 894) k = sI S (o + 894) k) → fMd_cut (o + 893) (nI f0) y S' = some (y &&& oF, S')) ∧
  ((sI S (o + 908) t = -1 ∧ oG = 0 ∧ hG = 0 ∧ ∀ i, i < T.1 → T.2 i 2 = 0 ∧ T.2 i 3 = 0) ∨ ∃ g0, g0 < 16 ∧ sI S (o + 908) t = nI g0 ∧ (∀ (S' : Sx) y, Ly o S' → (∀ k, sI S' (o + 894) k = sI S (o + 894) k) → fMd_cut (o + 893) (nI g0) y S' = some (y &&& oG, S')) ∧ ∀ i, i < T.1 → sI S (o + 922) (20 * t + i) = T.2 i 2 ∧ sI S (o + 923) (20 * t + i) = T.2 i 3) ∧
  (∀ i, i < T.1 → sI S (o + 920) (20 * t + i) = T.2 i 0) ∧
  (∀ i, i < T.1 → sI S (o + 921) (20 * t + i) = T.2 i 1)
theorem MX.L {o : Nat} {S : Sx} {t f0 : Nat} {oF oG hF hG ac : Int32} {T : TC} (h : MX o S t f0 oF oG hF hG ac T) : Ly o S := h.1
theorem MX.t8 {o : Nat} {S : Sx} {t f0 : Nat} {oF oG hF hG ac : Int32} {T : TC} (h : MX o S t f0 oF oG hF hG ac T) : t < 8 := h.2.1
theorem MX.f16 {o : Nat} {S : Sx} {t f0 : Nat} {oF oG hF hG ac : Int32} {T : TC} (h : MX o S t f0 oF oG hF hG ac T) : f0 < 16 := h.2.2.1
theorem MX.c20 {o : Nat} {S : Sx} {t f0 : Nat} {oF oG hF hG ac : Int32} {T : TC} (h : MX o S t f0 oF oG hF hG ac T) : T.1 ≤ 20 := h.2.2.2.1
theorem MX.cnt {o : Nat} {S : Sx} {t f0 : Nat} {oF oG hF hG ac : Int32} {T : TC} (h : MX o S t f0 oF oG hF hG ac T) : sI S (o + 919) t = nI T.1 := h.2.2.2.2.1
theorem MX.kf {o : Nat} {S : Sx} {t f0 : Nat} {oF oG hF hG ac : Int32} {T : TC} (h : MX o S t f0 oF oG hF hG ac T) : sI S (o + 907) t = nI f0 := h.2.2.2.2.2.1
theorem MX.hf {o : Nat} {S : Sx} {t f0 : Nat} {oF oG hF hG ac : Int32} {T : TC} (h : MX o S t f0 oF oG hF hG ac T) : sI S (o + 909) t = hF := h.2.2.2.2.2.2.1
theorem MX.hf3 {o : Nat} {S : Sx} {t f0 : Nat} {oF oG hF hG ac : Int32} {T : TC} (h : MX o S t f0 oF oG hF hG ac T) : vF 3 hF := h.2.2.2.2.2.2.2.1
theorem MX.hg {o : Nat} {S : Sx} {t f0 : Nat} {oF oG hF hG ac : Int32} {T : TC} (h : MX o S t f0 oF oG hF hG ac T) : sI S (o + 910) t = hG := h.2.2.2.2.2.2.2.2.1
theorem MX.hg3 {o : Nat} {S : Sx} {t f0 : Nat} {oF oG hF hG ac : Int32} {T : TC} (h : MX o S t f0 oF oG hF hG ac T) : vF 3 hG := h.2.2.2.2.2.2.2.2.2.1
theorem MX.act {o : Nat} {S : Sx} {t f0 : Nat} {oF oG hF hG ac : Int32} {T : TC} (h : MX o S t f0 oF oG hF hG ac T) : sI S (o + 911) t = ac := h.2.2.2.2.2.2.2.2.2.2.1
theorem MX.ac16 {o : Nat} {S : Sx} {t f0 : Nat} {oF oG hF hG ac : Int32} {T : TC} (h : MX o S t f0 oF oG hF hG ac T) : ∀ a, a < 32 → bt ac a = true → a < 16 := h.2.2.2.2.2.2.2.2.2.2.2.1
theorem MX.cutF {o : Nat} {S : Sx} {t f0 : Nat} {oF oG hF hG ac : Int32} {T : TC} (h : MX o S t f0 oF oG hF hG ac T) : ∀ (S' : Sx) y, Ly o S' → (∀ k, sI S' (o + 894) k = sI S (o + 894) k) → fMd_cut (o + 893) (nI f0) y S' = some (y &&& oF, S') := h.2.2.2.2.2.2.2.2.2.2.2.2.1
theorem MX.g {o : Nat} {S : Sx} {t f0 : Nat} {oF oG hF hG ac : Int32} {T : TC} (h : MX o S t f0 oF oG hF hG ac T) : (sI S (o + 908) t = -1 ∧ oG = 0 ∧ hG = 0 ∧ ∀ i, i < T.1 → T.2 i 2 = 0 ∧ T.2 i 3 = 0) ∨ ∃ g0, g0 < 16 ∧ sI S (o + 908) t = nI g0 ∧ (∀ (S' : Sx) y, Ly o S' → (∀ k, sI S' (o + 894) k = sI S (o + 894) k) → fMd_cut (o + 893) (nI g0) y S' = some (y &&& oG, S')) ∧ ∀ i, i < T.1 → sI S (o + 922) (20 * t + i) = T.2 i 2 ∧ sI S (o + 923) (20 * t + i) = T.2 i 3 := h.2.2.2.2.2.2.2.2.2.2.2.2.2.1
theorem MX.e0 {o : Nat} {S : Sx} {t f0 : Nat} {oF oG hF hG ac : Int32} {T : TC} (h : MX o S t f0 oF oG hF hG ac T) : ∀ i, i < T.1 → sI S (o + 920) (20 * t + i) = T.2 i 0 := h.2.2.2.2.2.2.2.2.2.2.2.2.2.2.1
theorem MX.e1 {o : Nat} {S : Sx} {t f0 : Nat} {oF oG hF hG ac : Int32} {T : TC} (h : MX o S t f0 oF oG hF hG ac T) : ∀ i, i < T.1 → sI S (o + 921) (20 * t + i) = T.2 i 1 := h.2.2.2.2.2.2.2.2.2.2.2.2.2.2.2
theorem isMaskM {o f0 : Nat} {S : Sx} {how y oF : Int32} (hL : Ly o S) (hc : ∀ y, fMd_cut (o + 893) (nI f0) y S = some (y &&& oF, S)) (h3 : vF 3 how) : fMd_isMask (o + 893) (nI f0) how y S = some (bi (mOk how (y &&& oF) oF), S) := by
  obtain ⟨q, q1, rfl⟩ := h3
  unfold fMd_isMask fMd_isMask_41 mOk
  simp (disch := first | with_reducible assumption | omega | (repeat (first | with_reducible assumption | with_reducible apply Ly_wI | with_reducible apply Ly_nx | with_reducible apply Ly_wJ | with_reducible apply Ly_fl))) only [hc, bd2_mk, m1_and, ↓reduceIte, rd_s, rd_n, rd_nx, rd_wJ, t00, t10, t20, t30, ↓gI_Mp, ↓pI_Mp, ↓ck_Mp, ↓gI_Pr, ↓pI_Pr, ↓ck_Pr, ↓gI_La, ↓pI_La, ↓pZ_La, ↓ck_La, ↓gI_Li, ↓pI_Li, ↓ck_Li, ↓gI_Ky, ↓pI_Ky, ↓ck_Ky, ↓gI_Rd, ↓pI_Rd, ↓ck_Rd, ↓gI_Tp, ↓pI_Tp, ↓ck_Tp, ↓gI_St, ↓pI_St, ↓ck_St, ↓gI_Ac, ↓pI_Ac, ↓ck_Ac, ↓gI_Ta, ↓pI_Ta, ↓ck_Ta, ↓gI_Sp, ↓pI_Sp, ↓ck_Sp, ↓gI_Op, ↓pI_Op, ↓ck_Op, ↓gI_Oe, ↓pI_Oe, ↓ck_Oe, ↓gI_Ob, ↓pI_Ob, ↓ck_Ob, ↓gI_He, ↓pI_He, ↓pZ_He, ↓ck_He, ↓gI_En, ↓pI_En, ↓ck_En, ↓gI_Md, ↓pI_Md, ↓pZ_Md, ↓ck_Md, ↓gX_Mp0, ↓gX_Mp1, ↓gX_Mp2, ↓gX_Mp3, ↓gX_Mp4, ↓gX_Mp5, ↓gX_Pr0, ↓gX_Pr1, ↓gX_Pr2, ↓gX_Pr3, ↓gX_Pr4, ↓gX_La0, ↓gX_La1, ↓gX_La2, ↓gX_Li0, ↓gX_Li1, ↓gX_Li2, ↓gX_Li3, ↓gX_Li4, ↓gX_Li5, ↓gX_Rd0, ↓gX_Tp0, ↓gX_St0, ↓gX_St1, ↓gX_St2, ↓gX_St3, ↓gX_Ac0, ↓gX_Ac1, ↓gX_Ac2, ↓gX_Ac3, ↓gX_Ta0, ↓gX_Op0, ↓gX_Op1, ↓gX_Ob0, ↓gX_He0, ↓gX_He1, ↓gX_Md8, ↓gX_Md9, ↓gX_Md10, ↓gX_Md11, ↓gX_Md12, ↓gX_Md13, ↓gX_Md14, ↓gX_Md15, ↓gX_Md16, ↓gX_Md17, ↓gX_Md18, ↓gX_Md19, ↓gX_Md20, ↓gX_Md21, ↓gX_Md22, ↓gX_Md23, ↓gX_Md24, ↓gX_Md25, ↓gX_Md26, ↓gX_Md27, ↓gX_Md28, ↓gX_Md29, ↓gX_Md30, ↓gX_Md31, ↓gX_Md32, ↓gX_Md35, ↓gX_Md36, ↓gX_Md37, ↓gX_Md38, ↓gX_Md39, ↓gX_Md40, ↓gX_Md41, ↓gX_Md42, ↓gX_Md43, ↓gX_Md44, ↓gX_Md45, ↓gX_Md46, ↓gX_Md57, ↓gX_Md58, ↓gX_Md59, ↓gX_Md60, ↓gX_Md61, ↓gX_Md62, ↓gX_Md63, ↓gX_Md64, ↓gX_Md65, ↓gX_Md66, ↓gX_Md67, ↓gX_Md68, ↓gX_Md69, ↓gX_Md70, ↓gX_Md71, ↓gX_Md72, ↓gX_Md77, ↓gX_Md78, ↓gX_Md79, ↓aI_w, ↓qI_w, ↓aI_s0, ↓qI_s0, ↓aI_s1, ↓qI_s1, ↓aI_s2, ↓qI_s2, ↓aI_s3, ↓qI_s3, ↓aI_a0, ↓qI_a0, ↓aI_a1, ↓qI_a1, ↓aI_a2, ↓qI_a2, ↓aI_a3, ↓qI_a3, ↓aI_l0, ↓qI_l0, ↓aI_l1, ↓qI_l1, ↓aI_l2, ↓qI_l2, ↓aI_is, ↓qI_is, ↓aI_ar, ↓qI_ar, ↓aI_ob, ↓qI_ob, ↓aI_hw, ↓qI_hw, ↓aI_ho, ↓qI_ho, ↓aI_rd, ↓qI_rd, ↓aI_tp, ↓qI_tp, ↓aI_m1, ↓qI_m1, ↓aI_m2, ↓qI_m2, ↓aI_m3, ↓qI_m3, ↓aI_m4, ↓qI_m4, ↓aI_m5, ↓qI_m5, ↓aI_m6, ↓qI_m6, ↓aI_m7, ↓qI_m7, ↓aI_m8, ↓qI_m8, ↓aI_m9, ↓qI_m9, ↓aI_m10, ↓qI_m10, ↓aI_m11, ↓qI_m11, ↓aI_m12, ↓qI_m12, ↓aI_m13, ↓qI_m13, ↓aI_m14, ↓qI_m14, ↓aI_m15, ↓qI_m15, ↓aI_m16, ↓qI_m16, ↓aI_m17, ↓qI_m17, ↓aI_m18, ↓qI_m18, ↓aI_m19, ↓qI_m19, ↓aI_m20, ↓qI_m20, ↓aI_m21, ↓qI_m21, ↓aI_m22, ↓qI_m22, ↓aI_m23, ↓qI_m23, ↓aI_m24, ↓qI_m24, ↓aI_m25, ↓qI_m25, ↓aI_m26, ↓qI_m26, ↓aI_m27, ↓qI_m27, ↓aI_m28, ↓qI_m28, ↓aI_m29, ↓qI_m29, ↓aI_m30, ↓qI_m30, ↓aI_m31, ↓qI_m31, ↓aI_m32, ↓qI_m32, ↓aI_m33, ↓qI_m33, ↓aI_m34, ↓qI_m34, ↓aI_m35, ↓qI_m35, ↓aI_m36, ↓qI_m36, ↓aI_m37, ↓qI_m37, ↓aI_m38, ↓qI_m38, ↓aI_m39, ↓qI_m39, ↓aI_m40, ↓qI_m40, ↓aI_m41, ↓qI_m41, ↓aI_m42, ↓qI_m42, ↓aI_m43, ↓qI_m43, ↓aI_m44, ↓qI_m44, ↓aI_m45, ↓qI_m45, ↓aI_m46, ↓qI_m46, ↓aI_m47, ↓qI_m47, ↓aI_m48, ↓qI_m48, ↓aI_m49, ↓qI_m49, ↓aI_m50, ↓qI_m50, ↓aI_m51, ↓qI_m51, ↓aI_m52, ↓qI_m52, ↓aI_m54, ↓qI_m54, ↓aI_m55, ↓qI_m55, ↓aZ_m53, ↓qZ_m53, ↓aZ_m56, ↓qZ_m56, ↓aX_3, ↓aX_4, ↓aX_5, ↓aX_6, ↓aX_324, ↓aX_325, ↓ai_0, ↓ai_1, ↓ai_2, ↓ai_3, ↓qi_0, ↓qi_1, ↓qi_2, ↓qi_3, ↓qi_4, ↓ly_qJ, ↓bd2_mk, ↓bdT_0, ↓bdC_0]
  rcases (show q = 0 ∨ q = 1 ∨ q = 2 by omega) with e | e | e <;> subst e
  · rw [if_neg (show ¬ nI 0 = 2 by decide), if_pos (show nI 0 = 0 from rfl), if_pos (show nI 0 = 0 from rfl), if_neg (show ¬ nI 0 = 1 by decide)]
    by_cases d : (y &&& oF) = oF
    · rw [if_pos d, bi_t d]
    · rw [if_neg d, bi_f d]
  · rw [if_neg (show ¬ nI 1 = 2 by decide), if_neg (show ¬ nI 1 = 0 by decide), if_neg (show ¬ nI 1 = 0 by decide), if_pos (show nI 1 = 1 from rfl)]
    by_cases d : ((oF &&& ((y &&& oF) ^^^ (-1))) &&& ((oF &&& ((y &&& oF) ^^^ (-1))) + 1)) = 0
    · rw [if_pos d, bi_t (Or.inr d)]
    · rw [if_neg d, bi_f]
      rintro (w | w)
      · exact absurd w (by decide)
      · exact d w
  · rw [if_pos (show nI 2 = 2 from rfl), if_neg (show ¬ nI 2 = 0 by decide), bi_t (Or.inl (show nI 2 = 2 from rfl))]
theorem isSameM {o t f0 i : Nat} {S : Sx} {oF oG hF hG ac : Int32} {T : TC} {e : Nat → Int32} (X : MX o S t f0 oF oG hF hG ac T) (hk : ∀ k, k < 4 → sI S (o + 935) k = e k) (hi : i < T.1) : fMd_isSame (o + 893) (nI t) (nI (20 * t + i)) S = some (bi (sK4 (T.2 i) (ctE oF oG e)), S) := by
  have hL := X.L
  have h20 := X.c20
  have ht := X.t8
  have hf := X.f16
  have CF := fun y => X.cutF S y hL (fun _ => rfl)
  have k0 := hk 0 (by omega)
  have k1 := hk 1 (by omega)
  have k2 := hk 2 (by omega)
  have k3 := hk 3 (by omega)
  have a0 := X.e0 i hi
  have a1 := X.e1 i hi
  have kf := X.kf
  have E : sK4 (T.2 i) (ctE oF oG e) ↔ (T.2 i 1 = e 1 &&& oF) ∧ (T.2 i 0 = (e 0 &&& oF) &&& T.2 i 1) ∧ (T.2 i 3 = e 3 &&& oG) ∧ (T.2 i 2 = (e 2 &&& oG) &&& T.2 i 3) := by
    constructor
    · rintro ⟨w0, w1, w2, w3⟩
      have w1' : T.2 i 1 = e 1 &&& oF := w1
      have w3' : T.2 i 3 = e 3 &&& oG := w3
      refine ⟨w1, ?_, w3, ?_⟩
      · rw [w1', and_o]; exact w0
      · rw [w3', and_o]; exact w2
    · rintro ⟨w1, w0, w3, w2⟩
      rw [w1, and_o] at w0
      rw [w3, and_o] at w2
      exact ⟨w0, w1, w2, w3⟩
  rw [bi_cg E]
  have G : ∀ z, z = bi (T.2 i 1 = e 1 &&& oF ∧ T.2 i 0 = (e 0 &&& oF) &&& T.2 i 1) → fMd_isSame_67 (o + 893) (nI (20 * t + i)) (sI S (o + 908) t) z S = some (bi ((T.2 i 1 = e 1 &&& oF) ∧ (T.2 i 0 = (e 0 &&& oF) &&& T.2 i 1) ∧ (T.2 i 3 = e 3 &&& oG) ∧ (T.2 i 2 = (e 2 &&& oG) &&& T.2 i 3)), S) := by
    rintro z rfl
    unfold fMd_isSame_67
    rcases Classical.em (T.2 i 1 = e 1 &&& oF ∧ T.2 i 0 = (e 0 &&& oF) &&& T.2 i 1) with c | c
    · rw [bi_t c, if_neg (by decide)]
      rcases X.g with ⟨g1, g2, g3, g4⟩ | ⟨g0, g1, g2, g3, g4⟩
      · rw [g1, if_pos (by decide), bi_t]
        refine ⟨c.1, c.2, ?_, ?_⟩
        · rw [g2, and_0]; exact (g4 i hi).2
        · rw [(g4 i hi).2, and_0]; exact (g4 i hi).1
      · have CG := fun y => g3 S y hL (fun _ => rfl)
        have b2 := (g4 i hi).1
        have b3 := (g4 i hi).2
        rw [g2, if_neg (nI_pos (by omega))]
        simp (disch := first | with_reducible assumption | omega | (repeat (first | with_reducible assumption | with_reducible apply Ly_wI | with_reducible apply Ly_nx | with_reducible apply Ly_wJ | with_reducible apply Ly_fl))) only [b2, b3, k2, k3, CG, bd2_mk, ↓reduceIte, rd_s, rd_n, rd_nx, rd_wJ, t00, t10, t20, t30, ↓gI_Mp, ↓pI_Mp, ↓ck_Mp, ↓gI_Pr, ↓pI_Pr, ↓ck_Pr, ↓gI_La, ↓pI_La, ↓pZ_La, ↓ck_La, ↓gI_Li, ↓pI_Li, ↓ck_Li, ↓gI_Ky, ↓pI_Ky, ↓ck_Ky, ↓gI_Rd, ↓pI_Rd, ↓ck_Rd, ↓gI_Tp, ↓pI_Tp, ↓ck_Tp, ↓gI_St, ↓pI_St, ↓ck_St, ↓gI_Ac, ↓pI_Ac, ↓ck_Ac, ↓gI_Ta, ↓pI_Ta, ↓ck_Ta, ↓gI_Sp, ↓pI_Sp, ↓ck_Sp, ↓gI_Op, ↓pI_Op, ↓ck_Op, ↓gI_Oe, ↓pI_Oe, ↓ck_Oe, ↓gI_Ob, ↓pI_Ob, ↓ck_Ob, ↓gI_He, ↓pI_He, ↓pZ_He, ↓ck_He, ↓gI_En, ↓pI_En, ↓ck_En, ↓gI_Md, ↓pI_Md, ↓pZ_Md, ↓ck_Md, ↓gX_Mp0, ↓gX_Mp1, ↓gX_Mp2, ↓gX_Mp3, ↓gX_Mp4, ↓gX_Mp5, ↓gX_Pr0, ↓gX_Pr1, ↓gX_Pr2, ↓gX_Pr3, ↓gX_Pr4, ↓gX_La0, ↓gX_La1, ↓gX_La2, ↓gX_Li0, ↓gX_Li1, ↓gX_Li2, ↓gX_Li3, ↓gX_Li4, ↓gX_Li5, ↓gX_Rd0, ↓gX_Tp0, ↓gX_St0, ↓gX_St1, ↓gX_St2, ↓gX_St3, ↓gX_Ac0, ↓gX_Ac1, ↓gX_Ac2, ↓gX_Ac3, ↓gX_Ta0, ↓gX_Op0, ↓gX_Op1, ↓gX_Ob0, ↓gX_He0, ↓gX_He1, ↓gX_Md8, ↓gX_Md9, ↓gX_Md10, ↓gX_Md11, ↓gX_Md12, ↓gX_Md13, ↓gX_Md14, ↓gX_Md15, ↓gX_Md16, ↓gX_Md17, ↓gX_Md18, ↓gX_Md19, ↓gX_Md20, ↓gX_Md21, ↓gX_Md22, ↓gX_Md23, ↓gX_Md24, ↓gX_Md25, ↓gX_Md26, ↓gX_Md27, ↓gX_Md28, ↓gX_Md29, ↓gX_Md30, ↓gX_Md31, ↓gX_Md32, ↓gX_Md35, ↓gX_Md36, ↓gX_Md37, ↓gX_Md38, ↓gX_Md39, ↓gX_Md40, ↓gX_Md41, ↓gX_Md42, ↓gX_Md43, ↓gX_Md44, ↓gX_Md45, ↓gX_Md46, ↓gX_Md57, ↓gX_Md58, ↓gX_Md59, ↓gX_Md60, ↓gX_Md61, ↓gX_Md62, ↓gX_Md63, ↓gX_Md64, ↓gX_Md65, ↓gX_Md66, ↓gX_Md67, ↓gX_Md68, ↓gX_Md69, ↓gX_Md70, ↓gX_Md71, ↓gX_Md72, ↓gX_Md77, ↓gX_Md78, ↓gX_Md79, ↓aI_w, ↓qI_w, ↓aI_s0, ↓qI_s0, ↓aI_s1, ↓qI_s1, ↓aI_s2, ↓qI_s2, ↓aI_s3, ↓qI_s3, ↓aI_a0, ↓qI_a0, ↓aI_a1, ↓qI_a1, ↓aI_a2, ↓qI_a2, ↓aI_a3, ↓qI_a3, ↓aI_l0, ↓qI_l0, ↓aI_l1, ↓qI_l1, ↓aI_l2, ↓qI_l2, ↓aI_is, ↓qI_is, ↓aI_ar, ↓qI_ar, ↓aI_ob, ↓qI_ob, ↓aI_hw, ↓qI_hw, ↓aI_ho, ↓qI_ho, ↓aI_rd, ↓qI_rd, ↓aI_tp, ↓qI_tp, ↓aI_m1, ↓qI_m1, ↓aI_m2, ↓qI_m2, ↓aI_m3, ↓qI_m3, ↓aI_m4, ↓qI_m4, ↓aI_m5, ↓qI_m5, ↓aI_m6, ↓qI_m6, ↓aI_m7, ↓qI_m7, ↓aI_m8, ↓qI_m8, ↓aI_m9, ↓qI_m9, ↓aI_m10, ↓qI_m10, ↓aI_m11, ↓qI_m11, ↓aI_m12, ↓qI_m12, ↓aI_m13, ↓qI_m13, ↓aI_m14, ↓qI_m14, ↓aI_m15, ↓qI_m15, ↓aI_m16, ↓qI_m16, ↓aI_m17, ↓qI_m17, ↓aI_m18, ↓qI_m18, ↓aI_m19, ↓qI_m19, ↓aI_m20, ↓qI_m20, ↓aI_m21, ↓qI_m21, ↓aI_m22, ↓qI_m22, ↓aI_m23, ↓qI_m23, ↓aI_m24, ↓qI_m24, ↓aI_m25, ↓qI_m25, ↓aI_m26, ↓qI_m26, ↓aI_m27, ↓qI_m27, ↓aI_m28, ↓qI_m28, ↓aI_m29, ↓qI_m29, ↓aI_m30, ↓qI_m30, ↓aI_m31, ↓qI_m31, ↓aI_m32, ↓qI_m32, ↓aI_m33, ↓qI_m33, ↓aI_m34, ↓qI_m34, ↓aI_m35, ↓qI_m35, ↓aI_m36, ↓qI_m36, ↓aI_m37, ↓qI_m37, ↓aI_m38, ↓qI_m38, ↓aI_m39, ↓qI_m39, ↓aI_m40, ↓qI_m40, ↓aI_m41, ↓qI_m41, ↓aI_m42, ↓qI_m42, ↓aI_m43, ↓qI_m43, ↓aI_m44, ↓qI_m44, ↓aI_m45, ↓qI_m45, ↓aI_m46, ↓qI_m46, ↓aI_m47, ↓qI_m47, ↓aI_m48, ↓qI_m48, ↓aI_m49, ↓qI_m49, ↓aI_m50, ↓qI_m50, ↓aI_m51, ↓qI_m51, ↓aI_m52, ↓qI_m52, ↓aI_m54, ↓qI_m54, ↓aI_m55, ↓qI_m55, ↓aZ_m53, ↓qZ_m53, ↓aZ_m56, ↓qZ_m56, ↓aX_3, ↓aX_4, ↓aX_5, ↓aX_6, ↓aX_324, ↓aX_325, ↓ai_0, ↓ai_1, ↓ai_2, ↓ai_3, ↓qi_0, ↓qi_1, ↓qi_2, ↓qi_3, ↓qi_4, ↓ly_qJ, ↓bd2_mk, ↓bdT_0, ↓bdC_0]
        by_cases d3 : T.2 i 3 = e 3 &&& oG
        · rw [if_pos d3]
          by_cases d2 : T.2 i 2 = (e 2 &&& oG) &&& T.2 i 3
          · rw [if_pos d2, bi_t ⟨c.1, c.2, d3, d2⟩]
          · rw [if_neg d2, bi_f (fun w => d2 w.2.2.2)]
        · rw [if_neg d3, bi_f (fun w => d3 w.2.2.1)]
    · rw [bi_f c, if_pos rfl, bi_f (fun w => c ⟨w.1, w.2.1⟩)]
  unfold fMd_isSame fMd_isSame_66
  simp (disch := first | with_reducible assumption | omega | (repeat (first | with_reducible assumption | with_reducible apply Ly_wI | with_reducible apply Ly_nx | with_reducible apply Ly_wJ | with_reducible apply Ly_fl))) only [kf, a0, a1, k0, k1, CF, bd2_mk, ↓reduceIte, rd_s, rd_n, rd_nx, rd_wJ, t00, t10, t20, t30, ↓gI_Mp, ↓pI_Mp, ↓ck_Mp, ↓gI_Pr, ↓pI_Pr, ↓ck_Pr, ↓gI_La, ↓pI_La, ↓pZ_La, ↓ck_La, ↓gI_Li, ↓pI_Li, ↓ck_Li, ↓gI_Ky, ↓pI_Ky, ↓ck_Ky, ↓gI_Rd, ↓pI_Rd, ↓ck_Rd, ↓gI_Tp, ↓pI_Tp, ↓ck_Tp, ↓gI_St, ↓pI_St, ↓ck_St, ↓gI_Ac, ↓pI_Ac, ↓ck_Ac, ↓gI_Ta, ↓pI_Ta, ↓ck_Ta, ↓gI_Sp, ↓pI_Sp, ↓ck_Sp, ↓gI_Op, ↓pI_Op, ↓ck_Op, ↓gI_Oe, ↓pI_Oe, ↓ck_Oe, ↓gI_Ob, ↓pI_Ob, ↓ck_Ob, ↓gI_He, ↓pI_He, ↓pZ_He, ↓ck_He, ↓gI_En, ↓pI_En, ↓ck_En, ↓gI_Md, ↓pI_Md, ↓pZ_Md, ↓ck_Md, ↓gX_Mp0, ↓gX_Mp1, ↓gX_Mp2, ↓gX_Mp3, ↓gX_Mp4, ↓gX_Mp5, ↓gX_Pr0, ↓gX_Pr1, ↓gX_Pr2, ↓gX_Pr3, ↓gX_Pr4, ↓gX_La0, ↓gX_La1, ↓gX_La2, ↓gX_Li0, ↓gX_Li1, ↓gX_Li2, ↓gX_Li3, ↓gX_Li4, ↓gX_Li5, ↓gX_Rd0, ↓gX_Tp0, ↓gX_St0, ↓gX_St1, ↓gX_St2, ↓gX_St3, ↓gX_Ac0, ↓gX_Ac1, ↓gX_Ac2, ↓gX_Ac3, ↓gX_Ta0, ↓gX_Op0, ↓gX_Op1, ↓gX_Ob0, ↓gX_He0, ↓gX_He1, ↓gX_Md8, ↓gX_Md9, ↓gX_Md10, ↓gX_Md11, ↓gX_Md12, ↓gX_Md13, ↓gX_Md14, ↓gX_Md15, ↓gX_Md16, ↓gX_Md17, ↓gX_Md18, ↓gX_Md19, ↓gX_Md20, ↓gX_Md21, ↓gX_Md22, ↓gX_Md23, ↓gX_Md24, ↓gX_Md25, ↓gX_Md26, ↓gX_Md27, ↓gX_Md28, ↓gX_Md29, ↓gX_Md30, ↓gX_Md31, ↓gX_Md32, ↓gX_Md35, ↓gX_Md36, ↓gX_Md37, ↓gX_Md38, ↓gX_Md39, ↓gX_Md40, ↓gX_Md41, ↓gX_Md42, ↓gX_Md43, ↓gX_Md44, ↓gX_Md45, ↓gX_Md46, ↓gX_Md57, ↓gX_Md58, ↓gX_Md59, ↓gX_Md60, ↓gX_Md61, ↓gX_Md62, ↓gX_Md63, ↓gX_Md64, ↓gX_Md65, ↓gX_Md66, ↓gX_Md67, ↓gX_Md68, ↓gX_Md69, ↓gX_Md70, ↓gX_Md71, ↓gX_Md72, ↓gX_Md77, ↓gX_Md78, ↓gX_Md79, ↓aI_w, ↓qI_w, ↓aI_s0, ↓qI_s0, ↓aI_s1, ↓qI_s1, ↓aI_s2, ↓qI_s2, ↓aI_s3, ↓qI_s3, ↓aI_a0, ↓qI_a0, ↓aI_a1, ↓qI_a1, ↓aI_a2, ↓qI_a2, ↓aI_a3, ↓qI_a3, ↓aI_l0, ↓qI_l0, ↓aI_l1, ↓qI_l1, ↓aI_l2, ↓qI_l2, ↓aI_is, ↓qI_is, ↓aI_ar, ↓qI_ar, ↓aI_ob, ↓qI_ob, ↓aI_hw, ↓qI_hw, ↓aI_ho, ↓qI_ho, ↓aI_rd, ↓qI_rd, ↓aI_tp, ↓qI_tp, ↓aI_m1, ↓qI_m1, ↓aI_m2, ↓qI_m2, ↓aI_m3, ↓qI_m3, ↓aI_m4, ↓qI_m4, ↓aI_m5, ↓qI_m5, ↓aI_m6, ↓qI_m6, ↓aI_m7, ↓qI_m7, ↓aI_m8, ↓qI_m8, ↓aI_m9, ↓qI_m9, ↓aI_m10, ↓qI_m10, ↓aI_m11, ↓qI_m11, ↓aI_m12, ↓qI_m12, ↓aI_m13, ↓qI_m13, ↓aI_m14, ↓qI_m14, ↓aI_m15, ↓qI_m15, ↓aI_m16, ↓qI_m16, ↓aI_m17, ↓qI_m17, ↓aI_m18, ↓qI_m18, ↓aI_m19, ↓qI_m19, ↓aI_m20, ↓qI_m20, ↓aI_m21, ↓qI_m21, ↓aI_m22, ↓qI_m22, ↓aI_m23, ↓qI_m23, ↓aI_m24, ↓qI_m24, ↓aI_m25, ↓qI_m25, ↓aI_m26, ↓qI_m26, ↓aI_m27, ↓qI_m27, ↓aI_m28, ↓qI_m28, ↓aI_m29, ↓qI_m29, ↓aI_m30, ↓qI_m30, ↓aI_m31, ↓qI_m31, ↓aI_m32, ↓qI_m32, ↓aI_m33, ↓qI_m33, ↓aI_m34, ↓qI_m34, ↓aI_m35, ↓qI_m35, ↓aI_m36, ↓qI_m36, ↓aI_m37, ↓qI_m37, ↓aI_m38, ↓qI_m38, ↓aI_m39, ↓qI_m39, ↓aI_m40, ↓qI_m40, ↓aI_m41, ↓qI_m41, ↓aI_m42, ↓qI_m42, ↓aI_m43, ↓qI_m43, ↓aI_m44, ↓qI_m44, ↓aI_m45, ↓qI_m45, ↓aI_m46, ↓qI_m46, ↓aI_m47, ↓qI_m47, ↓aI_m48, ↓qI_m48, ↓aI_m49, ↓qI_m49, ↓aI_m50, ↓qI_m50, ↓aI_m51, ↓qI_m51, ↓aI_m52, ↓qI_m52, ↓aI_m54, ↓qI_m54, ↓aI_m55, ↓qI_m55, ↓aZ_m53, ↓qZ_m53, ↓aZ_m56, ↓qZ_m56, ↓aX_3, ↓aX_4, ↓aX_5, ↓aX_6, ↓aX_324, ↓aX_325, ↓ai_0, ↓ai_1, ↓ai_2, ↓ai_3, ↓qi_0, ↓qi_1, ↓qi_2, ↓qi_3, ↓qi_4, ↓ly_qJ, ↓bd2_mk, ↓bdT_0, ↓bdC_0]
  by_cases d1 : T.2 i 1 = e 1 &&& oF
  · rw [if_pos d1]
    by_cases d0 : T.2 i 0 = (e 0 &&& oF) &&& T.2 i 1
    · rw [if_pos d0]; exact G 1 (bi_t ⟨d1, d0⟩).symm
    · rw [if_neg d0]; exact G 0 (bi_f (fun w => d0 w.2)).symm
  · rw [if_neg d1]; exact G 0 (bi_f (fun w => d1 w.1)).symm
theorem findM {o t f0 : Nat} {S : Sx} {oF oG hF hG ac : Int32} {T : TC} {e : Nat → Int32} (X : MX o S t f0 oF oG hF hG ac T) (hk : ∀ k, k < 4 → sI S (o + 935) k = e k) : ∀ m i n b, i + m = T.1 → m < n → fMd_findSame_7 n (o + 893) (nI t) (bI t b) (nI (20 * t + i)) S = some (bI t (lfd T (ctE oF oG e) m i b), S) := by
  have hL := X.L
  have h20 := X.c20
  have ht := X.t8
  have hc := X.cnt
  have ec : (20 : Int32) * nI t + nI T.1 = nI (20 * t + T.1) := by rw [← nI_add, ← pk_mul]; rfl
  intro m
  induction m with
  | zero =>
    intro i n b h1 h2
    obtain ⟨n', rfl⟩ : ∃ n', n = n' + 1 := ⟨n - 1, by omega⟩
    have le : nI (20 * t + T.1) ≤ nI (20 * t + i) := nI_le (by omega) (by omega)
    rw [fMd_findSame_7]
    simp (disch := first | with_reducible assumption | omega | (repeat (first | with_reducible assumption | with_reducible apply Ly_wI | with_reducible apply Ly_nx | with_reducible apply Ly_wJ | with_reducible apply Ly_fl))) only [hc, ec, le, ↓reduceIte, rd_s, rd_n, rd_nx, rd_wJ, t00, t10, t20, t30, ↓gI_Mp, ↓pI_Mp, ↓ck_Mp, ↓gI_Pr, ↓pI_Pr, ↓ck_Pr, ↓gI_La, ↓pI_La, ↓pZ_La, ↓ck_La, ↓gI_Li, ↓pI_Li, ↓ck_Li, ↓gI_Ky, ↓pI_Ky, ↓ck_Ky, ↓gI_Rd, ↓pI_Rd, ↓ck_Rd, ↓gI_Tp, ↓pI_Tp, ↓ck_Tp, ↓gI_St, ↓pI_St, ↓ck_St, ↓gI_Ac, ↓pI_Ac, ↓ck_Ac, ↓gI_Ta, ↓pI_Ta, ↓ck_Ta, ↓gI_Sp, ↓pI_Sp, ↓ck_Sp, ↓gI_Op, ↓pI_Op, ↓ck_Op, ↓gI_Oe, ↓pI_Oe, ↓ck_Oe, ↓gI_Ob, ↓pI_Ob, ↓ck_Ob, ↓gI_He, ↓pI_He, ↓pZ_He, ↓ck_He, ↓gI_En, ↓pI_En, ↓ck_En, ↓gI_Md, ↓pI_Md, ↓pZ_Md, ↓ck_Md, ↓gX_Mp0, ↓gX_Mp1, ↓gX_Mp2, ↓gX_Mp3, ↓gX_Mp4, ↓gX_Mp5, ↓gX_Pr0, ↓gX_Pr1, ↓gX_Pr2, ↓gX_Pr3, ↓gX_Pr4, ↓gX_La0, ↓gX_La1, ↓gX_La2, ↓gX_Li0, ↓gX_Li1, ↓gX_Li2, ↓gX_Li3, ↓gX_Li4, ↓gX_Li5, ↓gX_Rd0, ↓gX_Tp0, ↓gX_St0, ↓gX_St1, ↓gX_St2, ↓gX_St3, ↓gX_Ac0, ↓gX_Ac1, ↓gX_Ac2, ↓gX_Ac3, ↓gX_Ta0, ↓gX_Op0, ↓gX_Op1, ↓gX_Ob0, ↓gX_He0, ↓gX_He1, ↓gX_Md8, ↓gX_Md9, ↓gX_Md10, ↓gX_Md11, ↓gX_Md12, ↓gX_Md13, ↓gX_Md14, ↓gX_Md15, ↓gX_Md16, ↓gX_Md17, ↓gX_Md18, ↓gX_Md19, ↓gX_Md20, ↓gX_Md21, ↓gX_Md22, ↓gX_Md23, ↓gX_Md24, ↓gX_Md25, ↓gX_Md26, ↓gX_Md27, ↓gX_Md28, ↓gX_Md29, ↓gX_Md30, ↓gX_Md31, ↓gX_Md32, ↓gX_Md35, ↓gX_Md36, ↓gX_Md37, ↓gX_Md38, ↓gX_Md39, ↓gX_Md40, ↓gX_Md41, ↓gX_Md42, ↓gX_Md43, ↓gX_Md44, ↓gX_Md45, ↓gX_Md46, ↓gX_Md57, ↓gX_Md58, ↓gX_Md59, ↓gX_Md60, ↓gX_Md61, ↓gX_Md62, ↓gX_Md63, ↓gX_Md64, ↓gX_Md65, ↓gX_Md66, ↓gX_Md67, ↓gX_Md68, ↓gX_Md69, ↓gX_Md70, ↓gX_Md71, ↓gX_Md72, ↓gX_Md77, ↓gX_Md78, ↓gX_Md79, ↓aI_w, ↓qI_w, ↓aI_s0, ↓qI_s0, ↓aI_s1, ↓qI_s1, ↓aI_s2, ↓qI_s2, ↓aI_s3, ↓qI_s3, ↓aI_a0, ↓qI_a0, ↓aI_a1, ↓qI_a1, ↓aI_a2, ↓qI_a2, ↓aI_a3, ↓qI_a3, ↓aI_l0, ↓qI_l0, ↓aI_l1, ↓qI_l1, ↓aI_l2, ↓qI_l2, ↓aI_is, ↓qI_is, ↓aI_ar, ↓qI_ar, ↓aI_ob, ↓qI_ob, ↓aI_hw, ↓qI_hw, ↓aI_ho, ↓qI_ho, ↓aI_rd, ↓qI_rd, ↓aI_tp, ↓qI_tp, ↓aI_m1, ↓qI_m1, ↓aI_m2, ↓qI_m2, ↓aI_m3, ↓qI_m3, ↓aI_m4, ↓qI_m4, ↓aI_m5, ↓qI_m5, ↓aI_m6, ↓qI_m6, ↓aI_m7, ↓qI_m7, ↓aI_m8, ↓qI_m8, ↓aI_m9, ↓qI_m9, ↓aI_m10, ↓qI_m10, ↓aI_m11, ↓qI_m11, ↓aI_m12, ↓qI_m12, ↓aI_m13, ↓qI_m13, ↓aI_m14, ↓qI_m14, ↓aI_m15, ↓qI_m15, ↓aI_m16, ↓qI_m16, ↓aI_m17, ↓qI_m17, ↓aI_m18, ↓qI_m18, ↓aI_m19, ↓qI_m19, ↓aI_m20, ↓qI_m20, ↓aI_m21, ↓qI_m21, ↓aI_m22, ↓qI_m22, ↓aI_m23, ↓qI_m23, ↓aI_m24, ↓qI_m24, ↓aI_m25, ↓qI_m25, ↓aI_m26, ↓qI_m26, ↓aI_m27, ↓qI_m27, ↓aI_m28, ↓qI_m28, ↓aI_m29, ↓qI_m29, ↓aI_m30, ↓qI_m30, ↓aI_m31, ↓qI_m31, ↓aI_m32, ↓qI_m32, ↓aI_m33, ↓qI_m33, ↓aI_m34, ↓qI_m34, ↓aI_m35, ↓qI_m35, ↓aI_m36, ↓qI_m36, ↓aI_m37, ↓qI_m37, ↓aI_m38, ↓qI_m38, ↓aI_m39, ↓qI_m39, ↓aI_m40, ↓qI_m40, ↓aI_m41, ↓qI_m41, ↓aI_m42, ↓qI_m42, ↓aI_m43, ↓qI_m43, ↓aI_m44, ↓qI_m44, ↓aI_m45, ↓qI_m45, ↓aI_m46, ↓qI_m46, ↓aI_m47, ↓qI_m47, ↓aI_m48, ↓qI_m48, ↓aI_m49, ↓qI_m49, ↓aI_m50, ↓qI_m50, ↓aI_m51, ↓qI_m51, ↓aI_m52, ↓qI_m52, ↓aI_m54, ↓qI_m54, ↓aI_m55, ↓qI_m55, ↓aZ_m53, ↓qZ_m53, ↓aZ_m56, ↓qZ_m56, ↓aX_3, ↓aX_4, ↓aX_5, ↓aX_6, ↓aX_324, ↓aX_325, ↓ai_0, ↓ai_1, ↓ai_2, ↓ai_3, ↓qi_0, ↓qi_1, ↓qi_2, ↓qi_3, ↓qi_4, ↓ly_qJ, ↓bd2_mk, ↓bdT_0, ↓bdC_0]
    rfl
  | succ m ih =>
    intro i n b h1 h2
    obtain ⟨n', rfl⟩ : ∃ n', n = n' + 1 := ⟨n - 1, by omega⟩
    have nle : ¬ nI (20 * t + T.1) ≤ nI (20 * t + i) := nI_ge (by omega) (by omega)
    have M := isSameM X hk (show i < T.1 by omega)
    have n1 : nI (20 * t + i) + 1 = nI (20 * t + (i + 1)) := nI_1 _
    rw [fMd_findSame_7, lfd]
    simp (disch := first | with_reducible assumption | omega | (repeat (first | with_reducible assumption | with_reducible apply Ly_wI | with_reducible apply Ly_nx | with_reducible apply Ly_wJ | with_reducible apply Ly_fl))) only [hc, ec, nle, M, bd2_mk, n1, ↓reduceIte, rd_s, rd_n, rd_nx, rd_wJ, t00, t10, t20, t30, ↓gI_Mp, ↓pI_Mp, ↓ck_Mp, ↓gI_Pr, ↓pI_Pr, ↓ck_Pr, ↓gI_La, ↓pI_La, ↓pZ_La, ↓ck_La, ↓gI_Li, ↓pI_Li, ↓ck_Li, ↓gI_Ky, ↓pI_Ky, ↓ck_Ky, ↓gI_Rd, ↓pI_Rd, ↓ck_Rd, ↓gI_Tp, ↓pI_Tp, ↓ck_Tp, ↓gI_St, ↓pI_St, ↓ck_St, ↓gI_Ac, ↓pI_Ac, ↓ck_Ac, ↓gI_Ta, ↓pI_Ta, ↓ck_Ta, ↓gI_Sp, ↓pI_Sp, ↓ck_Sp, ↓gI_Op, ↓pI_Op, ↓ck_Op, ↓gI_Oe, ↓pI_Oe, ↓ck_Oe, ↓gI_Ob, ↓pI_Ob, ↓ck_Ob, ↓gI_He, ↓pI_He, ↓pZ_He, ↓ck_He, ↓gI_En, ↓pI_En, ↓ck_En, ↓gI_Md, ↓pI_Md, ↓pZ_Md, ↓ck_Md, ↓gX_Mp0, ↓gX_Mp1, ↓gX_Mp2, ↓gX_Mp3, ↓gX_Mp4, ↓gX_Mp5, ↓gX_Pr0, ↓gX_Pr1, ↓gX_Pr2, ↓gX_Pr3, ↓gX_Pr4, ↓gX_La0, ↓gX_La1, ↓gX_La2, ↓gX_Li0, ↓gX_Li1, ↓gX_Li2, ↓gX_Li3, ↓gX_Li4, ↓gX_Li5, ↓gX_Rd0, ↓gX_Tp0, ↓gX_St0, ↓gX_St1, ↓gX_St2, ↓gX_St3, ↓gX_Ac0, ↓gX_Ac1, ↓gX_Ac2, ↓gX_Ac3, ↓gX_Ta0, ↓gX_Op0, ↓gX_Op1, ↓gX_Ob0, ↓gX_He0, ↓gX_He1, ↓gX_Md8, ↓gX_Md9, ↓gX_Md10, ↓gX_Md11, ↓gX_Md12, ↓gX_Md13, ↓gX_Md14, ↓gX_Md15, ↓gX_Md16, ↓gX_Md17, ↓gX_Md18, ↓gX_Md19, ↓gX_Md20, ↓gX_Md21, ↓gX_Md22, ↓gX_Md23, ↓gX_Md24, ↓gX_Md25, ↓gX_Md26, ↓gX_Md27, ↓gX_Md28, ↓gX_Md29, ↓gX_Md30, ↓gX_Md31, ↓gX_Md32, ↓gX_Md35, ↓gX_Md36, ↓gX_Md37, ↓gX_Md38, ↓gX_Md39, ↓gX_Md40, ↓gX_Md41, ↓gX_Md42, ↓gX_Md43, ↓gX_Md44, ↓gX_Md45, ↓gX_Md46, ↓gX_Md57, ↓gX_Md58, ↓gX_Md59, ↓gX_Md60, ↓gX_Md61, ↓gX_Md62, ↓gX_Md63, ↓gX_Md64, ↓gX_Md65, ↓gX_Md66, ↓gX_Md67, ↓gX_Md68, ↓gX_Md69, ↓gX_Md70, ↓gX_Md71, ↓gX_Md72, ↓gX_Md77, ↓gX_Md78, ↓gX_Md79, ↓aI_w, ↓qI_w, ↓aI_s0, ↓qI_s0, ↓aI_s1, ↓qI_s1, ↓aI_s2, ↓qI_s2, ↓aI_s3, ↓qI_s3, ↓aI_a0, ↓qI_a0, ↓aI_a1, ↓qI_a1, ↓aI_a2, ↓qI_a2, ↓aI_a3, ↓qI_a3, ↓aI_l0, ↓qI_l0, ↓aI_l1, ↓qI_l1, ↓aI_l2, ↓qI_l2, ↓aI_is, ↓qI_is, ↓aI_ar, ↓qI_ar, ↓aI_ob, ↓qI_ob, ↓aI_hw, ↓qI_hw, ↓aI_ho, ↓qI_ho, ↓aI_rd, ↓qI_rd, ↓aI_tp, ↓qI_tp, ↓aI_m1, ↓qI_m1, ↓aI_m2, ↓qI_m2, ↓aI_m3, ↓qI_m3, ↓aI_m4, ↓qI_m4, ↓aI_m5, ↓qI_m5, ↓aI_m6, ↓qI_m6, ↓aI_m7, ↓qI_m7, ↓aI_m8, ↓qI_m8, ↓aI_m9, ↓qI_m9, ↓aI_m10, ↓qI_m10, ↓aI_m11, ↓qI_m11, ↓aI_m12, ↓qI_m12, ↓aI_m13, ↓qI_m13, ↓aI_m14, ↓qI_m14, ↓aI_m15, ↓qI_m15, ↓aI_m16, ↓qI_m16, ↓aI_m17, ↓qI_m17, ↓aI_m18, ↓qI_m18, ↓aI_m19, ↓qI_m19, ↓aI_m20, ↓qI_m20, ↓aI_m21, ↓qI_m21, ↓aI_m22, ↓qI_m22, ↓aI_m23, ↓qI_m23, ↓aI_m24, ↓qI_m24, ↓aI_m25, ↓qI_m25, ↓aI_m26, ↓qI_m26, ↓aI_m27, ↓qI_m27, ↓aI_m28, ↓qI_m28, ↓aI_m29, ↓qI_m29, ↓aI_m30, ↓qI_m30, ↓aI_m31, ↓qI_m31, ↓aI_m32, ↓qI_m32, ↓aI_m33, ↓qI_m33, ↓aI_m34, ↓qI_m34, ↓aI_m35, ↓qI_m35, ↓aI_m36, ↓qI_m36, ↓aI_m37, ↓qI_m37, ↓aI_m38, ↓qI_m38, ↓aI_m39, ↓qI_m39, ↓aI_m40, ↓qI_m40, ↓aI_m41, ↓qI_m41, ↓aI_m42, ↓qI_m42, ↓aI_m43, ↓qI_m43, ↓aI_m44, ↓qI_m44, ↓aI_m45, ↓qI_m45, ↓aI_m46, ↓qI_m46, ↓aI_m47, ↓qI_m47, ↓aI_m48, ↓qI_m48, ↓aI_m49, ↓qI_m49, ↓aI_m50, ↓qI_m50, ↓aI_m51, ↓qI_m51, ↓aI_m52, ↓qI_m52, ↓aI_m54, ↓qI_m54, ↓aI_m55, ↓qI_m55, ↓aZ_m53, ↓qZ_m53, ↓aZ_m56, ↓qZ_m56, ↓aX_3, ↓aX_4, ↓aX_5, ↓aX_6, ↓aX_324, ↓aX_325, ↓ai_0, ↓ai_1, ↓ai_2, ↓ai_3, ↓qi_0, ↓qi_1, ↓qi_2, ↓qi_3, ↓qi_4, ↓ly_qJ, ↓bd2_mk, ↓bdT_0, ↓bdC_0]
    rcases Classical.em (sK4 (T.2 i) (ctE oF oG e)) with c | c
    · rw [bi_t c, if_neg (by decide), if_pos c]
      exact ih (i + 1) n' (some i) (by omega) (by omega)
    · rw [bi_f c, if_pos rfl, if_neg c]
      exact ih (i + 1) n' b (by omega) (by omega)
theorem findA {o t f0 : Nat} {S : Sx} {oF oG hF hG ac : Int32} {T : TC} {e : Nat → Int32} (X : MX o S t f0 oF oG hF hG ac T) (hU : TU T) (hk : ∀ k, k < 4 → sI S (o + 935) k = e k) : fMd_findSame (o + 893) (nI t) S = some (bI t (fnd T (ctE oF oG e) T.1 0), S) := by
  have h20 := X.c20
  unfold fMd_findSame
  rw [show (20 : Int32) * nI t = nI (20 * t + 0) from pk_mul 20 t, ← lfd_fnd hU T.1 0 (by omega)]
  exact findM X hk T.1 0 fuel none (by omega) (by unfold fuel; omega)
