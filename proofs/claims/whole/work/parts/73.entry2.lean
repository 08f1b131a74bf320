/-! takesIn, letsGo -/
theorem cut_all {o t pl : Nat} {S : Sx} {T : TC} {e : Nat → Int32} {oF oG : Int32} (h : Ly o S) (ht : t < 8) (hpl : pl < 128) (hT : CTb o S t T) (he : ∀ k, k < 8 → sI S (o + (329 + 4 * pl)) k = e k) :
    ∃ S1, fEn_cutTo (o + (329 + 4 * pl)) oF oG S = some S1 ∧ Fr o S S1 t pl ∧ CTb o S1 t T ∧ (∀ k, k < 8 → sI S1 (o + (329 + 4 * pl)) k = ctE oF oG e k) ∧ ∀ k, sI S1 (o + (128 + 22 * t)) k = sI S (o + (128 + 22 * t)) k := by
  obtain ⟨c1, c2⟩ := cutTo_ (oF := oF) (oG := oG) h hpl he
  refine ⟨_, c1, Fr_wI (Fr_wI (Fr_wI (Fr_wI (Fr_id h) (Or.inl rfl)) (Or.inl rfl)) (Or.inl rfl)) (Or.inl rfl), CTb_cut ht (by omega) (CTb_cut ht (by omega) (CTb_cut ht (by omega) (CTb_cut ht (by omega) hT))), c2, fun k => ?_⟩
  rw [rd_n (Or.inl (by omega)), rd_n (Or.inl (by omega)), rd_n (Or.inl (by omega)), rd_n (Or.inl (by omega))]
theorem Fr_tr {o t pl : Nat} {S S1 S2 : Sx} (h : Fr o S S1 t pl) (h2 : Fr o S1 S2 t pl) : Fr o S S2 t pl :=
  ⟨h2.1, h2.2.1.trans h.2.1, fun a k w => (h2.2.2.1 a k w).trans (h.2.2.1 a k w), fun c k w1 w2 => (h2.2.2.2 c k w1 w2).trans (h.2.2.2 c k w1 w2)⟩
theorem hasb {x y : Int32} {S : Sx} : fMp_hasBit x y S = some (bi (hbit x y), S) := has_bit
theorem takes_ {o t pl : Nat} {S : Sx} {T : TC} {e : Nat → Int32} {hF hG oF oG ac : Int32} (h : Ly o S) (ht : t < 8) (hpl : pl < 128) (hT : CTb o S t T) (he : ∀ k, k < 8 → sI S (o + (329 + 4 * pl)) k = e k)
    (r3 : sI S (o + (128 + 22 * t)) 3 = oF) (r4 : sI S (o + (128 + 22 * t)) 4 = hF) (r6 : sI S (o + (128 + 22 * t)) 6 = oG) (r7 : sI S (o + (128 + 22 * t)) 7 = hG) (r8 : sI S (o + (128 + 22 * t)) 8 = ac) :
    ∃ S1, fTa_takesIn (o + (128 + 22 * t)) (o + (329 + 4 * pl)) S = some (bi (okIn hF hG oF oG ac T (ctE oF oG e)), S1) ∧ Fr o S S1 t pl ∧ CTb o S1 t (@ite _ (okIn hF hG oF oG ac T (ctE oF oG e)) (Classical.propDecidable _) (insT T (ctE oF oG e)) (T)) := by
  obtain ⟨S1, c1, F1, C1, c2, c3⟩ := cut_all (oF := oF) (oG := oG) h ht hpl hT he
  have hL1 := F1.1
  rw [← c3] at r3 r4 r6 r7 r8
  have ex : ctE oF oG e 5 = e 5 := rfl
  unfold fTa_takesIn
  generalize ctE oF oG e = x at *
  obtain ⟨h20, q, q1, q2, q3⟩ := C1
  have P := place_l hL1 ht hpl h20 q1 q2 q3 c2 T.1 0 fuel (by omega) (by unfold fuel; omega)
  have P' : fTa_placeOf (o + (128 + 22 * t)) (o + (329 + 4 * pl)) S1 = some (fI (fnd T x T.1 0), S1) := P
  have d1 := c2 1 (by omega)
  have d3 := c2 3 (by omega)
  have d5 := c2 5 (by omega)
  have z3 : sI S (o + (128 + 22 * t)) 3 = oF := by rw [← c3]; exact r3
  have z6 : sI S (o + (128 + 22 * t)) 6 = oG := by rw [← c3]; exact r6
  simp (disch := first | with_reducible assumption | omega | (repeat (first | with_reducible assumption | with_reducible apply Ly_wI | with_reducible apply Ly_nx | with_reducible apply Ly_wJ | with_reducible apply Ly_fl))) only [z3, z6, ↓reduceIte, rd_s, rd_n, rd_nx, rd_wJ, t00, t10, t20, t30, ↓gI_Mp, ↓pI_Mp, ↓ck_Mp, ↓gI_Pr, ↓pI_Pr, ↓ck_Pr, ↓gI_La, ↓pI_La, ↓pZ_La, ↓ck_La, ↓gI_Li, ↓pI_Li, ↓ck_Li, ↓gI_Ky, ↓pI_Ky, ↓ck_Ky, ↓gI_Rd, ↓pI_Rd, ↓ck_Rd, ↓gI_Tp, ↓pI_Tp, ↓ck_Tp, ↓gI_St, ↓pI_St, ↓ck_St, ↓gI_Ac, ↓pI_Ac, ↓ck_Ac, ↓gI_Ta, ↓pI_Ta, ↓ck_Ta, ↓gI_Sp, ↓pI_Sp, ↓ck_Sp, ↓gI_Op, ↓pI_Op, ↓ck_Op, ↓gI_Oe, ↓pI_Oe, ↓ck_Oe, ↓gI_Ob, ↓pI_Ob, ↓ck_Ob, ↓gI_He, ↓pI_He, ↓pZ_He, ↓ck_He, ↓gI_En, ↓pI_En, ↓ck_En, ↓gI_Md, ↓pI_Md, ↓pZ_Md, ↓ck_Md, ↓gX_Mp0, ↓gX_Mp1, ↓gX_Mp2, ↓gX_Mp3, ↓gX_Mp4, ↓gX_Mp5, ↓gX_Pr0, ↓gX_Pr1, ↓gX_Pr2, ↓gX_Pr3, ↓gX_Pr4, ↓gX_La0, ↓gX_La1, ↓gX_La2, ↓gX_Li0, ↓gX_Li1, ↓gX_Li2, ↓gX_Li3, ↓gX_Li4, ↓gX_Li5, ↓gX_Rd0, ↓gX_Tp0, ↓gX_St0, ↓gX_St1, ↓gX_St2, ↓gX_St3, ↓gX_Ac0, ↓gX_Ac1, ↓gX_Ac2, ↓gX_Ac3, ↓gX_Ta0, ↓gX_Op0, ↓gX_Op1, ↓gX_Ob0, ↓gX_He0, ↓gX_He1, ↓gX_Md8, ↓gX_Md9, ↓gX_Md10, ↓gX_Md11, ↓gX_Md12, ↓gX_Md13, ↓gX_Md14, ↓gX_Md15, ↓gX_Md16, ↓gX_Md17, ↓gX_Md18, ↓gX_Md19, ↓gX_Md20, ↓gX_Md21, ↓gX_Md22, ↓gX_Md23, ↓gX_Md24, ↓gX_Md25, ↓gX_Md26, ↓gX_Md27, ↓gX_Md28, ↓gX_Md29, ↓gX_Md30, ↓gX_Md31, ↓gX_Md32, ↓gX_Md35, ↓gX_Md36, ↓gX_Md37, ↓gX_Md38, ↓gX_Md39, ↓gX_Md40, ↓gX_Md41, ↓gX_Md42, ↓gX_Md43, ↓gX_Md44, ↓gX_Md45, ↓gX_Md46, ↓gX_Md57, ↓gX_Md58, ↓gX_Md59, ↓gX_Md60, ↓gX_Md61, ↓gX_Md62, ↓gX_Md63, ↓gX_Md64, ↓gX_Md65, ↓gX_Md66, ↓gX_Md67, ↓gX_Md68, ↓gX_Md69, ↓gX_Md70, ↓gX_Md71, ↓gX_Md72, ↓gX_Md77, ↓gX_Md78, ↓gX_Md79, ↓aI_w, ↓qI_w, ↓aI_s0, ↓qI_s0, ↓aI_s1, ↓qI_s1, ↓aI_s2, ↓qI_s2, ↓aI_s3, ↓qI_s3, ↓aI_a0, ↓qI_a0, ↓aI_a1, ↓qI_a1, ↓aI_a2, ↓qI_a2, ↓aI_a3, ↓qI_a3, ↓aI_l0, ↓qI_l0, ↓aI_l1, ↓qI_l1, ↓aI_l2, ↓qI_l2, ↓aI_is, ↓qI_is, ↓aI_ar, ↓qI_ar, ↓aI_ob, ↓qI_ob, ↓aI_hw, ↓qI_hw, ↓aI_ho, ↓qI_ho, ↓aI_rd, ↓qI_rd, ↓aI_tp, ↓qI_tp, ↓aI_m1, ↓qI_m1, ↓aI_m2, ↓qI_m2, ↓aI_m3, ↓qI_m3, ↓aI_m4, ↓qI_m4, ↓aI_m5, ↓qI_m5, ↓aI_m6, ↓qI_m6, ↓aI_m7, ↓qI_m7, ↓aI_m8, ↓qI_m8, ↓aI_m9, ↓qI_m9, ↓aI_m10, ↓qI_m10, ↓aI_m11, ↓qI_m11, ↓aI_m12, ↓qI_m12, ↓aI_m13, ↓qI_m13, ↓aI_m14, ↓qI_m14, ↓aI_m15, ↓qI_m15, ↓aI_m16, ↓qI_m16, ↓aI_m17, ↓qI_m17, ↓aI_m18, ↓qI_m18, ↓aI_m19, ↓qI_m19, ↓aI_m20, ↓qI_m20, ↓aI_m21, ↓qI_m21, ↓aI_m22, ↓qI_m22, ↓aI_m23, ↓qI_m23, ↓aI_m24, ↓qI_m24, ↓aI_m25, ↓qI_m25, ↓aI_m26, ↓qI_m26, ↓aI_m27, ↓qI_m27, ↓aI_m28, ↓qI_m28, ↓aI_m29, ↓qI_m29, ↓aI_m30, ↓qI_m30, ↓aI_m31, ↓qI_m31, ↓aI_m32, ↓qI_m32, ↓aI_m33, ↓qI_m33, ↓aI_m34, ↓qI_m34, ↓aI_m35, ↓qI_m35, ↓aI_m36, ↓qI_m36, ↓aI_m37, ↓qI_m37, ↓aI_m38, ↓qI_m38, ↓aI_m39, ↓qI_m39, ↓aI_m40, ↓qI_m40, ↓aI_m41, ↓qI_m41, ↓aI_m42, ↓qI_m42, ↓aI_m43, ↓qI_m43, ↓aI_m44, ↓qI_m44, ↓aI_m45, ↓qI_m45, ↓aI_m46, ↓qI_m46, ↓aI_m47, ↓qI_m47, ↓aI_m48, ↓qI_m48, ↓aI_m49, ↓qI_m49, ↓aI_m50, ↓qI_m50, ↓aI_m51, ↓qI_m51, ↓aI_m52, ↓qI_m52, ↓aI_m54, ↓qI_m54, ↓aI_m55, ↓qI_m55, ↓aZ_m53, ↓qZ_m53, ↓aZ_m56, ↓qZ_m56, ↓aX_3, ↓aX_4, ↓aX_5, ↓aX_6, ↓aX_324, ↓aX_325, ↓ai_0, ↓ai_1, ↓ai_2, ↓ai_3, ↓qi_0, ↓qi_1, ↓qi_2, ↓qi_3, ↓qi_4, ↓ly_qJ, ↓bd2_mk, ↓bdT_0, ↓bdC_0]
  rw [c1]
  show ∃ S1', ((gI S1 4 4 (o + (128 + 22 * t))).bind _) = _ ∧ _
  simp (disch := first | with_reducible assumption | omega | (repeat (first | with_reducible assumption | with_reducible apply Ly_wI | with_reducible apply Ly_nx | with_reducible apply Ly_wJ | with_reducible apply Ly_fl))) only [r3, r4, r6, r7, r8, d1, d3, d5, isMask_, bd2_mk, ↓reduceIte, rd_s, rd_n, rd_nx, rd_wJ, t00, t10, t20, t30, ↓gI_Mp, ↓pI_Mp, ↓ck_Mp, ↓gI_Pr, ↓pI_Pr, ↓ck_Pr, ↓gI_La, ↓pI_La, ↓pZ_La, ↓ck_La, ↓gI_Li, ↓pI_Li, ↓ck_Li, ↓gI_Ky, ↓pI_Ky, ↓ck_Ky, ↓gI_Rd, ↓pI_Rd, ↓ck_Rd, ↓gI_Tp, ↓pI_Tp, ↓ck_Tp, ↓gI_St, ↓pI_St, ↓ck_St, ↓gI_Ac, ↓pI_Ac, ↓ck_Ac, ↓gI_Ta, ↓pI_Ta, ↓ck_Ta, ↓gI_Sp, ↓pI_Sp, ↓ck_Sp, ↓gI_Op, ↓pI_Op, ↓ck_Op, ↓gI_Oe, ↓pI_Oe, ↓ck_Oe, ↓gI_Ob, ↓pI_Ob, ↓ck_Ob, ↓gI_He, ↓pI_He, ↓pZ_He, ↓ck_He, ↓gI_En, ↓pI_En, ↓ck_En, ↓gI_Md, ↓pI_Md, ↓pZ_Md, ↓ck_Md, ↓gX_Mp0, ↓gX_Mp1, ↓gX_Mp2, ↓gX_Mp3, ↓gX_Mp4, ↓gX_Mp5, ↓gX_Pr0, ↓gX_Pr1, ↓gX_Pr2, ↓gX_Pr3, ↓gX_Pr4, ↓gX_La0, ↓gX_La1, ↓gX_La2, ↓gX_Li0, ↓gX_Li1, ↓gX_Li2, ↓gX_Li3, ↓gX_Li4, ↓gX_Li5, ↓gX_Rd0, ↓gX_Tp0, ↓gX_St0, ↓gX_St1, ↓gX_St2, ↓gX_St3, ↓gX_Ac0, ↓gX_Ac1, ↓gX_Ac2, ↓gX_Ac3, ↓gX_Ta0, ↓gX_Op0, ↓gX_Op1, ↓gX_Ob0, ↓gX_He0, ↓gX_He1, ↓gX_Md8, ↓gX_Md9, ↓gX_Md10, ↓gX_Md11, ↓gX_Md12, ↓gX_Md13, ↓gX_Md14, ↓gX_Md15, ↓gX_Md16, ↓gX_Md17, ↓gX_Md18, ↓gX_Md19, ↓gX_Md20, ↓gX_Md21, ↓gX_Md22, ↓gX_Md23, ↓gX_Md24, ↓gX_Md25, ↓gX_Md26, ↓gX_Md27, ↓gX_Md28, ↓gX_Md29, ↓gX_Md30, ↓gX_Md31, ↓gX_Md32, ↓gX_Md35, ↓gX_Md36, ↓gX_Md37, ↓gX_Md38, ↓gX_Md39, ↓gX_Md40, ↓gX_Md41, ↓gX_Md42, ↓gX_Md43, ↓gX_Md44, ↓gX_Md45, ↓gX_Md46, ↓gX_Md57, ↓gX_Md58, ↓gX_Md59, ↓gX_Md60, ↓gX_Md61, ↓gX_Md62, ↓gX_Md63, ↓gX_Md64, ↓gX_Md65, ↓gX_Md66, ↓gX_Md67, ↓gX_Md68, ↓gX_Md69, ↓gX_Md70, ↓gX_Md71, ↓gX_Md72, ↓gX_Md77, ↓gX_Md78, ↓gX_Md79, ↓aI_w, ↓qI_w, ↓aI_s0, ↓qI_s0, ↓aI_s1, ↓qI_s1, ↓aI_s2, ↓qI_s2, ↓aI_s3, ↓qI_s3, ↓aI_a0, ↓qI_a0, ↓aI_a1, ↓qI_a1, ↓aI_a2, ↓qI_a2, ↓aI_a3, ↓qI_a3, ↓aI_l0, ↓qI_l0, ↓aI_l1, ↓qI_l1, ↓aI_l2, ↓qI_l2, ↓aI_is, ↓qI_is, ↓aI_ar, ↓qI_ar, ↓aI_ob, ↓qI_ob, ↓aI_hw, ↓qI_hw, ↓aI_ho, ↓qI_ho, ↓aI_rd, ↓qI_rd, ↓aI_tp, ↓qI_tp, ↓aI_m1, ↓qI_m1, ↓aI_m2, ↓qI_m2, ↓aI_m3, ↓qI_m3, ↓aI_m4, ↓qI_m4, ↓aI_m5, ↓qI_m5, ↓aI_m6, ↓qI_m6, ↓aI_m7, ↓qI_m7, ↓aI_m8, ↓qI_m8, ↓aI_m9, ↓qI_m9, ↓aI_m10, ↓qI_m10, ↓aI_m11, ↓qI_m11, ↓aI_m12, ↓qI_m12, ↓aI_m13, ↓qI_m13, ↓aI_m14, ↓qI_m14, ↓aI_m15, ↓qI_m15, ↓aI_m16, ↓qI_m16, ↓aI_m17, ↓qI_m17, ↓aI_m18, ↓qI_m18, ↓aI_m19, ↓qI_m19, ↓aI_m20, ↓qI_m20, ↓aI_m21, ↓qI_m21, ↓aI_m22, ↓qI_m22, ↓aI_m23, ↓qI_m23, ↓aI_m24, ↓qI_m24, ↓aI_m25, ↓qI_m25, ↓aI_m26, ↓qI_m26, ↓aI_m27, ↓qI_m27, ↓aI_m28, ↓qI_m28, ↓aI_m29, ↓qI_m29, ↓aI_m30, ↓qI_m30, ↓aI_m31, ↓qI_m31, ↓aI_m32, ↓qI_m32, ↓aI_m33, ↓qI_m33, ↓aI_m34, ↓qI_m34, ↓aI_m35, ↓qI_m35, ↓aI_m36, ↓qI_m36, ↓aI_m37, ↓qI_m37, ↓aI_m38, ↓qI_m38, ↓aI_m39, ↓qI_m39, ↓aI_m40, ↓qI_m40, ↓aI_m41, ↓qI_m41, ↓aI_m42, ↓qI_m42, ↓aI_m43, ↓qI_m43, ↓aI_m44, ↓qI_m44, ↓aI_m45, ↓qI_m45, ↓aI_m46, ↓qI_m46, ↓aI_m47, ↓qI_m47, ↓aI_m48, ↓qI_m48, ↓aI_m49, ↓qI_m49, ↓aI_m50, ↓qI_m50, ↓aI_m51, ↓qI_m51, ↓aI_m52, ↓qI_m52, ↓aI_m54, ↓qI_m54, ↓aI_m55, ↓qI_m55, ↓aZ_m53, ↓qZ_m53, ↓aZ_m56, ↓qZ_m56, ↓aX_3, ↓aX_4, ↓aX_5, ↓aX_6, ↓aX_324, ↓aX_325, ↓ai_0, ↓ai_1, ↓ai_2, ↓ai_3, ↓qi_0, ↓qi_1, ↓qi_2, ↓qi_3, ↓qi_4, ↓ly_qJ, ↓bd2_mk, ↓bdT_0, ↓bdC_0]
  have CT : CTb o S1 t T := ⟨h20, q, q1, q2, q3⟩
  rcases Classical.em (mOk hF (x 1) oF) with m1 | m1
  rotate_left
  · rw [bi_f m1, if_pos rfl]
    have no : ¬ okIn hF hG oF oG ac T x := fun w => m1 w.1
    rw [bi_f no]
    refine ⟨S1, rfl, F1, ?_⟩
    rw [if_neg no]; exact CT
  rw [bi_t m1, if_neg (by decide)]
  rcases Classical.em (mOk hG (x 3) oG) with m2 | m2
  rotate_left
  · rw [bi_f m2, if_pos rfl]
    have no : ¬ okIn hF hG oF oG ac T x := fun w => m2 w.2.1
    rw [bi_f no]
    refine ⟨S1, rfl, F1, ?_⟩
    rw [if_neg no]; exact CT
  rw [bi_t m2, if_neg (by decide), hasb, bd2_mk]
  rcases Classical.em (hbit ac (x 5)) with m3 | m3
  rotate_left
  · rw [bi_f m3, if_pos rfl]
    have no : ¬ okIn hF hG oF oG ac T x := fun w => m3 w.2.2.1
    rw [bi_f no]
    refine ⟨S1, rfl, F1, ?_⟩
    rw [if_neg no]; exact CT
  rw [bi_t m3, if_neg (by decide)]
  simp (disch := first | with_reducible assumption | omega | (repeat (first | with_reducible assumption | with_reducible apply Ly_wI | with_reducible apply Ly_nx | with_reducible apply Ly_wJ | with_reducible apply Ly_fl))) only [P', bd2_mk, ↓reduceIte, rd_s, rd_n, rd_nx, rd_wJ, t00, t10, t20, t30, ↓gI_Mp, ↓pI_Mp, ↓ck_Mp, ↓gI_Pr, ↓pI_Pr, ↓ck_Pr, ↓gI_La, ↓pI_La, ↓pZ_La, ↓ck_La, ↓gI_Li, ↓pI_Li, ↓ck_Li, ↓gI_Ky, ↓pI_Ky, ↓ck_Ky, ↓gI_Rd, ↓pI_Rd, ↓ck_Rd, ↓gI_Tp, ↓pI_Tp, ↓ck_Tp, ↓gI_St, ↓pI_St, ↓ck_St, ↓gI_Ac, ↓pI_Ac, ↓ck_Ac, ↓gI_Ta, ↓pI_Ta, ↓ck_Ta, ↓gI_Sp, ↓pI_Sp, ↓ck_Sp, ↓gI_Op, ↓pI_Op, ↓ck_Op, ↓gI_Oe, ↓pI_Oe, ↓ck_Oe, ↓gI_Ob, ↓pI_Ob, ↓ck_Ob, ↓gI_He, ↓pI_He, ↓pZ_He, ↓ck_He, ↓gI_En, ↓pI_En, ↓ck_En, ↓gI_Md, ↓pI_Md, ↓pZ_Md, ↓ck_Md, ↓gX_Mp0, ↓gX_Mp1, ↓gX_Mp2, ↓gX_Mp3, ↓gX_Mp4, ↓gX_Mp5, ↓gX_Pr0, ↓gX_Pr1, ↓gX_Pr2, ↓gX_Pr3, ↓gX_Pr4, ↓gX_La0, ↓gX_La1, ↓gX_La2, ↓gX_Li0, ↓gX_Li1, ↓gX_Li2, ↓gX_Li3, ↓gX_Li4, ↓gX_Li5, ↓gX_Rd0, ↓gX_Tp0, ↓gX_St0, ↓gX_St1, ↓gX_St2, ↓gX_St3, ↓gX_Ac0, ↓gX_Ac1, ↓gX_Ac2, ↓gX_Ac3, ↓gX_Ta0, ↓gX_Op0, ↓gX_Op1, ↓gX_Ob0, ↓gX_He0, ↓gX_He1, ↓gX_Md8, ↓gX_Md9, ↓gX_Md10, ↓gX_Md11, ↓gX_Md12, ↓gX_Md13, ↓gX_Md14, ↓gX_Md15, ↓gX_Md16, ↓gX_Md17, ↓gX_Md18, ↓gX_Md19, ↓gX_Md20, ↓gX_Md21, ↓gX_Md22, ↓gX_Md23, ↓gX_Md24, ↓gX_Md25, ↓gX_Md26, ↓gX_Md27, ↓gX_Md28, ↓gX_Md29, ↓gX_Md30, ↓gX_Md31, ↓gX_Md32, ↓gX_Md35, ↓gX_Md36, ↓gX_Md37, ↓gX_Md38, ↓gX_Md39, ↓gX_Md40, ↓gX_Md41, ↓gX_Md42, ↓gX_Md43, ↓gX_Md44, ↓gX_Md45, ↓gX_Md46, ↓gX_Md57, ↓gX_Md58, ↓gX_Md59, ↓gX_Md60, ↓gX_Md61, ↓gX_Md62, ↓gX_Md63, ↓gX_Md64, ↓gX_Md65, ↓gX_Md66, ↓gX_Md67, ↓gX_Md68, ↓gX_Md69, ↓gX_Md70, ↓gX_Md71, ↓gX_Md72, ↓gX_Md77, ↓gX_Md78, ↓gX_Md79, ↓aI_w, ↓qI_w, ↓aI_s0, ↓qI_s0, ↓aI_s1, ↓qI_s1, ↓aI_s2, ↓qI_s2, ↓aI_s3, ↓qI_s3, ↓aI_a0, ↓qI_a0, ↓aI_a1, ↓qI_a1, ↓aI_a2, ↓qI_a2, ↓aI_a3, ↓qI_a3, ↓aI_l0, ↓qI_l0, ↓aI_l1, ↓qI_l1, ↓aI_l2, ↓qI_l2, ↓aI_is, ↓qI_is, ↓aI_ar, ↓qI_ar, ↓aI_ob, ↓qI_ob, ↓aI_hw, ↓qI_hw, ↓aI_ho, ↓qI_ho, ↓aI_rd, ↓qI_rd, ↓aI_tp, ↓qI_tp, ↓aI_m1, ↓qI_m1, ↓aI_m2, ↓qI_m2, ↓aI_m3, ↓qI_m3, ↓aI_m4, ↓qI_m4, ↓aI_m5, ↓qI_m5, ↓aI_m6, ↓qI_m6, ↓aI_m7, ↓qI_m7, ↓aI_m8, ↓qI_m8, ↓aI_m9, ↓qI_m9, ↓aI_m10, ↓qI_m10, ↓aI_m11, ↓qI_m11, ↓aI_m12, ↓qI_m12, ↓aI_m13, ↓qI_m13, ↓aI_m14, ↓qI_m14, ↓aI_m15, ↓qI_m15, ↓aI_m16, ↓qI_m16, ↓aI_m17, ↓qI_m17, ↓aI_m18, ↓qI_m18, ↓aI_m19, ↓qI_m19, ↓aI_m20, ↓qI_m20, ↓aI_m21, ↓qI_m21, ↓aI_m22, ↓qI_m22, ↓aI_m23, ↓qI_m23, ↓aI_m24, ↓qI_m24, ↓aI_m25, ↓qI_m25, ↓aI_m26, ↓qI_m26, ↓aI_m27, ↓qI_m27, ↓aI_m28, ↓qI_m28, ↓aI_m29, ↓qI_m29, ↓aI_m30, ↓qI_m30, ↓aI_m31, ↓qI_m31, ↓aI_m32, ↓qI_m32, ↓aI_m33, ↓qI_m33, ↓aI_m34, ↓qI_m34, ↓aI_m35, ↓qI_m35, ↓aI_m36, ↓qI_m36, ↓aI_m37, ↓qI_m37, ↓aI_m38, ↓qI_m38, ↓aI_m39, ↓qI_m39, ↓aI_m40, ↓qI_m40, ↓aI_m41, ↓qI_m41, ↓aI_m42, ↓qI_m42, ↓aI_m43, ↓qI_m43, ↓aI_m44, ↓qI_m44, ↓aI_m45, ↓qI_m45, ↓aI_m46, ↓qI_m46, ↓aI_m47, ↓qI_m47, ↓aI_m48, ↓qI_m48, ↓aI_m49, ↓qI_m49, ↓aI_m50, ↓qI_m50, ↓aI_m51, ↓qI_m51, ↓aI_m52, ↓qI_m52, ↓aI_m54, ↓qI_m54, ↓aI_m55, ↓qI_m55, ↓aZ_m53, ↓qZ_m53, ↓aZ_m56, ↓qZ_m56, ↓aX_3, ↓aX_4, ↓aX_5, ↓aX_6, ↓aX_324, ↓aX_325, ↓ai_0, ↓ai_1, ↓ai_2, ↓ai_3, ↓qi_0, ↓qi_1, ↓qi_2, ↓qi_3, ↓qi_4, ↓ly_qJ, ↓bd2_mk, ↓bdT_0, ↓bdC_0]
  cases m4 : fnd T x T.1 0 with
  | some j =>
    rw [if_neg (show ¬ fI (some j) = -1 from nN1 (by have := fnd_s _ _ _ m4; omega))]
    have no : ¬ okIn hF hG oF oG ac T x := fun w => by have := w.2.2.2.1; rw [m4] at this; cases this
    rw [bi_f no]
    refine ⟨S1, rfl, F1, ?_⟩
    rw [if_neg no]; exact CT
  | none =>
    rw [if_pos (show fI none = -1 from rfl)]
    by_cases m5 : T.1 < 20
    · have ok : okIn hF hG oF oG ac T x := ⟨m1, m2, m3, m4, m5⟩
      have lt : nI T.1 < 20 := nI_lt (b := 20) m5 (by omega)
      have cp := copy_in (e := x) hL1 ht hpl q1 m5 c2
      have qi := (q1.1 T.1 m5).1
      rw [bi_t ok]
      simp (disch := first | with_reducible assumption | omega | (repeat (first | with_reducible assumption | with_reducible apply Ly_wI | with_reducible apply Ly_nx | with_reducible apply Ly_wJ | with_reducible apply Ly_fl))) only [q2, lt, ↓aX_row hL1 q1 ht m5, ↓reduceIte, rd_s, rd_n, rd_nx, rd_wJ, t00, t10, t20, t30, ↓gI_Mp, ↓pI_Mp, ↓ck_Mp, ↓gI_Pr, ↓pI_Pr, ↓ck_Pr, ↓gI_La, ↓pI_La, ↓pZ_La, ↓ck_La, ↓gI_Li, ↓pI_Li, ↓ck_Li, ↓gI_Ky, ↓pI_Ky, ↓ck_Ky, ↓gI_Rd, ↓pI_Rd, ↓ck_Rd, ↓gI_Tp, ↓pI_Tp, ↓ck_Tp, ↓gI_St, ↓pI_St, ↓ck_St, ↓gI_Ac, ↓pI_Ac, ↓ck_Ac, ↓gI_Ta, ↓pI_Ta, ↓ck_Ta, ↓gI_Sp, ↓pI_Sp, ↓ck_Sp, ↓gI_Op, ↓pI_Op, ↓ck_Op, ↓gI_Oe, ↓pI_Oe, ↓ck_Oe, ↓gI_Ob, ↓pI_Ob, ↓ck_Ob, ↓gI_He, ↓pI_He, ↓pZ_He, ↓ck_He, ↓gI_En, ↓pI_En, ↓ck_En, ↓gI_Md, ↓pI_Md, ↓pZ_Md, ↓ck_Md, ↓gX_Mp0, ↓gX_Mp1, ↓gX_Mp2, ↓gX_Mp3, ↓gX_Mp4, ↓gX_Mp5, ↓gX_Pr0, ↓gX_Pr1, ↓gX_Pr2, ↓gX_Pr3, ↓gX_Pr4, ↓gX_La0, ↓gX_La1, ↓gX_La2, ↓gX_Li0, ↓gX_Li1, ↓gX_Li2, ↓gX_Li3, ↓gX_Li4, ↓gX_Li5, ↓gX_Rd0, ↓gX_Tp0, ↓gX_St0, ↓gX_St1, ↓gX_St2, ↓gX_St3, ↓gX_Ac0, ↓gX_Ac1, ↓gX_Ac2, ↓gX_Ac3, ↓gX_Ta0, ↓gX_Op0, ↓gX_Op1, ↓gX_Ob0, ↓gX_He0, ↓gX_He1, ↓gX_Md8, ↓gX_Md9, ↓gX_Md10, ↓gX_Md11, ↓gX_Md12, ↓gX_Md13, ↓gX_Md14, ↓gX_Md15, ↓gX_Md16, ↓gX_Md17, ↓gX_Md18, ↓gX_Md19, ↓gX_Md20, ↓gX_Md21, ↓gX_Md22, ↓gX_Md23, ↓gX_Md24, ↓gX_Md25, ↓gX_Md26, ↓gX_Md27, ↓gX_Md28, ↓gX_Md29, ↓gX_Md30, ↓gX_Md31, ↓gX_Md32, ↓gX_Md35, ↓gX_Md36, ↓gX_Md37, ↓gX_Md38, ↓gX_Md39, ↓gX_Md40, ↓gX_Md41, ↓gX_Md42, ↓gX_Md43, ↓gX_Md44, ↓gX_Md45, ↓gX_Md46, ↓gX_Md57, ↓gX_Md58, ↓gX_Md59, ↓gX_Md60, ↓gX_Md61, ↓gX_Md62, ↓gX_Md63, ↓gX_Md64, ↓gX_Md65, ↓gX_Md66, ↓gX_Md67, ↓gX_Md68, ↓gX_Md69, ↓gX_Md70, ↓gX_Md71, ↓gX_Md72, ↓gX_Md77, ↓gX_Md78, ↓gX_Md79, ↓aI_w, ↓qI_w, ↓aI_s0, ↓qI_s0, ↓aI_s1, ↓qI_s1, ↓aI_s2, ↓qI_s2, ↓aI_s3, ↓qI_s3, ↓aI_a0, ↓qI_a0, ↓aI_a1, ↓qI_a1, ↓aI_a2, ↓qI_a2, ↓aI_a3, ↓qI_a3, ↓aI_l0, ↓qI_l0, ↓aI_l1, ↓qI_l1, ↓aI_l2, ↓qI_l2, ↓aI_is, ↓qI_is, ↓aI_ar, ↓qI_ar, ↓aI_ob, ↓qI_ob, ↓aI_hw, ↓qI_hw, ↓aI_ho, ↓qI_ho, ↓aI_rd, ↓qI_rd, ↓aI_tp, ↓qI_tp, ↓aI_m1, ↓qI_m1, ↓aI_m2, ↓qI_m2, ↓aI_m3, ↓qI_m3, ↓aI_m4, ↓qI_m4, ↓aI_m5, ↓qI_m5, ↓aI_m6, ↓qI_m6, ↓aI_m7, ↓qI_m7, ↓aI_m8, ↓qI_m8, ↓aI_m9, ↓qI_m9, ↓aI_m10, ↓qI_m10, ↓aI_m11, ↓qI_m11, ↓aI_m12, ↓qI_m12, ↓aI_m13, ↓qI_m13, ↓aI_m14, ↓qI_m14, ↓aI_m15, ↓qI_m15, ↓aI_m16, ↓qI_m16, ↓aI_m17, ↓qI_m17, ↓aI_m18, ↓qI_m18, ↓aI_m19, ↓qI_m19, ↓aI_m20, ↓qI_m20, ↓aI_m21, ↓qI_m21, ↓aI_m22, ↓qI_m22, ↓aI_m23, ↓qI_m23, ↓aI_m24, ↓qI_m24, ↓aI_m25, ↓qI_m25, ↓aI_m26, ↓qI_m26, ↓aI_m27, ↓qI_m27, ↓aI_m28, ↓qI_m28, ↓aI_m29, ↓qI_m29, ↓aI_m30, ↓qI_m30, ↓aI_m31, ↓qI_m31, ↓aI_m32, ↓qI_m32, ↓aI_m33, ↓qI_m33, ↓aI_m34, ↓qI_m34, ↓aI_m35, ↓qI_m35, ↓aI_m36, ↓qI_m36, ↓aI_m37, ↓qI_m37, ↓aI_m38, ↓qI_m38, ↓aI_m39, ↓qI_m39, ↓aI_m40, ↓qI_m40, ↓aI_m41, ↓qI_m41, ↓aI_m42, ↓qI_m42, ↓aI_m43, ↓qI_m43, ↓aI_m44, ↓qI_m44, ↓aI_m45, ↓qI_m45, ↓aI_m46, ↓qI_m46, ↓aI_m47, ↓qI_m47, ↓aI_m48, ↓qI_m48, ↓aI_m49, ↓qI_m49, ↓aI_m50, ↓qI_m50, ↓aI_m51, ↓qI_m51, ↓aI_m52, ↓qI_m52, ↓aI_m54, ↓qI_m54, ↓aI_m55, ↓qI_m55, ↓aZ_m53, ↓qZ_m53, ↓aZ_m56, ↓qZ_m56, ↓aX_3, ↓aX_4, ↓aX_5, ↓aX_6, ↓aX_324, ↓aX_325, ↓ai_0, ↓ai_1, ↓ai_2, ↓ai_3, ↓qi_0, ↓qi_1, ↓qi_2, ↓qi_3, ↓qi_4, ↓ly_qJ, ↓bd2_mk, ↓bdT_0, ↓bdC_0]
      rw [cp]
      simp only [Option.bind_some]
      simp (disch := first | with_reducible assumption | omega | (repeat (first | with_reducible assumption | with_reducible apply Ly_wI | with_reducible apply Ly_nx | with_reducible apply Ly_wJ | with_reducible apply Ly_fl))) only [q2, ↓reduceIte, rd_s, rd_n, rd_nx, rd_wJ, t00, t10, t20, t30, ↓gI_Mp, ↓pI_Mp, ↓ck_Mp, ↓gI_Pr, ↓pI_Pr, ↓ck_Pr, ↓gI_La, ↓pI_La, ↓pZ_La, ↓ck_La, ↓gI_Li, ↓pI_Li, ↓ck_Li, ↓gI_Ky, ↓pI_Ky, ↓ck_Ky, ↓gI_Rd, ↓pI_Rd, ↓ck_Rd, ↓gI_Tp, ↓pI_Tp, ↓ck_Tp, ↓gI_St, ↓pI_St, ↓ck_St, ↓gI_Ac, ↓pI_Ac, ↓ck_Ac, ↓gI_Ta, ↓pI_Ta, ↓ck_Ta, ↓gI_Sp, ↓pI_Sp, ↓ck_Sp, ↓gI_Op, ↓pI_Op, ↓ck_Op, ↓gI_Oe, ↓pI_Oe, ↓ck_Oe, ↓gI_Ob, ↓pI_Ob, ↓ck_Ob, ↓gI_He, ↓pI_He, ↓pZ_He, ↓ck_He, ↓gI_En, ↓pI_En, ↓ck_En, ↓gI_Md, ↓pI_Md, ↓pZ_Md, ↓ck_Md, ↓gX_Mp0, ↓gX_Mp1, ↓gX_Mp2, ↓gX_Mp3, ↓gX_Mp4, ↓gX_Mp5, ↓gX_Pr0, ↓gX_Pr1, ↓gX_Pr2, ↓gX_Pr3, ↓gX_Pr4, ↓gX_La0, ↓gX_La1, ↓gX_La2, ↓gX_Li0, ↓gX_Li1, ↓gX_Li2, ↓gX_Li3, ↓gX_Li4, ↓gX_Li5, ↓gX_Rd0, ↓gX_Tp0, ↓gX_St0, ↓gX_St1, ↓gX_St2, ↓gX_St3, ↓gX_Ac0, ↓gX_Ac1, ↓gX_Ac2, ↓gX_Ac3, ↓gX_Ta0, ↓gX_Op0, ↓gX_Op1, ↓gX_Ob0, ↓gX_He0, ↓gX_He1, ↓gX_Md8, ↓gX_Md9, ↓gX_Md10, ↓gX_Md11, ↓gX_Md12, ↓gX_Md13, ↓gX_Md14, ↓gX_Md15, ↓gX_Md16, ↓gX_Md17, ↓gX_Md18, ↓gX_Md19, ↓gX_Md20, ↓gX_Md21, ↓gX_Md22, ↓gX_Md23, ↓gX_Md24, ↓gX_Md25, ↓gX_Md26, ↓gX_Md27, ↓gX_Md28, ↓gX_Md29, ↓gX_Md30, ↓gX_Md31, ↓gX_Md32, ↓gX_Md35, ↓gX_Md36, ↓gX_Md37, ↓gX_Md38, ↓gX_Md39, ↓gX_Md40, ↓gX_Md41, ↓gX_Md42, ↓gX_Md43, ↓gX_Md44, ↓gX_Md45, ↓gX_Md46, ↓gX_Md57, ↓gX_Md58, ↓gX_Md59, ↓gX_Md60, ↓gX_Md61, ↓gX_Md62, ↓gX_Md63, ↓gX_Md64, ↓gX_Md65, ↓gX_Md66, ↓gX_Md67, ↓gX_Md68, ↓gX_Md69, ↓gX_Md70, ↓gX_Md71, ↓gX_Md72, ↓gX_Md77, ↓gX_Md78, ↓gX_Md79, ↓aI_w, ↓qI_w, ↓aI_s0, ↓qI_s0, ↓aI_s1, ↓qI_s1, ↓aI_s2, ↓qI_s2, ↓aI_s3, ↓qI_s3, ↓aI_a0, ↓qI_a0, ↓aI_a1, ↓qI_a1, ↓aI_a2, ↓qI_a2, ↓aI_a3, ↓qI_a3, ↓aI_l0, ↓qI_l0, ↓aI_l1, ↓qI_l1, ↓aI_l2, ↓qI_l2, ↓aI_is, ↓qI_is, ↓aI_ar, ↓qI_ar, ↓aI_ob, ↓qI_ob, ↓aI_hw, ↓qI_hw, ↓aI_ho, ↓qI_ho, ↓aI_rd, ↓qI_rd, ↓aI_tp, ↓qI_tp, ↓aI_m1, ↓qI_m1, ↓aI_m2, ↓qI_m2, ↓aI_m3, ↓qI_m3, ↓aI_m4, ↓qI_m4, ↓aI_m5, ↓qI_m5, ↓aI_m6, ↓qI_m6, ↓aI_m7, ↓qI_m7, ↓aI_m8, ↓qI_m8, ↓aI_m9, ↓qI_m9, ↓aI_m10, ↓qI_m10, ↓aI_m11, ↓qI_m11, ↓aI_m12, ↓qI_m12, ↓aI_m13, ↓qI_m13, ↓aI_m14, ↓qI_m14, ↓aI_m15, ↓qI_m15, ↓aI_m16, ↓qI_m16, ↓aI_m17, ↓qI_m17, ↓aI_m18, ↓qI_m18, ↓aI_m19, ↓qI_m19, ↓aI_m20, ↓qI_m20, ↓aI_m21, ↓qI_m21, ↓aI_m22, ↓qI_m22, ↓aI_m23, ↓qI_m23, ↓aI_m24, ↓qI_m24, ↓aI_m25, ↓qI_m25, ↓aI_m26, ↓qI_m26, ↓aI_m27, ↓qI_m27, ↓aI_m28, ↓qI_m28, ↓aI_m29, ↓qI_m29, ↓aI_m30, ↓qI_m30, ↓aI_m31, ↓qI_m31, ↓aI_m32, ↓qI_m32, ↓aI_m33, ↓qI_m33, ↓aI_m34, ↓qI_m34, ↓aI_m35, ↓qI_m35, ↓aI_m36, ↓qI_m36, ↓aI_m37, ↓qI_m37, ↓aI_m38, ↓qI_m38, ↓aI_m39, ↓qI_m39, ↓aI_m40, ↓qI_m40, ↓aI_m41, ↓qI_m41, ↓aI_m42, ↓qI_m42, ↓aI_m43, ↓qI_m43, ↓aI_m44, ↓qI_m44, ↓aI_m45, ↓qI_m45, ↓aI_m46, ↓qI_m46, ↓aI_m47, ↓qI_m47, ↓aI_m48, ↓qI_m48, ↓aI_m49, ↓qI_m49, ↓aI_m50, ↓qI_m50, ↓aI_m51, ↓qI_m51, ↓aI_m52, ↓qI_m52, ↓aI_m54, ↓qI_m54, ↓aI_m55, ↓qI_m55, ↓aZ_m53, ↓qZ_m53, ↓aZ_m56, ↓qZ_m56, ↓aX_3, ↓aX_4, ↓aX_5, ↓aX_6, ↓aX_324, ↓aX_325, ↓ai_0, ↓ai_1, ↓ai_2, ↓ai_3, ↓qi_0, ↓qi_1, ↓qi_2, ↓qi_3, ↓qi_4, ↓ly_qJ, ↓bd2_mk, ↓bdT_0, ↓bdC_0]
      refine ⟨_, rfl, ?_, ?_⟩
      · refine Fr_tr F1 ?_
        refine Fr_wI (Fr_wI (Fr_wI (Fr_wI (Fr_wI (Fr_wI (Fr_wI (Fr_wI (Fr_wI (Fr_id hL1) (Or.inr ⟨by omega, by omega, by omega⟩)) (Or.inr ⟨by omega, by omega, by omega⟩)) (Or.inr ⟨by omega, by omega, by omega⟩)) (Or.inr ⟨by omega, by omega, by omega⟩)) (Or.inr ⟨by omega, by omega, by omega⟩)) (Or.inr ⟨by omega, by omega, by omega⟩)) (Or.inr ⟨by omega, by omega, by omega⟩)) (Or.inr ⟨by omega, by omega, by omega⟩)) (Or.inr ⟨by omega, by omega, fun _ => rfl⟩)
      · rw [if_pos ok]
        exact CTb_in ht q1 m5 q3
    · have no : ¬ okIn hF hG oF oG ac T x := fun w => m5 w.2.2.2.2
      have nlt : ¬ nI T.1 < 20 := nI_nl (b := 20) (by omega) (by omega)
      rw [bi_f no]
      simp (disch := first | with_reducible assumption | omega | (repeat (first | with_reducible assumption | with_reducible apply Ly_wI | with_reducible apply Ly_nx | with_reducible apply Ly_wJ | with_reducible apply Ly_fl))) only [q2, nlt, ↓reduceIte, rd_s, rd_n, rd_nx, rd_wJ, t00, t10, t20, t30, ↓gI_Mp, ↓pI_Mp, ↓ck_Mp, ↓gI_Pr, ↓pI_Pr, ↓ck_Pr, ↓gI_La, ↓pI_La, ↓pZ_La, ↓ck_La, ↓gI_Li, ↓pI_Li, ↓ck_Li, ↓gI_Ky, ↓pI_Ky, ↓ck_Ky, ↓gI_Rd, ↓pI_Rd, ↓ck_Rd, ↓gI_Tp, ↓pI_Tp, ↓ck_Tp, ↓gI_St, ↓pI_St, ↓ck_St, ↓gI_Ac, ↓pI_Ac, ↓ck_Ac, ↓gI_Ta, ↓pI_Ta, ↓ck_Ta, ↓gI_Sp, ↓pI_Sp, ↓ck_Sp, ↓gI_Op, ↓pI_Op, ↓ck_Op, ↓gI_Oe, ↓pI_Oe, ↓ck_Oe, ↓gI_Ob, ↓pI_Ob, ↓ck_Ob, ↓gI_He, ↓pI_He, ↓pZ_He, ↓ck_He, ↓gI_En, ↓pI_En, ↓ck_En, ↓gI_Md, ↓pI_Md, ↓pZ_Md, ↓ck_Md, ↓gX_Mp0, ↓gX_Mp1, ↓gX_Mp2, ↓gX_Mp3, ↓gX_Mp4, ↓gX_Mp5, ↓gX_Pr0, ↓gX_Pr1, ↓gX_Pr2, ↓gX_Pr3, ↓gX_Pr4, ↓gX_La0, ↓gX_La1, ↓gX_La2, ↓gX_Li0, ↓gX_Li1, ↓gX_Li2, ↓gX_Li3, ↓gX_Li4, ↓gX_Li5, ↓gX_Rd0, ↓gX_Tp0, ↓gX_St0, ↓gX_St1, ↓gX_St2, ↓gX_St3, ↓gX_Ac0, ↓gX_Ac1, ↓gX_Ac2, ↓gX_Ac3, ↓gX_Ta0, ↓gX_Op0, ↓gX_Op1, ↓gX_Ob0, ↓gX_He0, ↓gX_He1, ↓gX_Md8, ↓gX_Md9, ↓gX_Md10, ↓gX_Md11, ↓gX_Md12, ↓gX_Md13, ↓gX_Md14, ↓gX_Md15, ↓gX_Md16, ↓gX_Md17, ↓gX_Md18, ↓gX_Md19, ↓gX_Md20, ↓gX_Md21, ↓gX_Md22, ↓gX_Md23, ↓gX_Md24, ↓gX_Md25, ↓gX_Md26, ↓gX_Md27, ↓gX_Md28, ↓gX_Md29, ↓gX_Md30, ↓gX_Md31, ↓gX_Md32, ↓gX_Md35, ↓gX_Md36, ↓gX_Md37, ↓gX_Md38, ↓gX_Md39, ↓gX_Md40, ↓gX_Md41, ↓gX_Md42, ↓gX_Md43, ↓gX_Md44, ↓gX_Md45, ↓gX_Md46, ↓gX_Md57, ↓gX_Md58, ↓gX_Md59, ↓gX_Md60, ↓gX_Md61, ↓gX_Md62, ↓gX_Md63, ↓gX_Md64, ↓gX_Md65, ↓gX_Md66, ↓gX_Md67, ↓gX_Md68, ↓gX_Md69, ↓gX_Md70, ↓gX_Md71, ↓gX_Md72, ↓gX_Md77, ↓gX_Md78, ↓gX_Md79, ↓aI_w, ↓qI_w, ↓aI_s0, ↓qI_s0, ↓aI_s1, ↓qI_s1, ↓aI_s2, ↓qI_s2, ↓aI_s3, ↓qI_s3, ↓aI_a0, ↓qI_a0, ↓aI_a1, ↓qI_a1, ↓aI_a2, ↓qI_a2, ↓aI_a3, ↓qI_a3, ↓aI_l0, ↓qI_l0, ↓aI_l1, ↓qI_l1, ↓aI_l2, ↓qI_l2, ↓aI_is, ↓qI_is, ↓aI_ar, ↓qI_ar, ↓aI_ob, ↓qI_ob, ↓aI_hw, ↓qI_hw, ↓aI_ho, ↓qI_ho, ↓aI_rd, ↓qI_rd, ↓aI_tp, ↓qI_tp, ↓aI_m1, ↓qI_m1, ↓aI_m2, ↓qI_m2, ↓aI_m3, ↓qI_m3, ↓aI_m4, ↓qI_m4, ↓aI_m5, ↓qI_m5, ↓aI_m6, ↓qI_m6, ↓aI_m7, ↓qI_m7, ↓aI_m8, ↓qI_m8, ↓aI_m9, ↓qI_m9, ↓aI_m10, ↓qI_m10, ↓aI_m11, ↓qI_m11, ↓aI_m12, ↓qI_m12, ↓aI_m13, ↓qI_m13, ↓aI_m14, ↓qI_m14, ↓aI_m15, ↓qI_m15, ↓aI_m16, ↓qI_m16, ↓aI_m17, ↓qI_m17, ↓aI_m18, ↓qI_m18, ↓aI_m19, ↓qI_m19, ↓aI_m20, ↓qI_m20, ↓aI_m21, ↓qI_m21, ↓aI_m22, ↓qI_m22, ↓aI_m23, ↓qI_m23, ↓aI_m24, ↓qI_m24, ↓aI_m25, ↓qI_m25, ↓aI_m26, ↓qI_m26, ↓aI_m27, ↓qI_m27, ↓aI_m28, ↓qI_m28, ↓aI_m29, ↓qI_m29, ↓aI_m30, ↓qI_m30, ↓aI_m31, ↓qI_m31, ↓aI_m32, ↓qI_m32, ↓aI_m33, ↓qI_m33, ↓aI_m34, ↓qI_m34, ↓aI_m35, ↓qI_m35, ↓aI_m36, ↓qI_m36, ↓aI_m37, ↓qI_m37, ↓aI_m38, ↓qI_m38, ↓aI_m39, ↓qI_m39, ↓aI_m40, ↓qI_m40, ↓aI_m41, ↓qI_m41, ↓aI_m42, ↓qI_m42, ↓aI_m43, ↓qI_m43, ↓aI_m44, ↓qI_m44, ↓aI_m45, ↓qI_m45, ↓aI_m46, ↓qI_m46, ↓aI_m47, ↓qI_m47, ↓aI_m48, ↓qI_m48, ↓aI_m49, ↓qI_m49, ↓aI_m50, ↓qI_m50, ↓aI_m51, ↓qI_m51, ↓aI_m52, ↓qI_m52, ↓aI_m54, ↓qI_m54, ↓aI_m55, ↓qI_m55, ↓aZ_m53, ↓qZ_m53, ↓aZ_m56, ↓qZ_m56, ↓aX_3, ↓aX_4, ↓aX_5, ↓aX_6, ↓aX_324, ↓aX_325, ↓ai_0, ↓ai_1, ↓ai_2, ↓ai_3, ↓qi_0, ↓qi_1, ↓qi_2, ↓qi_3, ↓qi_4, ↓ly_qJ, ↓bd2_mk, ↓bdT_0, ↓bdC_0]
      refine ⟨S1, rfl, F1, ?_⟩
      rw [if_neg no]; exact CT
theorem lg_l {o t cnt fr : Nat} (ht : t < 8) (hc : cnt < 20) :
    ∀ (m j n : Nat) (q : Nat → Nat) (S : Sx), j + m = cnt → m < n → (∀ c, c < 951 → sK S (o + c) = some (kt c)) → sR S (o + (128 + 22 * t)) 0 = some (o + (129 + 22 * t)) → sI S (o + (128 + 22 * t)) 1 = nI cnt → (∀ k, k < 20 → q k < 20 ∧ sR S (o + (129 + 22 * t)) k = some (o + (130 + 22 * t + q k))) → kdOf S fr = some 5 →
      ∃ S1, fTa_letsGo_45 n (o + (128 + 22 * t)) fr (nI j) S = some (1, S1) ∧ sI S1 = sI S ∧ sK S1 = sK S ∧ sJ S1 = sJ S ∧ sZ S1 = sZ S ∧ (∀ a k, a ≠ o + (129 + 22 * t) → sR S1 a k = sR S a k) ∧ ∀ k, k < 20 → sR S1 (o + (129 + 22 * t)) k = if k = cnt then some fr else if j ≤ k ∧ k < cnt then some (o + (130 + 22 * t + q (k + 1))) else some (o + (130 + 22 * t + q k)) := by
  intro m
  have k4 : kt (128 + 22 * t) = (4, 10) := kq_2 t ht
  have k5 : kt (129 + 22 * t) = (205, 20) := by
    have := (show ∀ t, t < 8 → kt (129 + 22 * t) = (205, 20) by decide +kernel); exact this t ht
  have k6 : ∀ j, j < 20 → kt (130 + 22 * t + j) = (5, 8) := by
    have := (show ∀ t, t < 8 → ∀ j, j < 20 → kt (130 + 22 * t + j) = (5, 8) by decide +kernel); exact this t ht
  have G1 : ∀ (S : Sx) (β : Type) (f : Int32 → Option β), (∀ c, c < 951 → sK S (o + c) = some (kt c)) → (gI S 4 1 (o + (128 + 22 * t))).bind f = f (sI S (o + (128 + 22 * t)) 1) := by
    intro S β f hK; unfold gI kdOf; rw [hK _ (by omega), k4]; rfl
  have G0 : ∀ (S : Sx) (β : Type) (f : Nat → Option β), (∀ c, c < 951 → sK S (o + c) = some (kt c)) → sR S (o + (128 + 22 * t)) 0 = some (o + (129 + 22 * t)) → (gX S 4 0 (o + (128 + 22 * t))).bind f = f (o + (129 + 22 * t)) := by
    intro S β f hK hr; unfold gX kdOf; rw [hK _ (by omega), k4]
    show (sR S (o + (128 + 22 * t)) 0).bind f = _
    rw [hr]; rfl
  have A0 : ∀ (S : Sx) (j : Nat), (∀ c, c < 951 → sK S (o + c) = some (kt c)) → j < 20 → aOK S 205 (o + (129 + 22 * t)) (nI j) = true := by
    intro S j hK hj
    exact aOK_nI (n := 20) (by rw [hK _ (by omega), k5]) hj (by omega)
  induction m with
  | zero =>
    intro j n q S h1 h2 hK hR hI hq hf
    obtain ⟨n', rfl⟩ : ∃ n', n = n' + 1 := ⟨n - 1, by omega⟩
    have le : nI cnt ≤ nI j := nI_le (by omega) (by omega)
    refine ⟨wR S (o + (129 + 22 * t)) cnt (some fr), ?_, rfl, rfl, rfl, rfl, ?_, ?_⟩
    · rw [fTa_letsGo_45, G1 S _ _ hK, hI, if_pos le, G0 S _ _ hK hR, G1 S _ _ hK, hI]
      unfold qX
      rw [if_pos ⟨A0 S cnt hK hc, hf⟩, nI_clamp (by omega)]
      rfl
    · intro a k ha
      show u2 S.2.2.1 _ _ _ a k = _
      rw [u2_n (Or.inl ha)]
    · intro k hk
      show u2 S.2.2.1 _ _ _ _ k = _
      by_cases e : k = cnt
      · subst e; rw [u2_s, if_pos rfl]
      · rw [u2_n (Or.inr e), if_neg e, if_neg (by omega)]
        exact (hq k hk).2
  | succ m ih =>
    intro j n q S h1 h2 hK hR hI hq hf
    obtain ⟨n', rfl⟩ : ∃ n', n = n' + 1 := ⟨n - 1, by omega⟩
    have nle : ¬ nI cnt ≤ nI j := nI_ge (by omega) (by omega)
    have e1 : fTa_letsGo_45 (n' + 1) (o + (128 + 22 * t)) fr (nI j) S = fTa_letsGo_45 n' (o + (128 + 22 * t)) fr (nI (j + 1)) (wR S (o + (129 + 22 * t)) j (some (o + (130 + 22 * t + q (j + 1))))) := by
      rw [fTa_letsGo_45, G1 S _ _ hK, hI, if_neg nle, G0 S _ _ hK hR, G0 S _ _ hK hR, nI_1]
      unfold aX qX
      have kdr : kdOf S (o + (130 + 22 * t + q (j + 1))) = some 5 := by unfold kdOf; rw [hK _ (by have := (hq (j + 1) (by omega)).1; omega), k6 _ (hq (j + 1) (by omega)).1]; rfl
      rw [if_pos (A0 S (j + 1) hK (by omega)), nI_clamp (by omega), (hq (j + 1) (by omega)).2]
      show Option.bind (if _ then _ else _) _ = _
      rw [if_pos ⟨A0 S j hK (by omega), kdr⟩, nI_clamp (by omega)]
      rfl
    obtain ⟨S1, f1, f2, f3, f4, f5, f6, f7⟩ := ih (j + 1) n' (fun k => if k = j then q (j + 1) else q k) (wR S (o + (129 + 22 * t)) j (some (o + (130 + 22 * t + q (j + 1))))) (by omega) (by omega) hK
      (by show u2 S.2.2.1 _ _ _ _ _ = _; rw [u2_n (Or.inl (by omega))]; exact hR) hI
      (fun k hk => by
        show (if k = j then q (j + 1) else q k) < 20 ∧ u2 S.2.2.1 _ _ _ _ k = some (o + (130 + 22 * t + (if k = j then q (j + 1) else q k)))
        by_cases e : k = j
        · subst e; rw [if_pos rfl, u2_s]; exact ⟨(hq (k + 1) (by omega)).1, rfl⟩
        · rw [if_neg e, u2_n (Or.inr e)]; exact hq k hk) hf
    refine ⟨S1, e1.trans f1, f2, f3, f4, f5, ?_, ?_⟩
    · intro a k ha
      rw [f6 a k ha]
      show u2 S.2.2.1 _ _ _ a k = _
      rw [u2_n (Or.inl ha)]
    · intro k hk
      rw [f7 k hk]
      by_cases d : k = cnt
      · rw [if_pos d, if_pos d]
      · rw [if_neg d, if_neg d]
        by_cases d2 : j + 1 ≤ k ∧ k < cnt
        · rw [if_pos d2, if_neg (show ¬ k + 1 = j by omega), if_pos (show j ≤ k ∧ k < cnt by omega)]
        · rw [if_neg d2]
          by_cases d3 : k = j
          · subst d3; rw [if_pos rfl, if_pos (show k ≤ k ∧ k < cnt by omega)]
          · rw [if_neg d3, if_neg (show ¬ (j ≤ k ∧ k < cnt) by omega)]
/-- a permutation's rows, once row i0 has gone to the end -/
def rotq (q : Nat → Nat) (i0 cnt : Nat) : Nat → Nat := fun k => if k = cnt then q i0 else if i0 ≤ k ∧ k < cnt then q (k + 1) else q k
theorem lets_ {o t pl : Nat} {S : Sx} {T : TC} {e : Nat → Int32} {oF oG : Int32} (h : Ly o S) (ht : t < 8) (hpl : pl < 128) (hT : CTb o S t T) (he : ∀ k, k < 8 → sI S (o + (329 + 4 * pl)) k = e k)
    (r3 : sI S (o + (128 + 22 * t)) 3 = oF) (r6 : sI S (o + (128 + 22 * t)) 6 = oG) :
    ∃ S1, fTa_letsGo (o + (128 + 22 * t)) (o + (329 + 4 * pl)) S = some (bi (fnd T (ctE oF oG e) T.1 0 ≠ none), S1) ∧ Fr o S S1 t pl ∧ CTb o S1 t (match fnd T (ctE oF oG e) T.1 0 with | none => T | some i => remT T i) := by
  obtain ⟨S1, c1, F1, C1, c2, c3⟩ := cut_all (oF := oF) (oG := oG) h ht hpl hT he
  have hL1 := F1.1
  unfold fTa_letsGo
  generalize ctE oF oG e = x at *
  obtain ⟨h20, q, q1, q2, q3⟩ := C1
  have P := place_l hL1 ht hpl h20 q1 q2 q3 c2 T.1 0 fuel (by omega) (by unfold fuel; omega)
  have P' : fTa_placeOf (o + (128 + 22 * t)) (o + (329 + 4 * pl)) S1 = some (fI (fnd T x T.1 0), S1) := P
  simp (disch := first | with_reducible assumption | omega | (repeat (first | with_reducible assumption | with_reducible apply Ly_wI | with_reducible apply Ly_nx | with_reducible apply Ly_wJ | with_reducible apply Ly_fl))) only [r3, r6, ↓reduceIte, rd_s, rd_n, rd_nx, rd_wJ, t00, t10, t20, t30, ↓gI_Mp, ↓pI_Mp, ↓ck_Mp, ↓gI_Pr, ↓pI_Pr, ↓ck_Pr, ↓gI_La, ↓pI_La, ↓pZ_La, ↓ck_La, ↓gI_Li, ↓pI_Li, ↓ck_Li, ↓gI_Ky, ↓pI_Ky, ↓ck_Ky, ↓gI_Rd, ↓pI_Rd, ↓ck_Rd, ↓gI_Tp, ↓pI_Tp, ↓ck_Tp, ↓gI_St, ↓pI_St, ↓ck_St, ↓gI_Ac, ↓pI_Ac, ↓ck_Ac, ↓gI_Ta, ↓pI_Ta, ↓ck_Ta, ↓gI_Sp, ↓pI_Sp, ↓ck_Sp, ↓gI_Op, ↓pI_Op, ↓ck_Op, ↓gI_Oe, ↓pI_Oe, ↓ck_Oe, ↓gI_Ob, ↓pI_Ob, ↓ck_Ob, ↓gI_He, ↓pI_He, ↓pZ_He, ↓ck_He, ↓gI_En, ↓pI_En, ↓ck_En, ↓gI_Md, ↓pI_Md, ↓pZ_Md, ↓ck_Md, ↓gX_Mp0, ↓gX_Mp1, ↓gX_Mp2, ↓gX_Mp3, ↓gX_Mp4, ↓gX_Mp5, ↓gX_Pr0, ↓gX_Pr1, ↓gX_Pr2, ↓gX_Pr3, ↓gX_Pr4, ↓gX_La0, ↓gX_La1, ↓gX_La2, ↓gX_Li0, ↓gX_Li1, ↓gX_Li2, ↓gX_Li3, ↓gX_Li4, ↓gX_Li5, ↓gX_Rd0, ↓gX_Tp0, ↓gX_St0, ↓gX_St1, ↓gX_St2, ↓gX_St3, ↓gX_Ac0, ↓gX_Ac1, ↓gX_Ac2, ↓gX_Ac3, ↓gX_Ta0, ↓gX_Op0, ↓gX_Op1, ↓gX_Ob0, ↓gX_He0, ↓gX_He1, ↓gX_Md8, ↓gX_Md9, ↓gX_Md10, ↓gX_Md11, ↓gX_Md12, ↓gX_Md13, ↓gX_Md14, ↓gX_Md15, ↓gX_Md16, ↓gX_Md17, ↓gX_Md18, ↓gX_Md19, ↓gX_Md20, ↓gX_Md21, ↓gX_Md22, ↓gX_Md23, ↓gX_Md24, ↓gX_Md25, ↓gX_Md26, ↓gX_Md27, ↓gX_Md28, ↓gX_Md29, ↓gX_Md30, ↓gX_Md31, ↓gX_Md32, ↓gX_Md35, ↓gX_Md36, ↓gX_Md37, ↓gX_Md38, ↓gX_Md39, ↓gX_Md40, ↓gX_Md41, ↓gX_Md42, ↓gX_Md43, ↓gX_Md44, ↓gX_Md45, ↓gX_Md46, ↓gX_Md57, ↓gX_Md58, ↓gX_Md59, ↓gX_Md60, ↓gX_Md61, ↓gX_Md62, ↓gX_Md63, ↓gX_Md64, ↓gX_Md65, ↓gX_Md66, ↓gX_Md67, ↓gX_Md68, ↓gX_Md69, ↓gX_Md70, ↓gX_Md71, ↓gX_Md72, ↓gX_Md77, ↓gX_Md78, ↓gX_Md79, ↓aI_w, ↓qI_w, ↓aI_s0, ↓qI_s0, ↓aI_s1, ↓qI_s1, ↓aI_s2, ↓qI_s2, ↓aI_s3, ↓qI_s3, ↓aI_a0, ↓qI_a0, ↓aI_a1, ↓qI_a1, ↓aI_a2, ↓qI_a2, ↓aI_a3, ↓qI_a3, ↓aI_l0, ↓qI_l0, ↓aI_l1, ↓qI_l1, ↓aI_l2, ↓qI_l2, ↓aI_is, ↓qI_is, ↓aI_ar, ↓qI_ar, ↓aI_ob, ↓qI_ob, ↓aI_hw, ↓qI_hw, ↓aI_ho, ↓qI_ho, ↓aI_rd, ↓qI_rd, ↓aI_tp, ↓qI_tp, ↓aI_m1, ↓qI_m1, ↓aI_m2, ↓qI_m2, ↓aI_m3, ↓qI_m3, ↓aI_m4, ↓qI_m4, ↓aI_m5, ↓qI_m5, ↓aI_m6, ↓qI_m6, ↓aI_m7, ↓qI_m7, ↓aI_m8, ↓qI_m8, ↓aI_m9, ↓qI_m9, ↓aI_m10, ↓qI_m10, ↓aI_m11, ↓qI_m11, ↓aI_m12, ↓qI_m12, ↓aI_m13, ↓qI_m13, ↓aI_m14, ↓qI_m14, ↓aI_m15, ↓qI_m15, ↓aI_m16, ↓qI_m16, ↓aI_m17, ↓qI_m17, ↓aI_m18, ↓qI_m18, ↓aI_m19, ↓qI_m19, ↓aI_m20, ↓qI_m20, ↓aI_m21, ↓qI_m21, ↓aI_m22, ↓qI_m22, ↓aI_m23, ↓qI_m23, ↓aI_m24, ↓qI_m24, ↓aI_m25, ↓qI_m25, ↓aI_m26, ↓qI_m26, ↓aI_m27, ↓qI_m27, ↓aI_m28, ↓qI_m28, ↓aI_m29, ↓qI_m29, ↓aI_m30, ↓qI_m30, ↓aI_m31, ↓qI_m31, ↓aI_m32, ↓qI_m32, ↓aI_m33, ↓qI_m33, ↓aI_m34, ↓qI_m34, ↓aI_m35, ↓qI_m35, ↓aI_m36, ↓qI_m36, ↓aI_m37, ↓qI_m37, ↓aI_m38, ↓qI_m38, ↓aI_m39, ↓qI_m39, ↓aI_m40, ↓qI_m40, ↓aI_m41, ↓qI_m41, ↓aI_m42, ↓qI_m42, ↓aI_m43, ↓qI_m43, ↓aI_m44, ↓qI_m44, ↓aI_m45, ↓qI_m45, ↓aI_m46, ↓qI_m46, ↓aI_m47, ↓qI_m47, ↓aI_m48, ↓qI_m48, ↓aI_m49, ↓qI_m49, ↓aI_m50, ↓qI_m50, ↓aI_m51, ↓qI_m51, ↓aI_m52, ↓qI_m52, ↓aI_m54, ↓qI_m54, ↓aI_m55, ↓qI_m55, ↓aZ_m53, ↓qZ_m53, ↓aZ_m56, ↓qZ_m56, ↓aX_3, ↓aX_4, ↓aX_5, ↓aX_6, ↓aX_324, ↓aX_325, ↓ai_0, ↓ai_1, ↓ai_2, ↓ai_3, ↓qi_0, ↓qi_1, ↓qi_2, ↓qi_3, ↓qi_4, ↓ly_qJ, ↓bd2_mk, ↓bdT_0, ↓bdC_0]
  rw [c1]
  show ∃ S1', ((ckd S1 (o + (128 + 22 * t)) 4).bind _) = _ ∧ _
  simp (disch := first | with_reducible assumption | omega | (repeat (first | with_reducible assumption | with_reducible apply Ly_wI | with_reducible apply Ly_nx | with_reducible apply Ly_wJ | with_reducible apply Ly_fl))) only [P', bd2_mk, ↓reduceIte, rd_s, rd_n, rd_nx, rd_wJ, t00, t10, t20, t30, ↓gI_Mp, ↓pI_Mp, ↓ck_Mp, ↓gI_Pr, ↓pI_Pr, ↓ck_Pr, ↓gI_La, ↓pI_La, ↓pZ_La, ↓ck_La, ↓gI_Li, ↓pI_Li, ↓ck_Li, ↓gI_Ky, ↓pI_Ky, ↓ck_Ky, ↓gI_Rd, ↓pI_Rd, ↓ck_Rd, ↓gI_Tp, ↓pI_Tp, ↓ck_Tp, ↓gI_St, ↓pI_St, ↓ck_St, ↓gI_Ac, ↓pI_Ac, ↓ck_Ac, ↓gI_Ta, ↓pI_Ta, ↓ck_Ta, ↓gI_Sp, ↓pI_Sp, ↓ck_Sp, ↓gI_Op, ↓pI_Op, ↓ck_Op, ↓gI_Oe, ↓pI_Oe, ↓ck_Oe, ↓gI_Ob, ↓pI_Ob, ↓ck_Ob, ↓gI_He, ↓pI_He, ↓pZ_He, ↓ck_He, ↓gI_En, ↓pI_En, ↓ck_En, ↓gI_Md, ↓pI_Md, ↓pZ_Md, ↓ck_Md, ↓gX_Mp0, ↓gX_Mp1, ↓gX_Mp2, ↓gX_Mp3, ↓gX_Mp4, ↓gX_Mp5, ↓gX_Pr0, ↓gX_Pr1, ↓gX_Pr2, ↓gX_Pr3, ↓gX_Pr4, ↓gX_La0, ↓gX_La1, ↓gX_La2, ↓gX_Li0, ↓gX_Li1, ↓gX_Li2, ↓gX_Li3, ↓gX_Li4, ↓gX_Li5, ↓gX_Rd0, ↓gX_Tp0, ↓gX_St0, ↓gX_St1, ↓gX_St2, ↓gX_St3, ↓gX_Ac0, ↓gX_Ac1, ↓gX_Ac2, ↓gX_Ac3, ↓gX_Ta0, ↓gX_Op0, ↓gX_Op1, ↓gX_Ob0, ↓gX_He0, ↓gX_He1, ↓gX_Md8, ↓gX_Md9, ↓gX_Md10, ↓gX_Md11, ↓gX_Md12, ↓gX_Md13, ↓gX_Md14, ↓gX_Md15, ↓gX_Md16, ↓gX_Md17, ↓gX_Md18, ↓gX_Md19, ↓gX_Md20, ↓gX_Md21, ↓gX_Md22, ↓gX_Md23, ↓gX_Md24, ↓gX_Md25, ↓gX_Md26, ↓gX_Md27, ↓gX_Md28, ↓gX_Md29, ↓gX_Md30, ↓gX_Md31, ↓gX_Md32, ↓gX_Md35, ↓gX_Md36, ↓gX_Md37, ↓gX_Md38, ↓gX_Md39, ↓gX_Md40, ↓gX_Md41, ↓gX_Md42, ↓gX_Md43, ↓gX_Md44, ↓gX_Md45, ↓gX_Md46, ↓gX_Md57, ↓gX_Md58, ↓gX_Md59, ↓gX_Md60, ↓gX_Md61, ↓gX_Md62, ↓gX_Md63, ↓gX_Md64, ↓gX_Md65, ↓gX_Md66, ↓gX_Md67, ↓gX_Md68, ↓gX_Md69, ↓gX_Md70, ↓gX_Md71, ↓gX_Md72, ↓gX_Md77, ↓gX_Md78, ↓gX_Md79, ↓aI_w, ↓qI_w, ↓aI_s0, ↓qI_s0, ↓aI_s1, ↓qI_s1, ↓aI_s2, ↓qI_s2, ↓aI_s3, ↓qI_s3, ↓aI_a0, ↓qI_a0, ↓aI_a1, ↓qI_a1, ↓aI_a2, ↓qI_a2, ↓aI_a3, ↓qI_a3, ↓aI_l0, ↓qI_l0, ↓aI_l1, ↓qI_l1, ↓aI_l2, ↓qI_l2, ↓aI_is, ↓qI_is, ↓aI_ar, ↓qI_ar, ↓aI_ob, ↓qI_ob, ↓aI_hw, ↓qI_hw, ↓aI_ho, ↓qI_ho, ↓aI_rd, ↓qI_rd, ↓aI_tp, ↓qI_tp, ↓aI_m1, ↓qI_m1, ↓aI_m2, ↓qI_m2, ↓aI_m3, ↓qI_m3, ↓aI_m4, ↓qI_m4, ↓aI_m5, ↓qI_m5, ↓aI_m6, ↓qI_m6, ↓aI_m7, ↓qI_m7, ↓aI_m8, ↓qI_m8, ↓aI_m9, ↓qI_m9, ↓aI_m10, ↓qI_m10, ↓aI_m11, ↓qI_m11, ↓aI_m12, ↓qI_m12, ↓aI_m13, ↓qI_m13, ↓aI_m14, ↓qI_m14, ↓aI_m15, ↓qI_m15, ↓aI_m16, ↓qI_m16, ↓aI_m17, ↓qI_m17, ↓aI_m18, ↓qI_m18, ↓aI_m19, ↓qI_m19, ↓aI_m20, ↓qI_m20, ↓aI_m21, ↓qI_m21, ↓aI_m22, ↓qI_m22, ↓aI_m23, ↓qI_m23, ↓aI_m24, ↓qI_m24, ↓aI_m25, ↓qI_m25, ↓aI_m26, ↓qI_m26, ↓aI_m27, ↓qI_m27, ↓aI_m28, ↓qI_m28, ↓aI_m29, ↓qI_m29, ↓aI_m30, ↓qI_m30, ↓aI_m31, ↓qI_m31, ↓aI_m32, ↓qI_m32, ↓aI_m33, ↓qI_m33, ↓aI_m34, ↓qI_m34, ↓aI_m35, ↓qI_m35, ↓aI_m36, ↓qI_m36, ↓aI_m37, ↓qI_m37, ↓aI_m38, ↓qI_m38, ↓aI_m39, ↓qI_m39, ↓aI_m40, ↓qI_m40, ↓aI_m41, ↓qI_m41, ↓aI_m42, ↓qI_m42, ↓aI_m43, ↓qI_m43, ↓aI_m44, ↓qI_m44, ↓aI_m45, ↓qI_m45, ↓aI_m46, ↓qI_m46, ↓aI_m47, ↓qI_m47, ↓aI_m48, ↓qI_m48, ↓aI_m49, ↓qI_m49, ↓aI_m50, ↓qI_m50, ↓aI_m51, ↓qI_m51, ↓aI_m52, ↓qI_m52, ↓aI_m54, ↓qI_m54, ↓aI_m55, ↓qI_m55, ↓aZ_m53, ↓qZ_m53, ↓aZ_m56, ↓qZ_m56, ↓aX_3, ↓aX_4, ↓aX_5, ↓aX_6, ↓aX_324, ↓aX_325, ↓ai_0, ↓ai_1, ↓ai_2, ↓ai_3, ↓qi_0, ↓qi_1, ↓qi_2, ↓qi_3, ↓qi_4, ↓ly_qJ, ↓bd2_mk, ↓bdT_0, ↓bdC_0]
  cases m4 : fnd T x T.1 0 with
  | none =>
    rw [if_pos (show fI none = -1 from rfl), bi_f (fun w => w rfl)]
    exact ⟨S1, rfl, F1, h20, q, q1, q2, q3⟩
  | some i0 =>
    have B := fnd_s _ _ _ m4
    have hi0 : i0 < T.1 := by omega
    rw [if_neg (show ¬ fI (some i0) = -1 from nN1 (by omega)), bi_t (show some i0 ≠ none from fun w => by cases w)]
    rw [show fI (some i0) = nI i0 from rfl]
    have em : nI T.1 - 1 = nI (T.1 - 1) := by rw [show (1 : Int32) = nI 1 from rfl, nI_sub (by omega)]
    simp (disch := first | with_reducible assumption | omega | (repeat (first | with_reducible assumption | with_reducible apply Ly_wI | with_reducible apply Ly_nx | with_reducible apply Ly_wJ | with_reducible apply Ly_fl))) only [↓aX_row hL1 q1 ht (show i0 < 20 by omega), q2, em, ↓reduceIte, rd_s, rd_n, rd_nx, rd_wJ, t00, t10, t20, t30, ↓gI_Mp, ↓pI_Mp, ↓ck_Mp, ↓gI_Pr, ↓pI_Pr, ↓ck_Pr, ↓gI_La, ↓pI_La, ↓pZ_La, ↓ck_La, ↓gI_Li, ↓pI_Li, ↓ck_Li, ↓gI_Ky, ↓pI_Ky, ↓ck_Ky, ↓gI_Rd, ↓pI_Rd, ↓ck_Rd, ↓gI_Tp, ↓pI_Tp, ↓ck_Tp, ↓gI_St, ↓pI_St, ↓ck_St, ↓gI_Ac, ↓pI_Ac, ↓ck_Ac, ↓gI_Ta, ↓pI_Ta, ↓ck_Ta, ↓gI_Sp, ↓pI_Sp, ↓ck_Sp, ↓gI_Op, ↓pI_Op, ↓ck_Op, ↓gI_Oe, ↓pI_Oe, ↓ck_Oe, ↓gI_Ob, ↓pI_Ob, ↓ck_Ob, ↓gI_He, ↓pI_He, ↓pZ_He, ↓ck_He, ↓gI_En, ↓pI_En, ↓ck_En, ↓gI_Md, ↓pI_Md, ↓pZ_Md, ↓ck_Md, ↓gX_Mp0, ↓gX_Mp1, ↓gX_Mp2, ↓gX_Mp3, ↓gX_Mp4, ↓gX_Mp5, ↓gX_Pr0, ↓gX_Pr1, ↓gX_Pr2, ↓gX_Pr3, ↓gX_Pr4, ↓gX_La0, ↓gX_La1, ↓gX_La2, ↓gX_Li0, ↓gX_Li1, ↓gX_Li2, ↓gX_Li3, ↓gX_Li4, ↓gX_Li5, ↓gX_Rd0, ↓gX_Tp0, ↓gX_St0, ↓gX_St1, ↓gX_St2, ↓gX_St3, ↓gX_Ac0, ↓gX_Ac1, ↓gX_Ac2, ↓gX_Ac3, ↓gX_Ta0, ↓gX_Op0, ↓gX_Op1, ↓gX_Ob0, ↓gX_He0, ↓gX_He1, ↓gX_Md8, ↓gX_Md9, ↓gX_Md10, ↓gX_Md11, ↓gX_Md12, ↓gX_Md13, ↓gX_Md14, ↓gX_Md15, ↓gX_Md16, ↓gX_Md17, ↓gX_Md18, ↓gX_Md19, ↓gX_Md20, ↓gX_Md21, ↓gX_Md22, ↓gX_Md23, ↓gX_Md24, ↓gX_Md25, ↓gX_Md26, ↓gX_Md27, ↓gX_Md28, ↓gX_Md29, ↓gX_Md30, ↓gX_Md31, ↓gX_Md32, ↓gX_Md35, ↓gX_Md36, ↓gX_Md37, ↓gX_Md38, ↓gX_Md39, ↓gX_Md40, ↓gX_Md41, ↓gX_Md42, ↓gX_Md43, ↓gX_Md44, ↓gX_Md45, ↓gX_Md46, ↓gX_Md57, ↓gX_Md58, ↓gX_Md59, ↓gX_Md60, ↓gX_Md61, ↓gX_Md62, ↓gX_Md63, ↓gX_Md64, ↓gX_Md65, ↓gX_Md66, ↓gX_Md67, ↓gX_Md68, ↓gX_Md69, ↓gX_Md70, ↓gX_Md71, ↓gX_Md72, ↓gX_Md77, ↓gX_Md78, ↓gX_Md79, ↓aI_w, ↓qI_w, ↓aI_s0, ↓qI_s0, ↓aI_s1, ↓qI_s1, ↓aI_s2, ↓qI_s2, ↓aI_s3, ↓qI_s3, ↓aI_a0, ↓qI_a0, ↓aI_a1, ↓qI_a1, ↓aI_a2, ↓qI_a2, ↓aI_a3, ↓qI_a3, ↓aI_l0, ↓qI_l0, ↓aI_l1, ↓qI_l1, ↓aI_l2, ↓qI_l2, ↓aI_is, ↓qI_is, ↓aI_ar, ↓qI_ar, ↓aI_ob, ↓qI_ob, ↓aI_hw, ↓qI_hw, ↓aI_ho, ↓qI_ho, ↓aI_rd, ↓qI_rd, ↓aI_tp, ↓qI_tp, ↓aI_m1, ↓qI_m1, ↓aI_m2, ↓qI_m2, ↓aI_m3, ↓qI_m3, ↓aI_m4, ↓qI_m4, ↓aI_m5, ↓qI_m5, ↓aI_m6, ↓qI_m6, ↓aI_m7, ↓qI_m7, ↓aI_m8, ↓qI_m8, ↓aI_m9, ↓qI_m9, ↓aI_m10, ↓qI_m10, ↓aI_m11, ↓qI_m11, ↓aI_m12, ↓qI_m12, ↓aI_m13, ↓qI_m13, ↓aI_m14, ↓qI_m14, ↓aI_m15, ↓qI_m15, ↓aI_m16, ↓qI_m16, ↓aI_m17, ↓qI_m17, ↓aI_m18, ↓qI_m18, ↓aI_m19, ↓qI_m19, ↓aI_m20, ↓qI_m20, ↓aI_m21, ↓qI_m21, ↓aI_m22, ↓qI_m22, ↓aI_m23, ↓qI_m23, ↓aI_m24, ↓qI_m24, ↓aI_m25, ↓qI_m25, ↓aI_m26, ↓qI_m26, ↓aI_m27, ↓qI_m27, ↓aI_m28, ↓qI_m28, ↓aI_m29, ↓qI_m29, ↓aI_m30, ↓qI_m30, ↓aI_m31, ↓qI_m31, ↓aI_m32, ↓qI_m32, ↓aI_m33, ↓qI_m33, ↓aI_m34, ↓qI_m34, ↓aI_m35, ↓qI_m35, ↓aI_m36, ↓qI_m36, ↓aI_m37, ↓qI_m37, ↓aI_m38, ↓qI_m38, ↓aI_m39, ↓qI_m39, ↓aI_m40, ↓qI_m40, ↓aI_m41, ↓qI_m41, ↓aI_m42, ↓qI_m42, ↓aI_m43, ↓qI_m43, ↓aI_m44, ↓qI_m44, ↓aI_m45, ↓qI_m45, ↓aI_m46, ↓qI_m46, ↓aI_m47, ↓qI_m47, ↓aI_m48, ↓qI_m48, ↓aI_m49, ↓qI_m49, ↓aI_m50, ↓qI_m50, ↓aI_m51, ↓qI_m51, ↓aI_m52, ↓qI_m52, ↓aI_m54, ↓qI_m54, ↓aI_m55, ↓qI_m55, ↓aZ_m53, ↓qZ_m53, ↓aZ_m56, ↓qZ_m56, ↓aX_3, ↓aX_4, ↓aX_5, ↓aX_6, ↓aX_324, ↓aX_325, ↓ai_0, ↓ai_1, ↓ai_2, ↓ai_3, ↓qi_0, ↓qi_1, ↓qi_2, ↓qi_3, ↓qi_4, ↓ly_qJ, ↓bd2_mk, ↓bdT_0, ↓bdC_0]
    have hLw : Ly o (wI S1 (o + (128 + 22 * t)) 1 (nI (T.1 - 1))) := Ly_wI hL1
    obtain ⟨S2, f1, f2, f3, f4, f5, f6, f7⟩ := lg_l (o := o) (t := t) (cnt := T.1 - 1) (fr := o + (130 + 22 * t + q i0)) ht (by omega) (T.1 - 1 - i0) i0 fuel q (wI S1 (o + (128 + 22 * t)) 1 (nI (T.1 - 1))) (by omega) (by unfold fuel; omega) hLw.2.1
      (hLw.2.2.1 (128 + 22 * t) 0 (129 + 22 * t) (by omega) (by unfold isRow; omega) (by have := (show ∀ t, t < 8 → rto (128 + 22 * t) 0 = some (129 + 22 * t) by decide +kernel); exact this t ht)) rd_s
      (fun k hk => by rw [sR_wI]; exact q1.1 k hk) (by
        unfold kdOf
        rw [hLw.2.1 _ (by have := (q1.1 i0 (by omega)).1; omega)]
        have := (show ∀ t, t < 8 → ∀ j, j < 20 → kt (130 + 22 * t + j) = (5, 8) by decide +kernel) t ht (q i0) (q1.1 i0 (by omega)).1
        rw [this]; rfl)
    have rot : rwOK o S2 t (rotq q i0 (T.1 - 1)) := by
      constructor
      · intro k hk
        rw [f7 k hk]
        unfold rotq
        by_cases d : k = T.1 - 1
        · rw [if_pos d, if_pos d]; exact ⟨(q1.1 i0 (by omega)).1, rfl⟩
        · rw [if_neg d, if_neg d]
          by_cases d2 : i0 ≤ k ∧ k < T.1 - 1
          · rw [if_pos d2, if_pos d2]; exact ⟨(q1.1 (k + 1) (by omega)).1, rfl⟩
          · rw [if_neg d2, if_neg d2]; exact ⟨(q1.1 k hk).1, rfl⟩
      · intro j k hj hk
        have inj := q1.2
        unfold rotq
        intro w
        by_cases a1 : j = T.1 - 1
        · rw [if_pos a1] at w
          by_cases b1 : k = T.1 - 1
          · omega
          · rw [if_neg b1] at w
            by_cases b2 : i0 ≤ k ∧ k < T.1 - 1
            · rw [if_pos b2] at w; have := inj i0 (k + 1) (by omega) (by omega) w; omega
            · rw [if_neg b2] at w; have := inj i0 k (by omega) (by omega) w; omega
        · rw [if_neg a1] at w
          by_cases a2 : i0 ≤ j ∧ j < T.1 - 1
          · rw [if_pos a2] at w
            by_cases b1 : k = T.1 - 1
            · rw [if_pos b1] at w; have := inj (j + 1) i0 (by omega) (by omega) w; omega
            · rw [if_neg b1] at w
              by_cases b2 : i0 ≤ k ∧ k < T.1 - 1
              · rw [if_pos b2] at w; have := inj (j + 1) (k + 1) (by omega) (by omega) w; omega
              · rw [if_neg b2] at w; have := inj (j + 1) k (by omega) (by omega) w; omega
          · rw [if_neg a2] at w
            by_cases b1 : k = T.1 - 1
            · rw [if_pos b1] at w; have := inj j i0 (by omega) (by omega) w; omega
            · rw [if_neg b1] at w
              by_cases b2 : i0 ≤ k ∧ k < T.1 - 1
              · rw [if_pos b2] at w; have := inj j (k + 1) (by omega) (by omega) w; omega
              · rw [if_neg b2] at w; exact inj j k (by omega) (by omega) w
    have hL2 : Ly o S2 := by
      refine ⟨by rw [f5]; exact hLw.1, fun c hc => by rw [f3]; exact hLw.2.1 c hc, ?_, ?_⟩
      · intro c k v hc hr hv
        have : o + c ≠ o + (129 + 22 * t) := by unfold isRow at hr; omega
        rw [f6 _ _ this]
        exact hLw.2.2.1 c k v hc hr hv
      · intro t' ht'
        by_cases d : t' = t
        · subst d; exact ⟨_, rot⟩
        · obtain ⟨q', w1, w2⟩ := hLw.2.2.2 t' ht'
          refine ⟨q', fun j hj => ?_, w2⟩
          rw [f6 _ _ (by omega)]
          exact w1 j hj
    have F2 : Fr o S1 (wI S1 (o + (128 + 22 * t)) 1 (nI (T.1 - 1))) t pl := Fr_wI (Fr_id hL1) (Or.inr ⟨by omega, by omega, fun _ => rfl⟩)
    have F3 : Fr o (wI S1 (o + (128 + 22 * t)) 1 (nI (T.1 - 1))) S2 t pl := ⟨hL2, f4, f6, fun c k _ _ => by unfold V; rw [f2]⟩
    refine ⟨S2, f1, Fr_tr F1 (Fr_tr F2 F3), ?_⟩
    show CTb o S2 t (remT T i0)
    refine ⟨by show T.1 - 1 ≤ 20; omega, _, rot, by rw [f2, rd_s]; rfl, ?_⟩
    intro i hi k hk
    have hi' : i < T.1 - 1 := hi
    rw [f2]
    show _ = (if i < i0 then T.2 i else T.2 (i + 1)) k
    unfold rotq
    rw [if_neg (show ¬ i = T.1 - 1 by omega)]
    by_cases d : i < i0
    · rw [if_neg (show ¬ (i0 ≤ i ∧ i < T.1 - 1) by omega), if_pos d, rd_n (Or.inl (by omega))]
      exact q3 i (by omega) k hk
    · rw [if_pos (show i0 ≤ i ∧ i < T.1 - 1 by omega), if_neg d, rd_n (Or.inl (by omega))]
      exact q3 (i + 1) (by omega) k hk
