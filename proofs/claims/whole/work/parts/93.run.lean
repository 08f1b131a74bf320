/-! MANY CYCLES -/
theorem FCc_tr {o : Nat} {S S1 S2 : Sx} (a : FCc o S S1) (b : FCc o S1 S2) : FCc o S S2 := ⟨b.1, b.2.1.trans a.2.1, fun c k w => (b.2.2 c k w).trans (a.2.2 c k w)⟩
theorem FCm_tr {o : Nat} {S S1 S2 : Sx} (a : FCm o S S1) (b : FCm o S1 S2) : FCm o S S2 := ⟨b.1, b.2.1.trans a.2.1, b.2.2.1.trans a.2.2.1, fun c k w => (b.2.2.2 c k w).trans (a.2.2.2 c k w)⟩
theorem run_n {o N : Nat} {nf ns na nt np L : Nat} {fs ta sa rk : Nat → Nat} {cm : Nat} (hN : N ≤ 100) (hcm : cm < 1000) : ∀ j i S T en gn cy, i + j = N → cy + j < 2 ^ 30 → I2 o S T nf ns na nt np L fs ta sa rk cm en gn cy →
    ∃ S' T' en' gn', (∀ m x2, j < m → fMp_run_35 m o (nI N) x2 (nI i) S = some (0, nI gn' - x2, S')) ∧ (∀ m x2, j < m → fMd_run_46 m (o + 893) (nI N) x2 (nI i) T = some (nI gn' - x2, T')) ∧ FCc o S S' ∧ FCm o T T' ∧ I2 o S' T' nf ns na nt np L fs ta sa rk cm en' gn' (cy + j) := by
  intro j
  induction j with
  | zero =>
    intro i S T en gn cy h1 h2 hI
    obtain rfl : i = N := by omega
    have le : nI i ≤ nI i := nI_le (by omega) (by omega)
    have h : Ly o S := hI.1
    have hT : Ly o T := hI.2.1
    have q8 : sI S (o + 1) 8 = nI gn := hI.2.2.2.2.2.2.1.2.2.1
    have q55 : sI T (o + 893) 55 = nI gn := hI.2.2.2.2.2.2.2.1.2.2.2.1
    refine ⟨S, T, en, gn, ?_, ?_, ⟨h, rfl, fun _ _ _ => rfl⟩, ⟨hT, rfl, rfl, fun _ _ _ => rfl⟩, hI⟩
    · intro m x2 hm
      obtain ⟨m', rfl⟩ : ∃ m', m = m' + 1 := ⟨m - 1, by omega⟩
      rw [fMp_run_35]
      simp (disch := first | with_reducible assumption | omega | (repeat (first | with_reducible assumption | with_reducible apply Ly_wI | with_reducible apply Ly_nx | with_reducible apply Ly_wJ | with_reducible apply Ly_fl))) only [le, q8, ↓reduceIte, rd_s, rd_n, rd_nx, rd_wJ, t00, t10, t20, t30, ↓gI_Mp, ↓pI_Mp, ↓ck_Mp, ↓gI_Pr, ↓pI_Pr, ↓ck_Pr, ↓gI_La, ↓pI_La, ↓pZ_La, ↓ck_La, ↓gI_Li, ↓pI_Li, ↓ck_Li, ↓gI_Ky, ↓pI_Ky, ↓ck_Ky, ↓gI_Rd, ↓pI_Rd, ↓ck_Rd, ↓gI_Tp, ↓pI_Tp, ↓ck_Tp, ↓gI_St, ↓pI_St, ↓ck_St, ↓gI_Ac, ↓pI_Ac, ↓ck_Ac, ↓gI_Ta, ↓pI_Ta, ↓ck_Ta, ↓gI_Sp, ↓pI_Sp, ↓ck_Sp, ↓gI_Op, ↓pI_Op, ↓ck_Op, ↓gI_Oe, ↓pI_Oe, ↓ck_Oe, ↓gI_Ob, ↓pI_Ob, ↓ck_Ob, ↓gI_He, ↓pI_He, ↓pZ_He, ↓ck_He, ↓gI_En, ↓pI_En, ↓ck_En, ↓gI_Md, ↓pI_Md, ↓pZ_Md, ↓ck_Md, ↓gX_Mp0, ↓gX_Mp1, ↓gX_Mp2, ↓gX_Mp3, ↓gX_Mp4, ↓gX_Mp5, ↓gX_Pr0, ↓gX_Pr1, ↓gX_Pr2, ↓gX_Pr3, ↓gX_Pr4, ↓gX_La0, ↓gX_La1, ↓gX_La2, ↓gX_Li0, ↓gX_Li1, ↓gX_Li2, ↓gX_Li3, ↓gX_Li4, ↓gX_Li5, ↓gX_Rd0, ↓gX_Tp0, ↓gX_St0, ↓gX_St1, ↓gX_St2, ↓gX_St3, ↓gX_Ac0, ↓gX_Ac1, ↓gX_Ac2, ↓gX_Ac3, ↓gX_Ta0, ↓gX_Op0, ↓gX_Op1, ↓gX_Ob0, ↓gX_He0, ↓gX_He1, ↓gX_Md8, ↓gX_Md9, ↓gX_Md10, ↓gX_Md11, ↓gX_Md12, ↓gX_Md13, ↓gX_Md14, ↓gX_Md15, ↓gX_Md16, ↓gX_Md17, ↓gX_Md18, ↓gX_Md19, ↓gX_Md20, ↓gX_Md21, ↓gX_Md22, ↓gX_Md23, ↓gX_Md24, ↓gX_Md25, ↓gX_Md26, ↓gX_Md27, ↓gX_Md28, ↓gX_Md29, ↓gX_Md30, ↓gX_Md31, ↓gX_Md32, ↓gX_Md35, ↓gX_Md36, ↓gX_Md37, ↓gX_Md38, ↓gX_Md39, ↓gX_Md40, ↓gX_Md41, ↓gX_Md42, ↓gX_Md43, ↓gX_Md44, ↓gX_Md45, ↓gX_Md46, ↓gX_Md57, ↓gX_Md58, ↓gX_Md59, ↓gX_Md60, ↓gX_Md61, ↓gX_Md62, ↓gX_Md63, ↓gX_Md64, ↓gX_Md65, ↓gX_Md66, ↓gX_Md67, ↓gX_Md68, ↓gX_Md69, ↓gX_Md70, ↓gX_Md71, ↓gX_Md72, ↓gX_Md77, ↓gX_Md78, ↓gX_Md79, ↓aI_w, ↓qI_w, ↓aI_s0, ↓qI_s0, ↓aI_s1, ↓qI_s1, ↓aI_s2, ↓qI_s2, ↓aI_s3, ↓qI_s3, ↓aI_a0, ↓qI_a0, ↓aI_a1, ↓qI_a1, ↓aI_a2, ↓qI_a2, ↓aI_a3, ↓qI_a3, ↓aI_l0, ↓qI_l0, ↓aI_l1, ↓qI_l1, ↓aI_l2, ↓qI_l2, ↓aI_is, ↓qI_is, ↓aI_ar, ↓qI_ar, ↓aI_ob, ↓qI_ob, ↓aI_hw, ↓qI_hw, ↓aI_ho, ↓qI_ho, ↓aI_rd, ↓qI_rd, ↓aI_tp, ↓qI_tp, ↓aI_m1, ↓qI_m1, ↓aI_m2, ↓qI_m2, ↓aI_m3, ↓qI_m3, ↓aI_m4, ↓qI_m4, ↓aI_m5, ↓qI_m5, ↓aI_m6, ↓qI_m6, ↓aI_m7, ↓qI_m7, ↓aI_m8, ↓qI_m8, ↓aI_m9, ↓qI_m9, ↓aI_m10, ↓qI_m10, ↓aI_m11, ↓qI_m11, ↓aI_m12, ↓qI_m12, ↓aI_m13, ↓qI_m13, ↓aI_m14, ↓qI_m14, ↓aI_m15, ↓qI_m15, ↓aI_m16, ↓qI_m16, ↓aI_m17, ↓qI_m17, ↓aI_m18, ↓qI_m18, ↓aI_m19, ↓qI_m19, ↓aI_m20, ↓qI_m20, ↓aI_m21, ↓qI_m21, ↓aI_m22, ↓qI_m22, ↓aI_m23, ↓qI_m23, ↓aI_m24, ↓qI_m24, ↓aI_m25, ↓qI_m25, ↓aI_m26, ↓qI_m26, ↓aI_m27, ↓qI_m27, ↓aI_m28, ↓qI_m28, ↓aI_m29, ↓qI_m29, ↓aI_m30, ↓qI_m30, ↓aI_m31, ↓qI_m31, ↓aI_m32, ↓qI_m32, ↓aI_m33, ↓qI_m33, ↓aI_m34, ↓qI_m34, ↓aI_m35, ↓qI_m35, ↓aI_m36, ↓qI_m36, ↓aI_m37, ↓qI_m37, ↓aI_m38, ↓qI_m38, ↓aI_m39, ↓qI_m39, ↓aI_m40, ↓qI_m40, ↓aI_m41, ↓qI_m41, ↓aI_m42, ↓qI_m42, ↓aI_m43, ↓qI_m43, ↓aI_m44, ↓qI_m44, ↓aI_m45, ↓qI_m45, ↓aI_m46, ↓qI_m46, ↓aI_m47, ↓qI_m47, ↓aI_m48, ↓qI_m48, ↓aI_m49, ↓qI_m49, ↓aI_m50, ↓qI_m50, ↓aI_m51, ↓qI_m51, ↓aI_m52, ↓qI_m52, ↓aI_m54, ↓qI_m54, ↓aI_m55, ↓qI_m55, ↓aZ_m53, ↓qZ_m53, ↓aZ_m56, ↓qZ_m56, ↓aX_3, ↓aX_4, ↓aX_5, ↓aX_6, ↓aX_324, ↓aX_325, ↓ai_0, ↓ai_1, ↓ai_2, ↓ai_3, ↓qi_0, ↓qi_1, ↓qi_2, ↓qi_3, ↓qi_4, ↓ly_qJ, ↓bd2_mk, ↓bdT_0, ↓bdC_0]
    · intro m x2 hm
      obtain ⟨m', rfl⟩ : ∃ m', m = m' + 1 := ⟨m - 1, by omega⟩
      rw [fMd_run_46]
      simp (disch := first | with_reducible assumption | omega | (repeat (first | with_reducible assumption | with_reducible apply Ly_wI | with_reducible apply Ly_nx | with_reducible apply Ly_wJ | with_reducible apply Ly_fl))) only [le, q55, ↓reduceIte, rd_s, rd_n, rd_nx, rd_wJ, t00, t10, t20, t30, ↓gI_Mp, ↓pI_Mp, ↓ck_Mp, ↓gI_Pr, ↓pI_Pr, ↓ck_Pr, ↓gI_La, ↓pI_La, ↓pZ_La, ↓ck_La, ↓gI_Li, ↓pI_Li, ↓ck_Li, ↓gI_Ky, ↓pI_Ky, ↓ck_Ky, ↓gI_Rd, ↓pI_Rd, ↓ck_Rd, ↓gI_Tp, ↓pI_Tp, ↓ck_Tp, ↓gI_St, ↓pI_St, ↓ck_St, ↓gI_Ac, ↓pI_Ac, ↓ck_Ac, ↓gI_Ta, ↓pI_Ta, ↓ck_Ta, ↓gI_Sp, ↓pI_Sp, ↓ck_Sp, ↓gI_Op, ↓pI_Op, ↓ck_Op, ↓gI_Oe, ↓pI_Oe, ↓ck_Oe, ↓gI_Ob, ↓pI_Ob, ↓ck_Ob, ↓gI_He, ↓pI_He, ↓pZ_He, ↓ck_He, ↓gI_En, ↓pI_En, ↓ck_En, ↓gI_Md, ↓pI_Md, ↓pZ_Md, ↓ck_Md, ↓gX_Mp0, ↓gX_Mp1, ↓gX_Mp2, ↓gX_Mp3, ↓gX_Mp4, ↓gX_Mp5, ↓gX_Pr0, ↓gX_Pr1, ↓gX_Pr2, ↓gX_Pr3, ↓gX_Pr4, ↓gX_La0, ↓gX_La1, ↓gX_La2, ↓gX_Li0, ↓gX_Li1, ↓gX_Li2, ↓gX_Li3, ↓gX_Li4, ↓gX_Li5, ↓gX_Rd0, ↓gX_Tp0, ↓gX_St0, ↓gX_St1, ↓gX_St2, ↓gX_St3, ↓gX_Ac0, ↓gX_Ac1, ↓gX_Ac2, ↓gX_Ac3, ↓gX_Ta0, ↓gX_Op0, ↓gX_Op1, ↓gX_Ob0, ↓gX_He0, ↓gX_He1, ↓gX_Md8, ↓gX_Md9, ↓gX_Md10, ↓gX_Md11, ↓gX_Md12, ↓gX_Md13, ↓gX_Md14, ↓gX_Md15, ↓gX_Md16, ↓gX_Md17, ↓gX_Md18, ↓gX_Md19, ↓gX_Md20, ↓gX_Md21, ↓gX_Md22, ↓gX_Md23, ↓gX_Md24, ↓gX_Md25, ↓gX_Md26, ↓gX_Md27, ↓gX_Md28, ↓gX_Md29, ↓gX_Md30, ↓gX_Md31, ↓gX_Md32, ↓gX_Md35, ↓gX_Md36, ↓gX_Md37, ↓gX_Md38, ↓gX_Md39, ↓gX_Md40, ↓gX_Md41, ↓gX_Md42, ↓gX_Md43, ↓gX_Md44, ↓gX_Md45, ↓gX_Md46, ↓gX_Md57, ↓gX_Md58, ↓gX_Md59, ↓gX_Md60, ↓gX_Md61, ↓gX_Md62, ↓gX_Md63, ↓gX_Md64, ↓gX_Md65, ↓gX_Md66, ↓gX_Md67, ↓gX_Md68, ↓gX_Md69, ↓gX_Md70, ↓gX_Md71, ↓gX_Md72, ↓gX_Md77, ↓gX_Md78, ↓gX_Md79, ↓aI_w, ↓qI_w, ↓aI_s0, ↓qI_s0, ↓aI_s1, ↓qI_s1, ↓aI_s2, ↓qI_s2, ↓aI_s3, ↓qI_s3, ↓aI_a0, ↓qI_a0, ↓aI_a1, ↓qI_a1, ↓aI_a2, ↓qI_a2, ↓aI_a3, ↓qI_a3, ↓aI_l0, ↓qI_l0, ↓aI_l1, ↓qI_l1, ↓aI_l2, ↓qI_l2, ↓aI_is, ↓qI_is, ↓aI_ar, ↓qI_ar, ↓aI_ob, ↓qI_ob, ↓aI_hw, ↓qI_hw, ↓aI_ho, ↓qI_ho, ↓aI_rd, ↓qI_rd, ↓aI_tp, ↓qI_tp, ↓aI_m1, ↓qI_m1, ↓aI_m2, ↓qI_m2, ↓aI_m3, ↓qI_m3, ↓aI_m4, ↓qI_m4, ↓aI_m5, ↓qI_m5, ↓aI_m6, ↓qI_m6, ↓aI_m7, ↓qI_m7, ↓aI_m8, ↓qI_m8, ↓aI_m9, ↓qI_m9, ↓aI_m10, ↓qI_m10, ↓aI_m11, ↓qI_m11, ↓aI_m12, ↓qI_m12, ↓aI_m13, ↓qI_m13, ↓aI_m14, ↓qI_m14, ↓aI_m15, ↓qI_m15, ↓aI_m16, ↓qI_m16, ↓aI_m17, ↓qI_m17, ↓aI_m18, ↓qI_m18, ↓aI_m19, ↓qI_m19, ↓aI_m20, ↓qI_m20, ↓aI_m21, ↓qI_m21, ↓aI_m22, ↓qI_m22, ↓aI_m23, ↓qI_m23, ↓aI_m24, ↓qI_m24, ↓aI_m25, ↓qI_m25, ↓aI_m26, ↓qI_m26, ↓aI_m27, ↓qI_m27, ↓aI_m28, ↓qI_m28, ↓aI_m29, ↓qI_m29, ↓aI_m30, ↓qI_m30, ↓aI_m31, ↓qI_m31, ↓aI_m32, ↓qI_m32, ↓aI_m33, ↓qI_m33, ↓aI_m34, ↓qI_m34, ↓aI_m35, ↓qI_m35, ↓aI_m36, ↓qI_m36, ↓aI_m37, ↓qI_m37, ↓aI_m38, ↓qI_m38, ↓aI_m39, ↓qI_m39, ↓aI_m40, ↓qI_m40, ↓aI_m41, ↓qI_m41, ↓aI_m42, ↓qI_m42, ↓aI_m43, ↓qI_m43, ↓aI_m44, ↓qI_m44, ↓aI_m45, ↓qI_m45, ↓aI_m46, ↓qI_m46, ↓aI_m47, ↓qI_m47, ↓aI_m48, ↓qI_m48, ↓aI_m49, ↓qI_m49, ↓aI_m50, ↓qI_m50, ↓aI_m51, ↓qI_m51, ↓aI_m52, ↓qI_m52, ↓aI_m54, ↓qI_m54, ↓aI_m55, ↓qI_m55, ↓aZ_m53, ↓qZ_m53, ↓aZ_m56, ↓qZ_m56, ↓aX_3, ↓aX_4, ↓aX_5, ↓aX_6, ↓aX_324, ↓aX_325, ↓ai_0, ↓ai_1, ↓ai_2, ↓ai_3, ↓qi_0, ↓qi_1, ↓qi_2, ↓qi_3, ↓qi_4, ↓ly_qJ, ↓bd2_mk, ↓bdT_0, ↓bdC_0]
  | succ j ih =>
    intro i S T en gn cy h1 h2 hI
    have nle : ¬ nI N ≤ nI i := nI_ge (by omega) (by omega)
    have h : Ly o S := hI.1
    obtain ⟨S1, T1, en1, gn1, e1, e2, F1, F2, I1⟩ := cycle_ hI hcm (by omega)
    obtain ⟨S', T', en', gn', g1, g2, G1, G2, I'⟩ := ih (i + 1) S1 T1 en1 gn1 (cy + 1) (by omega) (by omega) I1
    refine ⟨S', T', en', gn', ?_, ?_, FCc_tr F1 G1, FCm_tr F2 G2, by rw [show cy + (j + 1) = cy + 1 + j from by omega]; exact I'⟩
    · intro m x2 hm
      obtain ⟨m', rfl⟩ : ∃ m', m = m' + 1 := ⟨m - 1, by omega⟩
      rw [fMp_run_35]
      simp (disch := first | with_reducible assumption | omega | (repeat (first | with_reducible assumption | with_reducible apply Ly_wI | with_reducible apply Ly_nx | with_reducible apply Ly_wJ | with_reducible apply Ly_fl))) only [nle, ↓reduceIte, rd_s, rd_n, rd_nx, rd_wJ, t00, t10, t20, t30, ↓gI_Mp, ↓pI_Mp, ↓ck_Mp, ↓gI_Pr, ↓pI_Pr, ↓ck_Pr, ↓gI_La, ↓pI_La, ↓pZ_La, ↓ck_La, ↓gI_Li, ↓pI_Li, ↓ck_Li, ↓gI_Ky, ↓pI_Ky, ↓ck_Ky, ↓gI_Rd, ↓pI_Rd, ↓ck_Rd, ↓gI_Tp, ↓pI_Tp, ↓ck_Tp, ↓gI_St, ↓pI_St, ↓ck_St, ↓gI_Ac, ↓pI_Ac, ↓ck_Ac, ↓gI_Ta, ↓pI_Ta, ↓ck_Ta, ↓gI_Sp, ↓pI_Sp, ↓ck_Sp, ↓gI_Op, ↓pI_Op, ↓ck_Op, ↓gI_Oe, ↓pI_Oe, ↓ck_Oe, ↓gI_Ob, ↓pI_Ob, ↓ck_Ob, ↓gI_He, ↓pI_He, ↓pZ_He, ↓ck_He, ↓gI_En, ↓pI_En, ↓ck_En, ↓gI_Md, ↓pI_Md, ↓pZ_Md, ↓ck_Md, ↓gX_Mp0, ↓gX_Mp1, ↓gX_Mp2, ↓gX_Mp3, ↓gX_Mp4, ↓gX_Mp5, ↓gX_Pr0, ↓gX_Pr1, ↓gX_Pr2, ↓gX_Pr3, ↓gX_Pr4, ↓gX_La0, ↓gX_La1, ↓gX_La2, ↓gX_Li0, ↓gX_Li1, ↓gX_Li2, ↓gX_Li3, ↓gX_Li4, ↓gX_Li5, ↓gX_Rd0, ↓gX_Tp0, ↓gX_St0, ↓gX_St1, ↓gX_St2, ↓gX_St3, ↓gX_Ac0, ↓gX_Ac1, ↓gX_Ac2, ↓gX_Ac3, ↓gX_Ta0, ↓gX_Op0, ↓gX_Op1, ↓gX_Ob0, ↓gX_He0, ↓gX_He1, ↓gX_Md8, ↓gX_Md9, ↓gX_Md10, ↓gX_Md11, ↓gX_Md12, ↓gX_Md13, ↓gX_Md14, ↓gX_Md15, ↓gX_Md16, ↓gX_Md17, ↓gX_Md18, ↓gX_Md19, ↓gX_Md20, ↓gX_Md21, ↓gX_Md22, ↓gX_Md23, ↓gX_Md24, ↓gX_Md25, ↓gX_Md26, ↓gX_Md27, ↓gX_Md28, ↓gX_Md29, ↓gX_Md30, ↓gX_Md31, ↓gX_Md32, ↓gX_Md35, ↓gX_Md36, ↓gX_Md37, ↓gX_Md38, ↓gX_Md39, ↓gX_Md40, ↓gX_Md41, ↓gX_Md42, ↓gX_Md43, ↓gX_Md44, ↓gX_Md45, ↓gX_Md46, ↓gX_Md57, ↓gX_Md58, ↓gX_Md59, ↓gX_Md60, ↓gX_Md61, ↓gX_Md62, ↓gX_Md63, ↓gX_Md64, ↓gX_Md65, ↓gX_Md66, ↓gX_Md67, ↓gX_Md68, ↓gX_Md69, ↓gX_Md70, ↓gX_Md71, ↓gX_Md72, ↓gX_Md77, ↓gX_Md78, ↓gX_Md79, ↓aI_w, ↓qI_w, ↓aI_s0, ↓qI_s0, ↓aI_s1, ↓qI_s1, ↓aI_s2, ↓qI_s2, ↓aI_s3, ↓qI_s3, ↓aI_a0, ↓qI_a0, ↓aI_a1, ↓qI_a1, ↓aI_a2, ↓qI_a2, ↓aI_a3, ↓qI_a3, ↓aI_l0, ↓qI_l0, ↓aI_l1, ↓qI_l1, ↓aI_l2, ↓qI_l2, ↓aI_is, ↓qI_is, ↓aI_ar, ↓qI_ar, ↓aI_ob, ↓qI_ob, ↓aI_hw, ↓qI_hw, ↓aI_ho, ↓qI_ho, ↓aI_rd, ↓qI_rd, ↓aI_tp, ↓qI_tp, ↓aI_m1, ↓qI_m1, ↓aI_m2, ↓qI_m2, ↓aI_m3, ↓qI_m3, ↓aI_m4, ↓qI_m4, ↓aI_m5, ↓qI_m5, ↓aI_m6, ↓qI_m6, ↓aI_m7, ↓qI_m7, ↓aI_m8, ↓qI_m8, ↓aI_m9, ↓qI_m9, ↓aI_m10, ↓qI_m10, ↓aI_m11, ↓qI_m11, ↓aI_m12, ↓qI_m12, ↓aI_m13, ↓qI_m13, ↓aI_m14, ↓qI_m14, ↓aI_m15, ↓qI_m15, ↓aI_m16, ↓qI_m16, ↓aI_m17, ↓qI_m17, ↓aI_m18, ↓qI_m18, ↓aI_m19, ↓qI_m19, ↓aI_m20, ↓qI_m20, ↓aI_m21, ↓qI_m21, ↓aI_m22, ↓qI_m22, ↓aI_m23, ↓qI_m23, ↓aI_m24, ↓qI_m24, ↓aI_m25, ↓qI_m25, ↓aI_m26, ↓qI_m26, ↓aI_m27, ↓qI_m27, ↓aI_m28, ↓qI_m28, ↓aI_m29, ↓qI_m29, ↓aI_m30, ↓qI_m30, ↓aI_m31, ↓qI_m31, ↓aI_m32, ↓qI_m32, ↓aI_m33, ↓qI_m33, ↓aI_m34, ↓qI_m34, ↓aI_m35, ↓qI_m35, ↓aI_m36, ↓qI_m36, ↓aI_m37, ↓qI_m37, ↓aI_m38, ↓qI_m38, ↓aI_m39, ↓qI_m39, ↓aI_m40, ↓qI_m40, ↓aI_m41, ↓qI_m41, ↓aI_m42, ↓qI_m42, ↓aI_m43, ↓qI_m43, ↓aI_m44, ↓qI_m44, ↓aI_m45, ↓qI_m45, ↓aI_m46, ↓qI_m46, ↓aI_m47, ↓qI_m47, ↓aI_m48, ↓qI_m48, ↓aI_m49, ↓qI_m49, ↓aI_m50, ↓qI_m50, ↓aI_m51, ↓qI_m51, ↓aI_m52, ↓qI_m52, ↓aI_m54, ↓qI_m54, ↓aI_m55, ↓qI_m55, ↓aZ_m53, ↓qZ_m53, ↓aZ_m56, ↓qZ_m56, ↓aX_3, ↓aX_4, ↓aX_5, ↓aX_6, ↓aX_324, ↓aX_325, ↓ai_0, ↓ai_1, ↓ai_2, ↓ai_3, ↓qi_0, ↓qi_1, ↓qi_2, ↓qi_3, ↓qi_4, ↓ly_qJ, ↓bd2_mk, ↓bdT_0, ↓bdC_0]
      rw [e1, nI_1]
      exact g1 m' x2 (by omega)
    · intro m x2 hm
      obtain ⟨m', rfl⟩ : ∃ m', m = m' + 1 := ⟨m - 1, by omega⟩
      rw [e2 m' _ _ _ nle, nI_1]
      exact g2 m' x2 (by omega)
/-- the reference's side may be another memory -/
theorem I2_T {o : Nat} {S T T0 : Sx} {nf ns na nt np L : Nat} {fs ta sa rk : Nat → Nat} {cm en gn cy : Nat} (hI : I2 o S T nf ns na nt np L fs ta sa rk cm en gn cy) (hL : Ly o T0) (ep : ∀ c k, pc c k → V o T0 c k = V o S c k) (e : ∀ c k, 893 ≤ c → ¬ ((c = 893 ∧ (k = 0 ∨ (47 ≤ k ∧ k ≤ 51))) ∨ c = 929 ∨ c = 930) → V o T0 c k = V o T c k) : I2 o S T0 nf ns na nt np L fs ta sa rk cm en gn cy := by
  obtain ⟨LS, LT, hp, _, hW, hR, hC, ⟨m52, m53, m54, m55, m56, m6⟩, b, Tn, Wn, hQ⟩ := hI
  have b4 := hp.1.2.2.2.1
  refine ⟨LS, hL, hp, ep, hW, hR, hC, ⟨?_, ?_, ?_, ?_, ?_, ?_⟩, b, Tn, Wn, ?_⟩
  · rw [e _ _ (by omega) (by omega)]; exact m52
  · rw [e _ _ (by omega) (by omega)]; exact m53
  · rw [e _ _ (by omega) (by omega)]; exact m54
  · rw [e _ _ (by omega) (by omega)]; exact m55
  · rw [e _ _ (by omega) (by omega)]; exact m56
  · rw [e _ _ (by omega) (by omega)]; exact m6
  · obtain ⟨B1, B2, B3, B4, B5, B6, B7⟩ := hQ
    have tdr : ∀ n', tdE (V o T) (V o T0) n' := fun n' => ⟨fun c w => e c _ (by omega) (by omega), fun i w => e _ _ (by omega) (by omega)⟩
    refine ⟨B1, ?_, ?_, ?_, ?_, ?_, ?_⟩
    · intro s hs; rw [e _ _ (by omega) (by omega)]; exact B2 s hs
    · intro n w1 w2; exact goneR_cg (fun _ _ _ _ => rfl) (tdr n) (B3 n w1 w2)
    · intro j hj; exact lineR_cg (fun _ _ _ _ => rfl) (fun c k _ _ => e c k (by omega) (by omega)) (B4 j hj)
    · intro s hs w; exact flyR_cg b4 (fun _ _ _ => rfl) (fun _ _ _ _ => rfl) (fun _ _ _ _ => rfl) (tdr _) (B5 s hs w)
    · intro t ht
      obtain ⟨C1, ⟨M0, M1, M2⟩, C3⟩ := B6 t ht
      refine ⟨C1, ⟨M0, by rw [e _ _ (by omega) (by omega)]; exact M1, fun i hi q hq hg => ?_⟩, C3⟩
      rw [e _ _ (by omega) (by omega)] at hg
      rw [e _ _ (by omega) (by omega)]; exact M2 i hi q hq hg
    · intro j hj; rw [e _ _ (by omega) (by omega)]; exact B7 j hj
/-- the class's side may be another memory -/
theorem I2_S {o : Nat} {S S' T : Sx} {nf ns na nt np L : Nat} {fs ta sa rk : Nat → Nat} {cm en gn cy : Nat} (hI : I2 o S T nf ns na nt np L fs ta sa rk cm en gn cy) (hL : Ly o S') (hr : sR S' = sR S) (e : ∀ c k, ((1 ≤ c ∧ c < 888) ∧ ¬ (c = 1 ∧ k < 6)) ∨ pc c k → V o S' c k = V o S c k) : I2 o S' T nf ns na nt np L fs ta sa rk cm en gn cy := by
  obtain ⟨LS, LT, hp, ep, hW, hR, ⟨c6, c7, c8, c9⟩, hM, b, Tn, Wn, hQ⟩ := hI
  have b4 := hp.1.2.2.2.1
  have b2 := hp.1.2.1
  have e1 : ∀ c k, pc c k → V o S' c k = V o S c k := fun c k w => e c k (Or.inr w)
  refine ⟨hL, LT, PR_cg e1 hp, fun c k w => by rw [ep c k w, e1 c k w], WY_cg b2 e1 hW, LRv_cg e1 (fun c k w1 w2 => e c k (by omega)) hR, ⟨?_, ?_, ?_, ?_⟩, hM, b, Tn, Wn, ?_⟩
  · rw [e _ _ (by omega)]; exact c6
  · rw [e _ _ (by omega)]; exact c7
  · rw [e _ _ (by omega)]; exact c8
  · rw [e _ _ (by omega)]; exact c9
  · obtain ⟨B1, B2, B3, B4, B5, B6, B7⟩ := hQ
    have tdr : ∀ n', tdE (V o T) (V o T) n' := fun n' => ⟨fun _ _ => rfl, fun _ _ => rfl⟩
    refine ⟨B1, ?_, ?_, ?_, ?_, ?_, ?_⟩
    · intro s hs; rw [e _ _ (by omega)]; exact B2 s hs
    · intro n w1 w2; exact goneR_cg (fun c k _ _ => e c k (by omega)) (tdr n) (B3 n w1 w2)
    · intro j hj; exact lineR_cg (fun c k _ _ => e c k (by omega)) (fun _ _ _ _ => rfl) (B4 j hj)
    · intro s hs w; exact flyR_cg b4 e1 (fun c k _ _ => e c k (by omega)) (fun c k _ _ => e c k (by omega)) (tdr _) (B5 s hs w)
    · intro t ht
      obtain ⟨C1, C2, C3⟩ := B6 t ht
      exact ⟨CTb_cg (by omega) hr (fun c k _ _ => e c k (by omega)) C1, C2, fun n w1 w2 => ⟨TV_cg e1 (C3 n w1 w2).1, (C3 n w1 w2).2⟩⟩
    · intro j hj; rw [e _ _ (by omega)]; exact B7 j hj
/-! THE WHOLE OF WHAT IS KEPT -/
def BR (v : Nat → Nat → Int32) : Prop := (∃ n, n ≤ 60 ∧ v 0 6 = nI n ∧ v 893 47 = nI n ∧ ∀ j, j < 8 * n → cb v 892 j = mb v 930 0 j) ∧ (∀ i, i < 60 → by8 (v 930 i)) ∧ (∀ j, j < 160 → cb v 890 j = mb v 929 0 j) ∧ (∀ i, i < 20 → by8 (v 929 i)) ∧ ∀ k, k < 4 → v 888 k = v 893 (48 + k)
def FLr (v : Nat → Nat → Int32) : Prop := v 320 3 = v 893 7 ∧ v 320 5 = v 893 33 ∧ v 320 6 = v 893 34 ∧ v 322 0 = 0
def IDL (v : Nat → Nat → Int32) (nt : Nat) : Prop := (v 1 6 = 0 ∧ v 1 7 = 0 ∧ v 1 8 = 0 ∧ v 1 9 = 0) ∧ (v 893 52 = 0 ∧ v 893 53 = 0 ∧ v 893 54 = 0 ∧ v 893 55 = 0 ∧ v 893 56 = 0) ∧ (∀ s, s < 12 → v 326 s = -1) ∧ (∀ k, k < 64 → v 327 k = 0 ∧ v 928 k = 0) ∧ ∀ t, t < nt → v (128 + 22 * t) 1 = 0 ∧ v 919 t = 0
def LD (o K : Nat) (S : Sx) (nf ns na nt np : Nat) : Prop := ∃ (L : Nat) (fs ta sa rk : Nat → Nat) (cm en gn cy : Nat), cm ≤ K ∧ cy ≤ 100 * K ∧ I2 o S S nf ns na nt np L fs ta sa rk cm en gn cy ∧ ∀ p, p < np → V o S 321 p = V o S 918 p
def Iv (o K : Nat) (S : Sx) : Prop := K ≤ 512 ∧ Ly o S ∧ ∃ nf ns na nt np, PR (V o S) nf ns na nt np ∧ BR (V o S) ∧ FLr (V o S) ∧ ((V o S 320 3 = 0 ∧ IDL (V o S) nt) ∨ (V o S 320 3 = 1 ∧ LD o K S nf ns na nt np))
theorem BR_cg {v v' : Nat → Nat → Int32} (e : ∀ c k, ((c = 0 ∧ k = 6) ∨ c = 888 ∨ c = 890 ∨ c = 892 ∨ c = 929 ∨ c = 930 ∨ (c = 893 ∧ 47 ≤ k ∧ k ≤ 51)) → v' c k = v c k) (h : BR v) : BR v' := by
  obtain ⟨⟨n, h1, h2, h3, h4⟩, h5, h6, h7, h8⟩ := h
  refine ⟨⟨n, h1, ?_, ?_, ?_⟩, ?_, ?_, ?_, ?_⟩
  · rw [e _ _ (by omega)]; exact h2
  · rw [e _ _ (by omega)]; exact h3
  · intro j hj
    have := h4 j hj
    unfold cb mb at *
    rw [e _ _ (by omega), e _ _ (by omega)]; exact this
  · intro i hi; rw [e _ _ (by omega)]; exact h5 i hi
  · intro j hj
    have := h6 j hj
    unfold cb mb at *
    rw [e _ _ (by omega), e _ _ (by omega)]; exact this
  · intro i hi; rw [e _ _ (by omega)]; exact h7 i hi
  · intro k hk; rw [e _ _ (by omega), e _ _ (by omega)]; exact h8 k hk
theorem FLr_cg {v v' : Nat → Nat → Int32} (e : ∀ c k, ((c = 320 ∧ (k = 3 ∨ k = 5 ∨ k = 6)) ∨ (c = 322 ∧ k = 0) ∨ (c = 893 ∧ (k = 7 ∨ k = 33 ∨ k = 34))) → v' c k = v c k) (h : FLr v) : FLr v' := by
  obtain ⟨h1, h2, h3, h4⟩ := h
  refine ⟨?_, ?_, ?_, ?_⟩
  · rw [e _ _ (by omega), e _ _ (by omega)]; exact h1
  · rw [e _ _ (by omega), e _ _ (by omega)]; exact h2
  · rw [e _ _ (by omega), e _ _ (by omega)]; exact h3
  · rw [e _ _ (by omega)]; exact h4
theorem IDL_cg {v v' : Nat → Nat → Int32} {nt : Nat} (hnt : nt ≤ 8) (e : ∀ c k, ((c = 1 ∧ 6 ≤ k) ∨ (c = 893 ∧ 52 ≤ k ∧ k ≤ 56) ∨ c = 326 ∨ c = 327 ∨ c = 928 ∨ c = 919 ∨ (128 ≤ c ∧ c < 304 ∧ k = 1)) → v' c k = v c k) (h : IDL v nt) : IDL v' nt := by
  obtain ⟨⟨a1, a2, a3, a4⟩, ⟨b1, b2, b3, b4, b5⟩, h3, h4, h5⟩ := h
  refine ⟨⟨?_, ?_, ?_, ?_⟩, ⟨?_, ?_, ?_, ?_, ?_⟩, ?_, ?_, ?_⟩
  · rw [e _ _ (by omega)]; exact a1
  · rw [e _ _ (by omega)]; exact a2
  · rw [e _ _ (by omega)]; exact a3
  · rw [e _ _ (by omega)]; exact a4
  · rw [e _ _ (by omega)]; exact b1
  · rw [e _ _ (by omega)]; exact b2
  · rw [e _ _ (by omega)]; exact b3
  · rw [e _ _ (by omega)]; exact b4
  · rw [e _ _ (by omega)]; exact b5
  · intro s hs; rw [e _ _ (by omega)]; exact h3 s hs
  · intro k hk; rw [e _ _ (by omega), e _ _ (by omega)]; exact h4 k hk
  · intro t ht; rw [e _ _ (by omega), e _ _ (by omega)]; exact h5 t ht
/-- a memory that differs in what nobody reads -/
theorem Iv_cg {o K K' : Nat} {S S' : Sx} (h : Iv o K S) (hK : K ≤ K') (hK' : K' ≤ 512) (hL : Ly o S') (hr : sR S' = sR S) (e : ∀ c k, ¬ (c = 893 ∧ k = 0) → V o S' c k = V o S c k) : Iv o K' S' := by
  obtain ⟨_, hLy, nf, ns, na, nt, np, hp, hB, hF, hx⟩ := h
  have b4 := hp.1.2.2.2.1
  have ep : ∀ c k, pc c k → V o S' c k = V o S c k := fun c k w => e c k (by unfold pc at w; omega)
  refine ⟨hK', hL, nf, ns, na, nt, np, PR_cg ep hp, BR_cg (fun c k w => e c k (by omega)) hB, FLr_cg (fun c k w => e c k (by omega)) hF, ?_⟩
  rw [e 320 3 (by omega)]
  rcases hx with ⟨w1, w2⟩ | ⟨w1, L, fs, ta, sa, rk, cm, en, gn, cy, w2, w3, w4, w5⟩
  · exact Or.inl ⟨w1, IDL_cg b4 (fun c k w => e c k (by omega)) w2⟩
  · right
    refine ⟨w1, L, fs, ta, sa, rk, cm, en, gn, cy, by omega, by omega, ?_, fun p hp => ?_⟩
    · exact I2_S (I2_T w4 hL (fun c k w => by rw [ep c k w]) (fun c k w1 w2 => e c k (by omega))) hL hr (fun c k w => e c k (by unfold pc at w; omega))
    · rw [e _ _ (by omega), e _ _ (by omega)]; exact w5 p hp
