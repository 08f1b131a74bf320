/-! THE REFERENCE DOES ITS FIRST OPERATION -/
theorem m128 {n : Nat} (h : n < 1024) : nI n - nI n / 128 * 128 = nI (n % 128) := by
  have := (show ∀ n, n < 1024 → nI n - nI n / 128 * 128 = nI (n % 128) by decide +kernel)
  exact this n h
def dfC (pl c k : Nat) : Prop := (c = 893 ∧ (k = 53 ∨ k = 54 ∨ (73 ≤ k ∧ k ≤ 76))) ∨ (919 ≤ c ∧ c ≤ 928) ∨ (931 ≤ c ∧ c ≤ 939) ∨ (((940 ≤ c ∧ c ≤ 943) ∨ c = 945) ∧ k = pl) ∨ (c = 944 ∧ 60 * pl ≤ k ∧ k < 60 * pl + 60) ∨ (947 ≤ c ∧ c ≤ 949)
/-- what the reference's doFirst leaves: k in line after it -/
def FD (o : Nat) (T T1 : Sx) (n k : Nat) : Prop := Ly o T1 ∧ sR T1 = sR T ∧ sJ T1 = sJ T ∧ (∀ c q, ¬ dfC (n % 128) c q → V o T1 c q = V o T c q) ∧ V o T1 893 54 = nI (n + 1) ∧ V o T1 893 53 = nI k ∧ ∀ vc nt n' j, j < k → lineR vc (V o T) nt n' (j + 1) → lineR vc (V o T1) nt n' j
theorem mvs_n {v : Nat → Nat → Int32} {m c j : Nat} (h : ¬ (931 ≤ c ∧ c ≤ 939)) : mvs v m c j = v c j := by
  unfold mvs
  rw [if_neg (fun w => by unfold smp at w; omega), if_neg (by omega), if_neg (by omega)]
theorem tail_ {o n k : Nat} {T T0 : Sx} (hn : n < 1000) (hk : k < 40) (hL : Ly o T) (h54 : V o T 893 54 = nI n) (h53 : V o T 893 53 = nI (k + 1)) (hR : sR T = sR T0) (hJ : sJ T = sJ T0) (hfr : ∀ c q, ¬ dfC (n % 128) c q → V o T c q = V o T0 c q) (hln : ∀ c q, 931 ≤ c → c ≤ 939 → V o T c q = V o T0 c q) : ∃ T1, fMd_doFirst_141 (o + 893) T = some T1 ∧ FD o T0 T1 n k ∧ ∀ c q, ¬ (931 ≤ c ∧ c ≤ 939) → ¬ (c = 893 ∧ (q = 53 ∨ q = 54)) → V o T1 c q = V o T c q := by
  have r54 : sI T (o + 893) 54 = nI n := h54
  have r53 : sI T (o + 893) 53 = nI (k + 1) := h53
  have em : nI (k + 1) - 1 = nI k := nI_pred k
  obtain ⟨T1, e1, L1, R1, J1, V1⟩ := mvs_l (o := o) (m := k) (by omega) k 0 fuel (V o (wI (wI T (o + 893) 54 (nI n + 1)) (o + 893) 53 (nI k))) (wI (wI T (o + 893) 54 (nI n + 1)) (o + 893) 53 (nI k)) (by omega) (by unfold fuel; omega) (Ly_wI (Ly_wI hL)) (by rw [V_wI, u2_s]) (by
    funext c j
    unfold mvs
    rw [if_neg (fun w => by omega), if_neg (by omega), if_neg (by omega)])
  have X : ∀ c q, ¬ (931 ≤ c ∧ c ≤ 939) → ¬ (c = 893 ∧ (q = 53 ∨ q = 54)) → V o T1 c q = V o T c q := by
    intro c q h1 h2
    rw [V1, mvs_n h1, V_wI, V_wI, u2_n (by omega), u2_n (by omega)]
  refine ⟨T1, ?_, ⟨L1, by rw [R1, sR_wI, sR_wI, hR], by rw [J1, sJ_wI, sJ_wI, hJ], ?_, ?_, ?_, ?_⟩, X⟩
  · unfold fMd_doFirst_141
    simp (disch := first | with_reducible assumption | omega | (repeat (first | with_reducible assumption | with_reducible apply Ly_wI | with_reducible apply Ly_nx | with_reducible apply Ly_wJ | with_reducible apply Ly_fl))) only [r54, r53, em, ↓reduceIte, rd_s, rd_n, rd_nx, rd_wJ, t00, t10, t20, t30, ↓gI_Mp, ↓pI_Mp, ↓ck_Mp, ↓gI_Pr, ↓pI_Pr, ↓ck_Pr, ↓gI_La, ↓pI_La, ↓pZ_La, ↓ck_La, ↓gI_Li, ↓pI_Li, ↓ck_Li, ↓gI_Ky, ↓pI_Ky, ↓ck_Ky, ↓gI_Rd, ↓pI_Rd, ↓ck_Rd, ↓gI_Tp, ↓pI_Tp, ↓ck_Tp, ↓gI_St, ↓pI_St, ↓ck_St, ↓gI_Ac, ↓pI_Ac, ↓ck_Ac, ↓gI_Ta, ↓pI_Ta, ↓ck_Ta, ↓gI_Sp, ↓pI_Sp, ↓ck_Sp, ↓gI_Op, ↓pI_Op, ↓ck_Op, ↓gI_Oe, ↓pI_Oe, ↓ck_Oe, ↓gI_Ob, ↓pI_Ob, ↓ck_Ob, ↓gI_He, ↓pI_He, ↓pZ_He, ↓ck_He, ↓gI_En, ↓pI_En, ↓ck_En, ↓gI_Md, ↓pI_Md, ↓pZ_Md, ↓ck_Md, ↓gX_Mp0, ↓gX_Mp1, ↓gX_Mp2, ↓gX_Mp3, ↓gX_Mp4, ↓gX_Mp5, ↓gX_Pr0, ↓gX_Pr1, ↓gX_Pr2, ↓gX_Pr3, ↓gX_Pr4, ↓gX_La0, ↓gX_La1, ↓gX_La2, ↓gX_Li0, ↓gX_Li1, ↓gX_Li2, ↓gX_Li3, ↓gX_Li4, ↓gX_Li5, ↓gX_Rd0, ↓gX_Tp0, ↓gX_St0, ↓gX_St1, ↓gX_St2, ↓gX_St3, ↓gX_Ac0, ↓gX_Ac1, ↓gX_Ac2, ↓gX_Ac3, ↓gX_Ta0, ↓gX_Op0, ↓gX_Op1, ↓gX_Ob0, ↓gX_He0, ↓gX_He1, ↓gX_Md8, ↓gX_Md9, ↓gX_Md10, ↓gX_Md11, ↓gX_Md12, ↓gX_Md13, ↓gX_Md14, ↓gX_Md15, ↓gX_Md16, ↓gX_Md17, ↓gX_Md18, ↓gX_Md19, ↓gX_Md20, ↓gX_Md21, ↓gX_Md22, ↓gX_Md23, ↓gX_Md24, ↓gX_Md25, ↓gX_Md26, ↓gX_Md27, ↓gX_Md28, ↓gX_Md29, ↓gX_Md30, ↓gX_Md31, ↓gX_Md32, ↓gX_Md35, ↓gX_Md36, ↓gX_Md37, ↓gX_Md38, ↓gX_Md39, ↓gX_Md40, ↓gX_Md41, ↓gX_Md42, ↓gX_Md43, ↓gX_Md44, ↓gX_Md45, ↓gX_Md46, ↓gX_Md57, ↓gX_Md58, ↓gX_Md59, ↓gX_Md60, ↓gX_Md61, ↓gX_Md62, ↓gX_Md63, ↓gX_Md64, ↓gX_Md65, ↓gX_Md66, ↓gX_Md67, ↓gX_Md68, ↓gX_Md69, ↓gX_Md70, ↓gX_Md71, ↓gX_Md72, ↓gX_Md77, ↓gX_Md78, ↓gX_Md79, ↓aI_w, ↓qI_w, ↓aI_s0, ↓qI_s0, ↓aI_s1, ↓qI_s1, ↓aI_s2, ↓qI_s2, ↓aI_s3, ↓qI_s3, ↓aI_a0, ↓qI_a0, ↓aI_a1, ↓qI_a1, ↓aI_a2, ↓qI_a2, ↓aI_a3, ↓qI_a3, ↓aI_l0, ↓qI_l0, ↓aI_l1, ↓qI_l1, ↓aI_l2, ↓qI_l2, ↓aI_is, ↓qI_is, ↓aI_ar, ↓qI_ar, ↓aI_ob, ↓qI_ob, ↓aI_hw, ↓qI_hw, ↓aI_ho, ↓qI_ho, ↓aI_rd, ↓qI_rd, ↓aI_tp, ↓qI_tp, ↓aI_m1, ↓qI_m1, ↓aI_m2, ↓qI_m2, ↓aI_m3, ↓qI_m3, ↓aI_m4, ↓qI_m4, ↓aI_m5, ↓qI_m5, ↓aI_m6, ↓qI_m6, ↓aI_m7, ↓qI_m7, ↓aI_m8, ↓qI_m8, ↓aI_m9, ↓qI_m9, ↓aI_m10, ↓qI_m10, ↓aI_m11, ↓qI_m11, ↓aI_m12, ↓qI_m12, ↓aI_m13, ↓qI_m13, ↓aI_m14, ↓qI_m14, ↓aI_m15, ↓qI_m15, ↓aI_m16, ↓qI_m16, ↓aI_m17, ↓qI_m17, ↓aI_m18, ↓qI_m18, ↓aI_m19, ↓qI_m19, ↓aI_m20, ↓qI_m20, ↓aI_m21, ↓qI_m21, ↓aI_m22, ↓qI_m22, ↓aI_m23, ↓qI_m23, ↓aI_m24, ↓qI_m24, ↓aI_m25, ↓qI_m25, ↓aI_m26, ↓qI_m26, ↓aI_m27, ↓qI_m27, ↓aI_m28, ↓qI_m28, ↓aI_m29, ↓qI_m29, ↓aI_m30, ↓qI_m30, ↓aI_m31, ↓qI_m31, ↓aI_m32, ↓qI_m32, ↓aI_m33, ↓qI_m33, ↓aI_m34, ↓qI_m34, ↓aI_m35, ↓qI_m35, ↓aI_m36, ↓qI_m36, ↓aI_m37, ↓qI_m37, ↓aI_m38, ↓qI_m38, ↓aI_m39, ↓qI_m39, ↓aI_m40, ↓qI_m40, ↓aI_m41, ↓qI_m41, ↓aI_m42, ↓qI_m42, ↓aI_m43, ↓qI_m43, ↓aI_m44, ↓qI_m44, ↓aI_m45, ↓qI_m45, ↓aI_m46, ↓qI_m46, ↓aI_m47, ↓qI_m47, ↓aI_m48, ↓qI_m48, ↓aI_m49, ↓qI_m49, ↓aI_m50, ↓qI_m50, ↓aI_m51, ↓qI_m51, ↓aI_m52, ↓qI_m52, ↓aI_m54, ↓qI_m54, ↓aI_m55, ↓qI_m55, ↓aZ_m53, ↓qZ_m53, ↓aZ_m56, ↓qZ_m56, ↓aX_3, ↓aX_4, ↓aX_5, ↓aX_6, ↓aX_324, ↓aX_325, ↓ai_0, ↓ai_1, ↓ai_2, ↓ai_3, ↓qi_0, ↓qi_1, ↓qi_2, ↓qi_3, ↓qi_4, ↓ly_qJ, ↓bd2_mk, ↓bdT_0, ↓bdC_0]
    exact e1
  · intro c q hc
    rw [X c q (by unfold dfC at hc; omega) (by unfold dfC at hc; omega)]
    exact hfr c q hc
  · rw [V1, mvs_n (by omega), V_wI, V_wI, u2_n (by omega), u2_s, nI_1]
  · rw [V1, mvs_n (by omega), V_wI, u2_s]
  · intro vc nt n' j hj h
    rw [V1]
    refine lineR_dn hj (lineR_cg (fun _ _ _ _ => rfl) (fun c q h1 h2 => ?_) h)
    rw [V_wI, V_wI, u2_n (by omega), u2_n (by omega)]
    exact hln c q h1 h2
theorem MX_of {o t nf ns na nt np : Nat} {S : Sx} {T : TC} (hL : Ly o S) (hp : PR (V o S) nf ns na nt np) (ht : t < nt) (hM : MTv (V o S) t T) (hV : TV (V o S) na t T) : ∃ f0, MX o S t f0 (V o S (128 + 22 * t) 3) (V o S (128 + 22 * t) 6) (V o S (128 + 22 * t) 4) (V o S (128 + 22 * t) 7) (V o S (128 + 22 * t) 8) T := by
  obtain ⟨⟨b1, b2, b3, b4, b5⟩, _, _, _, _, _, hFd, _, _, h9, _⟩ := hp
  obtain ⟨⟨f0, f1, f2, f3, f4⟩, hg, ⟨hF1, hF3⟩, ⟨hG1, hG3⟩, ⟨a1, a2⟩, _⟩ := h9 t ht
  obtain ⟨M0, M1, M2⟩ := hM
  obtain ⟨w, w1, w2, w3, w4⟩ := hFd f0 f1
  refine ⟨f0, hL, by omega, by omega, M0, M1, f2, by rw [hF3]; rfl, by rw [hF3]; exact hF1, by rw [hG3]; rfl, by rw [hG3]; exact hG1, by rw [a1]; rfl, ?_, ?_, ?_, ?_, ?_⟩
  · intro a ha hb
    rw [a1] at hb
    have := a2 a ha hb
    omega
  · intro S' y hL' hS'
    rw [f4, w3]
    exact cut_ hL' (by omega) w1 w2 (by rw [hS']; exact w4)
  · rcases hg with ⟨g1, g2, g3, g4⟩ | ⟨g0, g1, g2, g3, g4⟩
    · exact Or.inl ⟨g1, g3, by rw [hG3]; exact g4, fun i hi => (hV.2 i hi).2.2 g1⟩
    · obtain ⟨w', w1', w2', w3', w4'⟩ := hFd g0 g1
      refine Or.inr ⟨g0, by omega, g2, ?_, ?_⟩
      · intro S' y hL' hS'
        rw [g4, w3']
        exact cut_ hL' (by omega) w1' w2' (by rw [hS']; exact w4')
      · intro i hi
        exact ⟨M2 i hi 2 (by omega) (fun _ => by rw [g2]; exact nN1 (by omega)), M2 i hi 3 (by omega) (fun _ => by rw [g2]; exact nN1 (by omega))⟩
  · intro i hi; exact M2 i hi 0 (by omega) (by omega)
  · intro i hi; exact M2 i hi 1 (by omega) (by omega)
set_option maxHeartbeats 4000000 in
theorem doF_e {o n k cy t nf ns na nt np : Nat} {T : Sx} {Tb : TC} {kd : Int32} {e : Nat → Int32} (hL : Ly o T) (hn : n < 1000) (hk : k < 40) (hp : PR (V o T) nf ns na nt np) (h54 : V o T 893 54 = nI n) (h53 : V o T 893 53 = nI (k + 1)) (h56 : V o T 893 56 = nI cy) (hkd : kd = 1 ∨ kd = 2) (h31 : V o T 931 0 = kd) (ht : t < nt) (h34 : V o T 934 0 = nI t) (h35 : ∀ q, q < 4 → V o T 935 q = e q) (h36 : kd = 1 → V o T 936 0 = e 4 ∧ V o T 937 0 = e 5 ∧ V o T 938 0 = e 6 ∧ V o T 939 0 = e 7) (hM : MTv (V o T) t Tb) (hV : TV (V o T) na t Tb) (hU : TU Tb) :
    ∃ T1, fMd_doFirst (o + 893) T = some T1 ∧ FD o T T1 n k ∧ V o T1 940 (n % 128) = kd ∧ V o T1 941 (n % 128) = (chg (V o T) t kd e Tb).1 ∧ V o T1 942 (n % 128) = -1 ∧ V o T1 943 (n % 128) = -1 ∧ V o T1 945 (n % 128) = nI cy ∧ MTv (V o T1) t (chg (V o T) t kd e Tb).2 ∧ (∀ c q, (c = 928 ∨ (c = 919 ∧ q ≠ t) ∨ (920 ≤ c ∧ c ≤ 927 ∧ ¬ (20 * t ≤ q ∧ q < 20 * t + 20))) → V o T1 c q = V o T c q) := by
  have b4 := hp.1.2.2.2.1
  have m1 := m128 (show n < 1024 by omega)
  have hpl : n % 128 < 128 := by omega
  generalize hpe : n % 128 = pl at *
  have L2 : Ly o (wI (wI (wI (wI T (o + 940) pl kd) (o + 945) pl (nI cy)) (o + 942) pl (-1)) (o + 943) pl (-1)) := Ly_wI (Ly_wI (Ly_wI (Ly_wI hL)))
  have fr : ∀ c q, ¬ (((940 ≤ c ∧ c ≤ 943) ∨ c = 945) ∧ q = pl) → V o (wI (wI (wI (wI T (o + 940) pl kd) (o + 945) pl (nI cy)) (o + 942) pl (-1)) (o + 943) pl (-1)) c q = V o T c q := by
    intro c q w
    rw [V_wI, V_wI, V_wI, V_wI, u2_n (by omega), u2_n (by omega), u2_n (by omega), u2_n (by omega)]
  have ep : ∀ c q, pc c q → V o (wI (wI (wI (wI T (o + 940) pl kd) (o + 945) pl (nI cy)) (o + 942) pl (-1)) (o + 943) pl (-1)) c q = V o T c q := fun c q w => fr c q (by unfold pc at w; omega)
  have hp2 := PR_cg ep hp
  have hM2 : MTv (V o (wI (wI (wI (wI T (o + 940) pl kd) (o + 945) pl (nI cy)) (o + 942) pl (-1)) (o + 943) pl (-1))) t Tb := by
    obtain ⟨M0, M1, M2⟩ := hM
    refine ⟨M0, by rw [fr _ _ (by omega)]; exact M1, fun i hi q hq hg => ?_⟩
    rw [fr _ _ (by omega)] at hg
    rw [fr _ _ (by omega)]; exact M2 i hi q hq hg
  have hV2 : TV (V o (wI (wI (wI (wI T (o + 940) pl kd) (o + 945) pl (nI cy)) (o + 942) pl (-1)) (o + 943) pl (-1))) na t Tb := TV_cg ep hV
  obtain ⟨f0, X⟩ := MX_of L2 hp2 ht hM2 hV2
  rw [ep (128 + 22 * t) 3 (by unfold pc; omega), ep (128 + 22 * t) 4 (by unfold pc; omega), ep (128 + 22 * t) 6 (by unfold pc; omega), ep (128 + 22 * t) 7 (by unfold pc; omega), ep (128 + 22 * t) 8 (by unfold pc; omega)] at X
  have r54 : sI T (o + 893) 54 = nI n := h54
  have r56 : sI T (o + 893) 56 = nI cy := h56
  have r31 : sI T (o + 931) 0 = kd := h31
  have q34 : sI (wI (wI (wI (wI T (o + 940) pl kd) (o + 945) pl (nI cy)) (o + 942) pl (-1)) (o + 943) pl (-1)) (o + 934) 0 = nI t := by have := fr 934 0 (by omega); rw [h34] at this; exact this
  have q35 : ∀ q, q < 4 → sI (wI (wI (wI (wI T (o + 940) pl kd) (o + 945) pl (nI cy)) (o + 942) pl (-1)) (o + 943) pl (-1)) (o + 935) q = e q := fun q hq => by have := fr 935 q (by omega); rw [h35 q hq] at this; exact this
  have fin : ∀ S4 how, FrM o (wI (wI (wI (wI T (o + 940) pl kd) (o + 945) pl (nI cy)) (o + 942) pl (-1)) (o + 943) pl (-1)) S4 t → how = (chg (V o T) t kd e Tb).1 → MTv (V o S4) t (chg (V o T) t kd e Tb).2 → (fMd_doFirst (o + 893) T = fMd_doFirst_141 (o + 893) (wI S4 (o + 941) pl how)) → ∃ T1, fMd_doFirst (o + 893) T = some T1 ∧ FD o T T1 n k ∧ V o T1 940 pl = kd ∧ V o T1 941 pl = (chg (V o T) t kd e Tb).1 ∧ V o T1 942 pl = -1 ∧ V o T1 943 pl = -1 ∧ V o T1 945 pl = nI cy ∧ MTv (V o T1) t (chg (V o T) t kd e Tb).2 ∧ (∀ c q, (c = 928 ∨ (c = 919 ∧ q ≠ t) ∨ (920 ≤ c ∧ c ≤ 927 ∧ ¬ (20 * t ≤ q ∧ q < 20 * t + 20))) → V o T1 c q = V o T c q) := by
    intro S4 how F hh M eq
    have g4 : ∀ c q, ¬ (c = 919 ∧ q = t) → ¬ (920 ≤ c ∧ c ≤ 927 ∧ 20 * t ≤ q ∧ q < 20 * t + 20) → V o S4 c q = V o (wI (wI (wI (wI T (o + 940) pl kd) (o + 945) pl (nI cy)) (o + 942) pl (-1)) (o + 943) pl (-1)) c q := F.2.2.2
    have g5 : ∀ c q, ¬ (c = 919 ∧ q = t) → ¬ (920 ≤ c ∧ c ≤ 927 ∧ 20 * t ≤ q ∧ q < 20 * t + 20) → ¬ (((940 ≤ c ∧ c ≤ 943) ∨ c = 945) ∧ q = pl) → V o (wI S4 (o + 941) pl how) c q = V o T c q := by
      intro c q w1 w2 w3
      rw [V_wI, u2_n (by omega), g4 c q w1 w2, fr c q w3]
    obtain ⟨T1, e1, D1, X1⟩ := tail_ (o := o) (n := n) (k := k) (T := wI S4 (o + 941) pl how) (T0 := T) hn hk (Ly_wI F.1) (by rw [g5 _ _ (by omega) (by omega) (by omega)]; exact h54) (by rw [g5 _ _ (by omega) (by omega) (by omega)]; exact h53) (by rw [sR_wI, F.2.1]; simp only [sR_wI]) (by rw [sJ_wI, F.2.2.1]; simp only [sJ_wI]) (fun c q w => by unfold dfC at w; exact g5 c q (by omega) (by omega) (by omega)) (fun c q w1 w2 => g5 c q (by omega) (by omega) (by omega))
    refine ⟨T1, eq.trans e1, D1, ?_, ?_, ?_, ?_, ?_, ?_, ?_⟩
    · rw [X1 _ _ (by omega) (by omega), V_wI, u2_n (by omega), g4 _ _ (by omega) (by omega), V_wI, V_wI, V_wI, V_wI, u2_n (by omega), u2_n (by omega), u2_n (by omega), u2_s]
    · rw [X1 _ _ (by omega) (by omega), V_wI, u2_s]; exact hh
    · rw [X1 _ _ (by omega) (by omega), V_wI, u2_n (by omega), g4 _ _ (by omega) (by omega), V_wI, V_wI, u2_n (by omega), u2_s]
    · rw [X1 _ _ (by omega) (by omega), V_wI, u2_n (by omega), g4 _ _ (by omega) (by omega), V_wI, u2_s]
    · rw [X1 _ _ (by omega) (by omega), V_wI, u2_n (by omega), g4 _ _ (by omega) (by omega), V_wI, V_wI, V_wI, u2_n (by omega), u2_n (by omega), u2_s]
    · obtain ⟨M0, M1, M2⟩ := M
      have y : ∀ c q, (c = 908 ∨ (919 ≤ c ∧ c ≤ 927)) → V o T1 c q = V o S4 c q := fun c q w => by rw [X1 c q (by omega) (by omega), V_wI, u2_n (by omega)]
      refine ⟨M0, by rw [y _ _ (by omega)]; exact M1, fun i hi q hq hg => ?_⟩
      rw [y _ _ (by omega)] at hg
      rw [y _ _ (by omega)]; exact M2 i hi q hq hg
    · intro c q w
      rw [X1 c q (by omega) (by omega)]
      exact g5 c q (by omega) (by omega) (by omega)
  rcases hkd with rfl | rfl
  · obtain ⟨k4, k5, k6, k7⟩ := h36 rfl
    have q36 : sI (wI (wI (wI (wI T (o + 940) pl 1) (o + 945) pl (nI cy)) (o + 942) pl (-1)) (o + 943) pl (-1)) (o + 936) 0 = e 4 := by have := fr 936 0 (by omega); rw [k4] at this; exact this
    have q37 : sI (wI (wI (wI (wI T (o + 940) pl 1) (o + 945) pl (nI cy)) (o + 942) pl (-1)) (o + 943) pl (-1)) (o + 937) 0 = e 5 := by have := fr 937 0 (by omega); rw [k5] at this; exact this
    have q38 : sI (wI (wI (wI (wI T (o + 940) pl 1) (o + 945) pl (nI cy)) (o + 942) pl (-1)) (o + 943) pl (-1)) (o + 938) 0 = e 6 := by have := fr 938 0 (by omega); rw [k6] at this; exact this
    have q39 : sI (wI (wI (wI (wI T (o + 940) pl 1) (o + 945) pl (nI cy)) (o + 942) pl (-1)) (o + 943) pl (-1)) (o + 939) 0 = e 7 := by have := fr 939 0 (by omega); rw [k7] at this; exact this
    obtain ⟨S4, e4, F4, M4⟩ := comes_ X hU q34 q35 q36 q37 q38 q39 hM2.2.2
    have L4 := F4.1
    have nle : ¬ (1 : Int32) ≤ 0 := by decide
    unfold chg at fin ⊢
    rw [if_pos rfl] at fin ⊢
    rcases Classical.em (okIn (V o T (128 + 22 * t) 4) (V o T (128 + 22 * t) 7) (V o T (128 + 22 * t) 3) (V o T (128 + 22 * t) 6) (V o T (128 + 22 * t) 8) Tb (ctE (V o T (128 + 22 * t) 3) (V o T (128 + 22 * t) 6) e)) with ok | ok
    · rw [bi_t ok] at e4
      rw [if_pos ok] at M4 fin ⊢
      refine fin S4 0 F4 rfl M4 ?_
      unfold fMd_doFirst fMd_doFirst_67 fMd_doFirst_82
      simp (disch := first | with_reducible assumption | omega | (repeat (first | with_reducible assumption | with_reducible apply Ly_wI | with_reducible apply Ly_nx | with_reducible apply Ly_wJ | with_reducible apply Ly_fl))) only [r54, r31, m1, r56, nle, e4, bd2_mk, i10, ↓reduceIte, rd_s, rd_n, rd_nx, rd_wJ, t00, t10, t20, t30, ↓gI_Mp, ↓pI_Mp, ↓ck_Mp, ↓gI_Pr, ↓pI_Pr, ↓ck_Pr, ↓gI_La, ↓pI_La, ↓pZ_La, ↓ck_La, ↓gI_Li, ↓pI_Li, ↓ck_Li, ↓gI_Ky, ↓pI_Ky, ↓ck_Ky, ↓gI_Rd, ↓pI_Rd, ↓ck_Rd, ↓gI_Tp, ↓pI_Tp, ↓ck_Tp, ↓gI_St, ↓pI_St, ↓ck_St, ↓gI_Ac, ↓pI_Ac, ↓ck_Ac, ↓gI_Ta, ↓pI_Ta, ↓ck_Ta, ↓gI_Sp, ↓pI_Sp, ↓ck_Sp, ↓gI_Op, ↓pI_Op, ↓ck_Op, ↓gI_Oe, ↓pI_Oe, ↓ck_Oe, ↓gI_Ob, ↓pI_Ob, ↓ck_Ob, ↓gI_He, ↓pI_He, ↓pZ_He, ↓ck_He, ↓gI_En, ↓pI_En, ↓ck_En, ↓gI_Md, ↓pI_Md, ↓pZ_Md, ↓ck_Md, ↓gX_Mp0, ↓gX_Mp1, ↓gX_Mp2, ↓gX_Mp3, ↓gX_Mp4, ↓gX_Mp5, ↓gX_Pr0, ↓gX_Pr1, ↓gX_Pr2, ↓gX_Pr3, ↓gX_Pr4, ↓gX_La0, ↓gX_La1, ↓gX_La2, ↓gX_Li0, ↓gX_Li1, ↓gX_Li2, ↓gX_Li3, ↓gX_Li4, ↓gX_Li5, ↓gX_Rd0, ↓gX_Tp0, ↓gX_St0, ↓gX_St1, ↓gX_St2, ↓gX_St3, ↓gX_Ac0, ↓gX_Ac1, ↓gX_Ac2, ↓gX_Ac3, ↓gX_Ta0, ↓gX_Op0, ↓gX_Op1, ↓gX_Ob0, ↓gX_He0, ↓gX_He1, ↓gX_Md8, ↓gX_Md9, ↓gX_Md10, ↓gX_Md11, ↓gX_Md12, ↓gX_Md13, ↓gX_Md14, ↓gX_Md15, ↓gX_Md16, ↓gX_Md17, ↓gX_Md18, ↓gX_Md19, ↓gX_Md20, ↓gX_Md21, ↓gX_Md22, ↓gX_Md23, ↓gX_Md24, ↓gX_Md25, ↓gX_Md26, ↓gX_Md27, ↓gX_Md28, ↓gX_Md29, ↓gX_Md30, ↓gX_Md31, ↓gX_Md32, ↓gX_Md35, ↓gX_Md36, ↓gX_Md37, ↓gX_Md38, ↓gX_Md39, ↓gX_Md40, ↓gX_Md41, ↓gX_Md42, ↓gX_Md43, ↓gX_Md44, ↓gX_Md45, ↓gX_Md46, ↓gX_Md57, ↓gX_Md58, ↓gX_Md59, ↓gX_Md60, ↓gX_Md61, ↓gX_Md62, ↓gX_Md63, ↓gX_Md64, ↓gX_Md65, ↓gX_Md66, ↓gX_Md67, ↓gX_Md68, ↓gX_Md69, ↓gX_Md70, ↓gX_Md71, ↓gX_Md72, ↓gX_Md77, ↓gX_Md78, ↓gX_Md79, ↓aI_w, ↓qI_w, ↓aI_s0, ↓qI_s0, ↓aI_s1, ↓qI_s1, ↓aI_s2, ↓qI_s2, ↓aI_s3, ↓qI_s3, ↓aI_a0, ↓qI_a0, ↓aI_a1, ↓qI_a1, ↓aI_a2, ↓qI_a2, ↓aI_a3, ↓qI_a3, ↓aI_l0, ↓qI_l0, ↓aI_l1, ↓qI_l1, ↓aI_l2, ↓qI_l2, ↓aI_is, ↓qI_is, ↓aI_ar, ↓qI_ar, ↓aI_ob, ↓qI_ob, ↓aI_hw, ↓qI_hw, ↓aI_ho, ↓qI_ho, ↓aI_rd, ↓qI_rd, ↓aI_tp, ↓qI_tp, ↓aI_m1, ↓qI_m1, ↓aI_m2, ↓qI_m2, ↓aI_m3, ↓qI_m3, ↓aI_m4, ↓qI_m4, ↓aI_m5, ↓qI_m5, ↓aI_m6, ↓qI_m6, ↓aI_m7, ↓qI_m7, ↓aI_m8, ↓qI_m8, ↓aI_m9, ↓qI_m9, ↓aI_m10, ↓qI_m10, ↓aI_m11, ↓qI_m11, ↓aI_m12, ↓qI_m12, ↓aI_m13, ↓qI_m13, ↓aI_m14, ↓qI_m14, ↓aI_m15, ↓qI_m15, ↓aI_m16, ↓qI_m16, ↓aI_m17, ↓qI_m17, ↓aI_m18, ↓qI_m18, ↓aI_m19, ↓qI_m19, ↓aI_m20, ↓qI_m20, ↓aI_m21, ↓qI_m21, ↓aI_m22, ↓qI_m22, ↓aI_m23, ↓qI_m23, ↓aI_m24, ↓qI_m24, ↓aI_m25, ↓qI_m25, ↓aI_m26, ↓qI_m26, ↓aI_m27, ↓qI_m27, ↓aI_m28, ↓qI_m28, ↓aI_m29, ↓qI_m29, ↓aI_m30, ↓qI_m30, ↓aI_m31, ↓qI_m31, ↓aI_m32, ↓qI_m32, ↓aI_m33, ↓qI_m33, ↓aI_m34, ↓qI_m34, ↓aI_m35, ↓qI_m35, ↓aI_m36, ↓qI_m36, ↓aI_m37, ↓qI_m37, ↓aI_m38, ↓qI_m38, ↓aI_m39, ↓qI_m39, ↓aI_m40, ↓qI_m40, ↓aI_m41, ↓qI_m41, ↓aI_m42, ↓qI_m42, ↓aI_m43, ↓qI_m43, ↓aI_m44, ↓qI_m44, ↓aI_m45, ↓qI_m45, ↓aI_m46, ↓qI_m46, ↓aI_m47, ↓qI_m47, ↓aI_m48, ↓qI_m48, ↓aI_m49, ↓qI_m49, ↓aI_m50, ↓qI_m50, ↓aI_m51, ↓qI_m51, ↓aI_m52, ↓qI_m52, ↓aI_m54, ↓qI_m54, ↓aI_m55, ↓qI_m55, ↓aZ_m53, ↓qZ_m53, ↓aZ_m56, ↓qZ_m56, ↓aX_3, ↓aX_4, ↓aX_5, ↓aX_6, ↓aX_324, ↓aX_325, ↓ai_0, ↓ai_1, ↓ai_2, ↓ai_3, ↓qi_0, ↓qi_1, ↓qi_2, ↓qi_3, ↓qi_4, ↓ly_qJ, ↓bd2_mk, ↓bdT_0, ↓bdC_0]
    · rw [bi_f ok] at e4
      rw [if_neg ok] at M4 fin ⊢
      refine fin S4 1 F4 rfl M4 ?_
      unfold fMd_doFirst fMd_doFirst_67 fMd_doFirst_82
      simp (disch := first | with_reducible assumption | omega | (repeat (first | with_reducible assumption | with_reducible apply Ly_wI | with_reducible apply Ly_nx | with_reducible apply Ly_wJ | with_reducible apply Ly_fl))) only [r54, r31, m1, r56, nle, e4, bd2_mk, ↓reduceIte, rd_s, rd_n, rd_nx, rd_wJ, t00, t10, t20, t30, ↓gI_Mp, ↓pI_Mp, ↓ck_Mp, ↓gI_Pr, ↓pI_Pr, ↓ck_Pr, ↓gI_La, ↓pI_La, ↓pZ_La, ↓ck_La, ↓gI_Li, ↓pI_Li, ↓ck_Li, ↓gI_Ky, ↓pI_Ky, ↓ck_Ky, ↓gI_Rd, ↓pI_Rd, ↓ck_Rd, ↓gI_Tp, ↓pI_Tp, ↓ck_Tp, ↓gI_St, ↓pI_St, ↓ck_St, ↓gI_Ac, ↓pI_Ac, ↓ck_Ac, ↓gI_Ta, ↓pI_Ta, ↓ck_Ta, ↓gI_Sp, ↓pI_Sp, ↓ck_Sp, ↓gI_Op, ↓pI_Op, ↓ck_Op, ↓gI_Oe, ↓pI_Oe, ↓ck_Oe, ↓gI_Ob, ↓pI_Ob, ↓ck_Ob, ↓gI_He, ↓pI_He, ↓pZ_He, ↓ck_He, ↓gI_En, ↓pI_En, ↓ck_En, ↓gI_Md, ↓pI_Md, ↓pZ_Md, ↓ck_Md, ↓gX_Mp0, ↓gX_Mp1, ↓gX_Mp2, ↓gX_Mp3, ↓gX_Mp4, ↓gX_Mp5, ↓gX_Pr0, ↓gX_Pr1, ↓gX_Pr2, ↓gX_Pr3, ↓gX_Pr4, ↓gX_La0, ↓gX_La1, ↓gX_La2, ↓gX_Li0, ↓gX_Li1, ↓gX_Li2, ↓gX_Li3, ↓gX_Li4, ↓gX_Li5, ↓gX_Rd0, ↓gX_Tp0, ↓gX_St0, ↓gX_St1, ↓gX_St2, ↓gX_St3, ↓gX_Ac0, ↓gX_Ac1, ↓gX_Ac2, ↓gX_Ac3, ↓gX_Ta0, ↓gX_Op0, ↓gX_Op1, ↓gX_Ob0, ↓gX_He0, ↓gX_He1, ↓gX_Md8, ↓gX_Md9, ↓gX_Md10, ↓gX_Md11, ↓gX_Md12, ↓gX_Md13, ↓gX_Md14, ↓gX_Md15, ↓gX_Md16, ↓gX_Md17, ↓gX_Md18, ↓gX_Md19, ↓gX_Md20, ↓gX_Md21, ↓gX_Md22, ↓gX_Md23, ↓gX_Md24, ↓gX_Md25, ↓gX_Md26, ↓gX_Md27, ↓gX_Md28, ↓gX_Md29, ↓gX_Md30, ↓gX_Md31, ↓gX_Md32, ↓gX_Md35, ↓gX_Md36, ↓gX_Md37, ↓gX_Md38, ↓gX_Md39, ↓gX_Md40, ↓gX_Md41, ↓gX_Md42, ↓gX_Md43, ↓gX_Md44, ↓gX_Md45, ↓gX_Md46, ↓gX_Md57, ↓gX_Md58, ↓gX_Md59, ↓gX_Md60, ↓gX_Md61, ↓gX_Md62, ↓gX_Md63, ↓gX_Md64, ↓gX_Md65, ↓gX_Md66, ↓gX_Md67, ↓gX_Md68, ↓gX_Md69, ↓gX_Md70, ↓gX_Md71, ↓gX_Md72, ↓gX_Md77, ↓gX_Md78, ↓gX_Md79, ↓aI_w, ↓qI_w, ↓aI_s0, ↓qI_s0, ↓aI_s1, ↓qI_s1, ↓aI_s2, ↓qI_s2, ↓aI_s3, ↓qI_s3, ↓aI_a0, ↓qI_a0, ↓aI_a1, ↓qI_a1, ↓aI_a2, ↓qI_a2, ↓aI_a3, ↓qI_a3, ↓aI_l0, ↓qI_l0, ↓aI_l1, ↓qI_l1, ↓aI_l2, ↓qI_l2, ↓aI_is, ↓qI_is, ↓aI_ar, ↓qI_ar, ↓aI_ob, ↓qI_ob, ↓aI_hw, ↓qI_hw, ↓aI_ho, ↓qI_ho, ↓aI_rd, ↓qI_rd, ↓aI_tp, ↓qI_tp, ↓aI_m1, ↓qI_m1, ↓aI_m2, ↓qI_m2, ↓aI_m3, ↓qI_m3, ↓aI_m4, ↓qI_m4, ↓aI_m5, ↓qI_m5, ↓aI_m6, ↓qI_m6, ↓aI_m7, ↓qI_m7, ↓aI_m8, ↓qI_m8, ↓aI_m9, ↓qI_m9, ↓aI_m10, ↓qI_m10, ↓aI_m11, ↓qI_m11, ↓aI_m12, ↓qI_m12, ↓aI_m13, ↓qI_m13, ↓aI_m14, ↓qI_m14, ↓aI_m15, ↓qI_m15, ↓aI_m16, ↓qI_m16, ↓aI_m17, ↓qI_m17, ↓aI_m18, ↓qI_m18, ↓aI_m19, ↓qI_m19, ↓aI_m20, ↓qI_m20, ↓aI_m21, ↓qI_m21, ↓aI_m22, ↓qI_m22, ↓aI_m23, ↓qI_m23, ↓aI_m24, ↓qI_m24, ↓aI_m25, ↓qI_m25, ↓aI_m26, ↓qI_m26, ↓aI_m27, ↓qI_m27, ↓aI_m28, ↓qI_m28, ↓aI_m29, ↓qI_m29, ↓aI_m30, ↓qI_m30, ↓aI_m31, ↓qI_m31, ↓aI_m32, ↓qI_m32, ↓aI_m33, ↓qI_m33, ↓aI_m34, ↓qI_m34, ↓aI_m35, ↓qI_m35, ↓aI_m36, ↓qI_m36, ↓aI_m37, ↓qI_m37, ↓aI_m38, ↓qI_m38, ↓aI_m39, ↓qI_m39, ↓aI_m40, ↓qI_m40, ↓aI_m41, ↓qI_m41, ↓aI_m42, ↓qI_m42, ↓aI_m43, ↓qI_m43, ↓aI_m44, ↓qI_m44, ↓aI_m45, ↓qI_m45, ↓aI_m46, ↓qI_m46, ↓aI_m47, ↓qI_m47, ↓aI_m48, ↓qI_m48, ↓aI_m49, ↓qI_m49, ↓aI_m50, ↓qI_m50, ↓aI_m51, ↓qI_m51, ↓aI_m52, ↓qI_m52, ↓aI_m54, ↓qI_m54, ↓aI_m55, ↓qI_m55, ↓aZ_m53, ↓qZ_m53, ↓aZ_m56, ↓qZ_m56, ↓aX_3, ↓aX_4, ↓aX_5, ↓aX_6, ↓aX_324, ↓aX_325, ↓ai_0, ↓ai_1, ↓ai_2, ↓ai_3, ↓qi_0, ↓qi_1, ↓qi_2, ↓qi_3, ↓qi_4, ↓ly_qJ, ↓bd2_mk, ↓bdT_0, ↓bdC_0]
  · obtain ⟨S4, e4, F4, M4⟩ := goes_ X hU q34 q35 hM2.2.2
    have L4 := F4.1
    have nle : ¬ (2 : Int32) ≤ 0 := by decide
    have n21 : ((2 : Int32) = 1) = False := by decide
    unfold chg at fin ⊢
    rw [if_neg (by decide)] at fin ⊢
    cases f : fnd Tb (ctE (V o T (128 + 22 * t) 3) (V o T (128 + 22 * t) 6) e) Tb.1 0 with
    | none =>
      rw [f, bi_f (fun w => w rfl)] at e4
      rw [f] at M4 fin
      refine fin S4 1 F4 rfl M4 ?_
      unfold fMd_doFirst fMd_doFirst_67 fMd_doFirst_82
      simp (disch := first | with_reducible assumption | omega | (repeat (first | with_reducible assumption | with_reducible apply Ly_wI | with_reducible apply Ly_nx | with_reducible apply Ly_wJ | with_reducible apply Ly_fl))) only [r54, r31, m1, r56, nle, n21, e4, bd2_mk, ↓reduceIte, rd_s, rd_n, rd_nx, rd_wJ, t00, t10, t20, t30, ↓gI_Mp, ↓pI_Mp, ↓ck_Mp, ↓gI_Pr, ↓pI_Pr, ↓ck_Pr, ↓gI_La, ↓pI_La, ↓pZ_La, ↓ck_La, ↓gI_Li, ↓pI_Li, ↓ck_Li, ↓gI_Ky, ↓pI_Ky, ↓ck_Ky, ↓gI_Rd, ↓pI_Rd, ↓ck_Rd, ↓gI_Tp, ↓pI_Tp, ↓ck_Tp, ↓gI_St, ↓pI_St, ↓ck_St, ↓gI_Ac, ↓pI_Ac, ↓ck_Ac, ↓gI_Ta, ↓pI_Ta, ↓ck_Ta, ↓gI_Sp, ↓pI_Sp, ↓ck_Sp, ↓gI_Op, ↓pI_Op, ↓ck_Op, ↓gI_Oe, ↓pI_Oe, ↓ck_Oe, ↓gI_Ob, ↓pI_Ob, ↓ck_Ob, ↓gI_He, ↓pI_He, ↓pZ_He, ↓ck_He, ↓gI_En, ↓pI_En, ↓ck_En, ↓gI_Md, ↓pI_Md, ↓pZ_Md, ↓ck_Md, ↓gX_Mp0, ↓gX_Mp1, ↓gX_Mp2, ↓gX_Mp3, ↓gX_Mp4, ↓gX_Mp5, ↓gX_Pr0, ↓gX_Pr1, ↓gX_Pr2, ↓gX_Pr3, ↓gX_Pr4, ↓gX_La0, ↓gX_La1, ↓gX_La2, ↓gX_Li0, ↓gX_Li1, ↓gX_Li2, ↓gX_Li3, ↓gX_Li4, ↓gX_Li5, ↓gX_Rd0, ↓gX_Tp0, ↓gX_St0, ↓gX_St1, ↓gX_St2, ↓gX_St3, ↓gX_Ac0, ↓gX_Ac1, ↓gX_Ac2, ↓gX_Ac3, ↓gX_Ta0, ↓gX_Op0, ↓gX_Op1, ↓gX_Ob0, ↓gX_He0, ↓gX_He1, ↓gX_Md8, ↓gX_Md9, ↓gX_Md10, ↓gX_Md11, ↓gX_Md12, ↓gX_Md13, ↓gX_Md14, ↓gX_Md15, ↓gX_Md16, ↓gX_Md17, ↓gX_Md18, ↓gX_Md19, ↓gX_Md20, ↓gX_Md21, ↓gX_Md22, ↓gX_Md23, ↓gX_Md24, ↓gX_Md25, ↓gX_Md26, ↓gX_Md27, ↓gX_Md28, ↓gX_Md29, ↓gX_Md30, ↓gX_Md31, ↓gX_Md32, ↓gX_Md35, ↓gX_Md36, ↓gX_Md37, ↓gX_Md38, ↓gX_Md39, ↓gX_Md40, ↓gX_Md41, ↓gX_Md42, ↓gX_Md43, ↓gX_Md44, ↓gX_Md45, ↓gX_Md46, ↓gX_Md57, ↓gX_Md58, ↓gX_Md59, ↓gX_Md60, ↓gX_Md61, ↓gX_Md62, ↓gX_Md63, ↓gX_Md64, ↓gX_Md65, ↓gX_Md66, ↓gX_Md67, ↓gX_Md68, ↓gX_Md69, ↓gX_Md70, ↓gX_Md71, ↓gX_Md72, ↓gX_Md77, ↓gX_Md78, ↓gX_Md79, ↓aI_w, ↓qI_w, ↓aI_s0, ↓qI_s0, ↓aI_s1, ↓qI_s1, ↓aI_s2, ↓qI_s2, ↓aI_s3, ↓qI_s3, ↓aI_a0, ↓qI_a0, ↓aI_a1, ↓qI_a1, ↓aI_a2, ↓qI_a2, ↓aI_a3, ↓qI_a3, ↓aI_l0, ↓qI_l0, ↓aI_l1, ↓qI_l1, ↓aI_l2, ↓qI_l2, ↓aI_is, ↓qI_is, ↓aI_ar, ↓qI_ar, ↓aI_ob, ↓qI_ob, ↓aI_hw, ↓qI_hw, ↓aI_ho, ↓qI_ho, ↓aI_rd, ↓qI_rd, ↓aI_tp, ↓qI_tp, ↓aI_m1, ↓qI_m1, ↓aI_m2, ↓qI_m2, ↓aI_m3, ↓qI_m3, ↓aI_m4, ↓qI_m4, ↓aI_m5, ↓qI_m5, ↓aI_m6, ↓qI_m6, ↓aI_m7, ↓qI_m7, ↓aI_m8, ↓qI_m8, ↓aI_m9, ↓qI_m9, ↓aI_m10, ↓qI_m10, ↓aI_m11, ↓qI_m11, ↓aI_m12, ↓qI_m12, ↓aI_m13, ↓qI_m13, ↓aI_m14, ↓qI_m14, ↓aI_m15, ↓qI_m15, ↓aI_m16, ↓qI_m16, ↓aI_m17, ↓qI_m17, ↓aI_m18, ↓qI_m18, ↓aI_m19, ↓qI_m19, ↓aI_m20, ↓qI_m20, ↓aI_m21, ↓qI_m21, ↓aI_m22, ↓qI_m22, ↓aI_m23, ↓qI_m23, ↓aI_m24, ↓qI_m24, ↓aI_m25, ↓qI_m25, ↓aI_m26, ↓qI_m26, ↓aI_m27, ↓qI_m27, ↓aI_m28, ↓qI_m28, ↓aI_m29, ↓qI_m29, ↓aI_m30, ↓qI_m30, ↓aI_m31, ↓qI_m31, ↓aI_m32, ↓qI_m32, ↓aI_m33, ↓qI_m33, ↓aI_m34, ↓qI_m34, ↓aI_m35, ↓qI_m35, ↓aI_m36, ↓qI_m36, ↓aI_m37, ↓qI_m37, ↓aI_m38, ↓qI_m38, ↓aI_m39, ↓qI_m39, ↓aI_m40, ↓qI_m40, ↓aI_m41, ↓qI_m41, ↓aI_m42, ↓qI_m42, ↓aI_m43, ↓qI_m43, ↓aI_m44, ↓qI_m44, ↓aI_m45, ↓qI_m45, ↓aI_m46, ↓qI_m46, ↓aI_m47, ↓qI_m47, ↓aI_m48, ↓qI_m48, ↓aI_m49, ↓qI_m49, ↓aI_m50, ↓qI_m50, ↓aI_m51, ↓qI_m51, ↓aI_m52, ↓qI_m52, ↓aI_m54, ↓qI_m54, ↓aI_m55, ↓qI_m55, ↓aZ_m53, ↓qZ_m53, ↓aZ_m56, ↓qZ_m56, ↓aX_3, ↓aX_4, ↓aX_5, ↓aX_6, ↓aX_324, ↓aX_325, ↓ai_0, ↓ai_1, ↓ai_2, ↓ai_3, ↓qi_0, ↓qi_1, ↓qi_2, ↓qi_3, ↓qi_4, ↓ly_qJ, ↓bd2_mk, ↓bdT_0, ↓bdC_0]
    | some i0 =>
      rw [f, bi_t (show some i0 ≠ none from fun w => by cases w)] at e4
      rw [f] at M4 fin
      refine fin S4 0 F4 rfl M4 ?_
      unfold fMd_doFirst fMd_doFirst_67 fMd_doFirst_82
      simp (disch := first | with_reducible assumption | omega | (repeat (first | with_reducible assumption | with_reducible apply Ly_wI | with_reducible apply Ly_nx | with_reducible apply Ly_wJ | with_reducible apply Ly_fl))) only [r54, r31, m1, r56, nle, n21, e4, bd2_mk, i10, ↓reduceIte, rd_s, rd_n, rd_nx, rd_wJ, t00, t10, t20, t30, ↓gI_Mp, ↓pI_Mp, ↓ck_Mp, ↓gI_Pr, ↓pI_Pr, ↓ck_Pr, ↓gI_La, ↓pI_La, ↓pZ_La, ↓ck_La, ↓gI_Li, ↓pI_Li, ↓ck_Li, ↓gI_Ky, ↓pI_Ky, ↓ck_Ky, ↓gI_Rd, ↓pI_Rd, ↓ck_Rd, ↓gI_Tp, ↓pI_Tp, ↓ck_Tp, ↓gI_St, ↓pI_St, ↓ck_St, ↓gI_Ac, ↓pI_Ac, ↓ck_Ac, ↓gI_Ta, ↓pI_Ta, ↓ck_Ta, ↓gI_Sp, ↓pI_Sp, ↓ck_Sp, ↓gI_Op, ↓pI_Op, ↓ck_Op, ↓gI_Oe, ↓pI_Oe, ↓ck_Oe, ↓gI_Ob, ↓pI_Ob, ↓ck_Ob, ↓gI_He, ↓pI_He, ↓pZ_He, ↓ck_He, ↓gI_En, ↓pI_En, ↓ck_En, ↓gI_Md, ↓pI_Md, ↓pZ_Md, ↓ck_Md, ↓gX_Mp0, ↓gX_Mp1, ↓gX_Mp2, ↓gX_Mp3, ↓gX_Mp4, ↓gX_Mp5, ↓gX_Pr0, ↓gX_Pr1, ↓gX_Pr2, ↓gX_Pr3, ↓gX_Pr4, ↓gX_La0, ↓gX_La1, ↓gX_La2, ↓gX_Li0, ↓gX_Li1, ↓gX_Li2, ↓gX_Li3, ↓gX_Li4, ↓gX_Li5, ↓gX_Rd0, ↓gX_Tp0, ↓gX_St0, ↓gX_St1, ↓gX_St2, ↓gX_St3, ↓gX_Ac0, ↓gX_Ac1, ↓gX_Ac2, ↓gX_Ac3, ↓gX_Ta0, ↓gX_Op0, ↓gX_Op1, ↓gX_Ob0, ↓gX_He0, ↓gX_He1, ↓gX_Md8, ↓gX_Md9, ↓gX_Md10, ↓gX_Md11, ↓gX_Md12, ↓gX_Md13, ↓gX_Md14, ↓gX_Md15, ↓gX_Md16, ↓gX_Md17, ↓gX_Md18, ↓gX_Md19, ↓gX_Md20, ↓gX_Md21, ↓gX_Md22, ↓gX_Md23, ↓gX_Md24, ↓gX_Md25, ↓gX_Md26, ↓gX_Md27, ↓gX_Md28, ↓gX_Md29, ↓gX_Md30, ↓gX_Md31, ↓gX_Md32, ↓gX_Md35, ↓gX_Md36, ↓gX_Md37, ↓gX_Md38, ↓gX_Md39, ↓gX_Md40, ↓gX_Md41, ↓gX_Md42, ↓gX_Md43, ↓gX_Md44, ↓gX_Md45, ↓gX_Md46, ↓gX_Md57, ↓gX_Md58, ↓gX_Md59, ↓gX_Md60, ↓gX_Md61, ↓gX_Md62, ↓gX_Md63, ↓gX_Md64, ↓gX_Md65, ↓gX_Md66, ↓gX_Md67, ↓gX_Md68, ↓gX_Md69, ↓gX_Md70, ↓gX_Md71, ↓gX_Md72, ↓gX_Md77, ↓gX_Md78, ↓gX_Md79, ↓aI_w, ↓qI_w, ↓aI_s0, ↓qI_s0, ↓aI_s1, ↓qI_s1, ↓aI_s2, ↓qI_s2, ↓aI_s3, ↓qI_s3, ↓aI_a0, ↓qI_a0, ↓aI_a1, ↓qI_a1, ↓aI_a2, ↓qI_a2, ↓aI_a3, ↓qI_a3, ↓aI_l0, ↓qI_l0, ↓aI_l1, ↓qI_l1, ↓aI_l2, ↓qI_l2, ↓aI_is, ↓qI_is, ↓aI_ar, ↓qI_ar, ↓aI_ob, ↓qI_ob, ↓aI_hw, ↓qI_hw, ↓aI_ho, ↓qI_ho, ↓aI_rd, ↓qI_rd, ↓aI_tp, ↓qI_tp, ↓aI_m1, ↓qI_m1, ↓aI_m2, ↓qI_m2, ↓aI_m3, ↓qI_m3, ↓aI_m4, ↓qI_m4, ↓aI_m5, ↓qI_m5, ↓aI_m6, ↓qI_m6, ↓aI_m7, ↓qI_m7, ↓aI_m8, ↓qI_m8, ↓aI_m9, ↓qI_m9, ↓aI_m10, ↓qI_m10, ↓aI_m11, ↓qI_m11, ↓aI_m12, ↓qI_m12, ↓aI_m13, ↓qI_m13, ↓aI_m14, ↓qI_m14, ↓aI_m15, ↓qI_m15, ↓aI_m16, ↓qI_m16, ↓aI_m17, ↓qI_m17, ↓aI_m18, ↓qI_m18, ↓aI_m19, ↓qI_m19, ↓aI_m20, ↓qI_m20, ↓aI_m21, ↓qI_m21, ↓aI_m22, ↓qI_m22, ↓aI_m23, ↓qI_m23, ↓aI_m24, ↓qI_m24, ↓aI_m25, ↓qI_m25, ↓aI_m26, ↓qI_m26, ↓aI_m27, ↓qI_m27, ↓aI_m28, ↓qI_m28, ↓aI_m29, ↓qI_m29, ↓aI_m30, ↓qI_m30, ↓aI_m31, ↓qI_m31, ↓aI_m32, ↓qI_m32, ↓aI_m33, ↓qI_m33, ↓aI_m34, ↓qI_m34, ↓aI_m35, ↓qI_m35, ↓aI_m36, ↓qI_m36, ↓aI_m37, ↓qI_m37, ↓aI_m38, ↓qI_m38, ↓aI_m39, ↓qI_m39, ↓aI_m40, ↓qI_m40, ↓aI_m41, ↓qI_m41, ↓aI_m42, ↓qI_m42, ↓aI_m43, ↓qI_m43, ↓aI_m44, ↓qI_m44, ↓aI_m45, ↓qI_m45, ↓aI_m46, ↓qI_m46, ↓aI_m47, ↓qI_m47, ↓aI_m48, ↓qI_m48, ↓aI_m49, ↓qI_m49, ↓aI_m50, ↓qI_m50, ↓aI_m51, ↓qI_m51, ↓aI_m52, ↓qI_m52, ↓aI_m54, ↓qI_m54, ↓aI_m55, ↓qI_m55, ↓aZ_m53, ↓qZ_m53, ↓aZ_m56, ↓qZ_m56, ↓aX_3, ↓aX_4, ↓aX_5, ↓aX_6, ↓aX_324, ↓aX_325, ↓ai_0, ↓ai_1, ↓ai_2, ↓ai_3, ↓qi_0, ↓qi_1, ↓qi_2, ↓qi_3, ↓qi_4, ↓ly_qJ, ↓bd2_mk, ↓bdT_0, ↓bdC_0]
