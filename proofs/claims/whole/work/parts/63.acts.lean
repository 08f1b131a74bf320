/-! WHAT AN ACTION DOES, in class and reference -/
/-- memory after a piece of the program: laid out as before, references and longs untouched, the ints as told -/
def Ef (o : Nat) (S S' : Sx) (v : Nat → Nat → Int32) : Prop := Ly o S' ∧ sR S' = sR S ∧ sJ S' = sJ S ∧ V o S' = v
theorem Ef_tr {o : Nat} {S S1 S2 : Sx} {v v' : Nat → Nat → Int32} (h : Ef o S S1 v) (h2 : Ef o S1 S2 v') : Ef o S S2 v' := ⟨h2.1, h2.2.1.trans h.2.1, h2.2.2.1.trans h.2.2.1, h2.2.2.2⟩
theorem Ef_wI {o c k : Nat} {x : Int32} {S S1 : Sx} {v : Nat → Nat → Int32} (h : Ef o S S1 v) : Ef o S (wI S1 (o + c) k x) (u2 v c k x) :=
  ⟨Ly_wI h.1, by rw [sR_wI]; exact h.2.1, by rw [sJ_wI]; exact h.2.2.1, by rw [V_wI, h.2.2.2]⟩
theorem Ef_id {o : Nat} {S : Sx} (h : Ly o S) : Ef o S S (V o S) := ⟨h, rfl, rfl, rfl⟩
theorem Ef_v {o : Nat} {S S1 : Sx} {v v' : Nat → Nat → Int32} (h : Ef o S S1 v) (e : v = v') : Ef o S S1 v' := e ▸ h
abbrev cl (x : Int32) : Nat := x.toNatClampNeg
def HS : Type := (Nat → Int32) × Int32 × Int32 × (Nat → Int32)
def HS.w (s : HS) : Nat → Int32 := s.1
def HS.po (s : HS) : Int32 := s.2.1
def HS.dr (s : HS) : Int32 := s.2.2.1
def HS.ar (s : HS) : Nat → Int32 := s.2.2.2
def HS.sw (s : HS) (x : Nat → Int32) : HS := (x, s.2)
def HS.sp (s : HS) (x : Int32) : HS := (s.1, x, s.2.2)
def HS.sd (s : HS) (x : Int32) : HS := (s.1, s.2.1, x, s.2.2.2)
def HS.sa (s : HS) (x : Nat → Int32) : HS := (s.1, s.2.1, s.2.2.1, x)
def up (f : Nat → Int32) (k : Nat) (x : Int32) : Nat → Int32 := fun j => if j = k then x else f j
theorem up_s {f : Nat → Int32} {k : Nat} {x : Int32} : up f k x k = x := if_pos rfl
theorem up_n {f : Nat → Int32} {k j : Nat} {x : Int32} (h : j ≠ k) : up f k x j = f j := if_neg h
def lo4 (i : Int32) : Nat := cl (i &&& 15)
theorem lo4_ {i : Int32} : (i &&& 15) = nI (lo4 i) ∧ lo4 i < 16 := by
  have h : vF 16 (i &&& 15) := by
    refine ⟨(i &&& 15).toBitVec.toNat, ?_, ?_⟩
    · show (i.toBitVec &&& 15#32).toNat < 16
      rw [BitVec.toNat_and]
      exact Nat.lt_of_le_of_lt Nat.and_le_right (by decide)
    · apply Int32.toBitVec_inj.mp
      show _ = BitVec.ofNat 32 _
      rw [BitVec.ofNat_toNat, BitVec.setWidth_eq]
  obtain ⟨j, h1, h2⟩ := h
  unfold lo4 cl
  rw [h2, nI_clamp (by omega)]
  exact ⟨rfl, h1⟩
theorem wix {a : Nat} {i : Int32} : nI a * 16 + (i &&& 15) = nI (16 * a + lo4 i) := by
  rw [lo4_.1, show (16 : Int32) = nI 16 from rfl, pk_mul, nI_add, Nat.mul_comm]
theorem wix2 {a : Nat} {i : Int32} : (16 : Int32) * nI a + (i &&& 15) = nI (16 * a + lo4 i) := by
  rw [lo4_.1, show (16 : Int32) = nI 16 from rfl, pk_mul, nI_add]
/-- one doing -/
def dg (on : Nat → Int32) (kd x y z d0 d1 : Int32) (s : HS) : HS :=
  if kd = 0 then (s.sw (up s.w (cl x) (y &&& on (cl x))))
  else if kd = 1 then (s.sw (up s.w (cl x) (s.w (cl y) &&& on (cl x))))
  else if kd = 2 then (s.sw (up s.w (cl x) ((s.w (cl x) + s.w (cl y) + z) &&& on (cl x))))
  else if kd = 3 then (s.sw (up s.w (cl x) ((if y = 0 then d0 else d1) &&& on (cl x))))
  else if kd = 4 then (s.sp (y))
  else if kd = 5 then (s.sp (if y = 0 then d0 else d1))
  else if kd = 6 then (s.sd (1))
  else if kd = 7 then (s.sa (up s.ar (16 * cl x + lo4 (s.w (cl y))) (s.ar (16 * cl x + lo4 (s.w (cl y))) + z)))
  else (s.sw (up s.w (cl x) (s.ar (16 * cl z + lo4 (s.w (cl y))) &&& on (cl x))))
def onv (v : Nat → Nat → Int32) (f : Nat) : Int32 := onesOf (v 3 f)
/-- m doings of action a, from the k-th on -/
def acts (v : Nat → Nat → Int32) (d0 d1 : Int32) (a : Nat) : Nat → Nat → HS → HS
  | 0, _, s => s
  | m + 1, k, s => acts v d0 d1 a m (k + 1) (dg (onv v) (v 903 (4 * a + k)) (v 904 (4 * a + k)) (v 905 (4 * a + k)) (v 906 (4 * a + k)) d0 d1 s)
/-- the class's header h and arrays -/
def pH (v : Nat → Nat → Int32) (h : Nat) (s : HS) : Nat → Nat → Int32 := fun c k => if c = 841 + 3 * h then s.w k else if c = 840 + 3 * h ∧ k = 6 then s.po else if c = 840 + 3 * h ∧ k = 7 then s.dr else if c = 327 then s.ar k else v c k
theorem pH_w {v : Nat → Nat → Int32} {h k : Nat} {s : HS} : pH v h s (841 + 3 * h) k = s.w k := if_pos rfl
theorem pH_a {v : Nat → Nat → Int32} {h k : Nat} {s : HS} : pH v h s 327 k = s.ar k := by unfold pH; rw [if_neg (by omega), if_neg (by omega), if_neg (by omega), if_pos rfl]
theorem pH_n {v : Nat → Nat → Int32} {h c k : Nat} {s : HS} (hc : c ≠ 841 + 3 * h ∧ c ≠ 327 ∧ (c ≠ 840 + 3 * h ∨ (k ≠ 6 ∧ k ≠ 7))) : pH v h s c k = v c k := by unfold pH; rw [if_neg (by omega), if_neg (by omega), if_neg (by omega), if_neg (by omega)]
theorem u2_pHw {v : Nat → Nat → Int32} {h j : Nat} {x : Int32} {s : HS} : u2 (pH v h s) (841 + 3 * h) j x = pH v h (s.sw (up s.w j x)) := by
  funext c k
  unfold u2 pH up
  by_cases e : c = 841 + 3 * h
  · rw [if_pos e, if_pos e]
    by_cases e2 : k = j
    · rw [if_pos ⟨e, e2⟩]; exact (if_pos e2).symm
    · rw [if_neg (fun q => e2 q.2)]; exact (if_neg e2).symm
  · rw [if_neg (fun q => e q.1), if_neg e, if_neg e]; rfl
theorem u2_pHa {v : Nat → Nat → Int32} {h j : Nat} {x : Int32} {s : HS} : u2 (pH v h s) 327 j x = pH v h (s.sa (up s.ar j x)) := by
  funext c k
  unfold u2 pH up
  by_cases e : c = 327
  · rw [if_neg (show ¬ c = 841 + 3 * h by omega), if_neg (show ¬ (c = 840 + 3 * h ∧ k = 6) by omega), if_neg (show ¬ (c = 840 + 3 * h ∧ k = 7) by omega), if_pos e]
    rw [if_neg (show ¬ c = 841 + 3 * h by omega), if_neg (show ¬ (c = 840 + 3 * h ∧ k = 6) by omega), if_neg (show ¬ (c = 840 + 3 * h ∧ k = 7) by omega), if_pos e]
    by_cases e2 : k = j
    · rw [if_pos ⟨e, e2⟩]; exact (if_pos e2).symm
    · rw [if_neg (fun q => e2 q.2)]; exact (if_neg e2).symm
  · rw [if_neg (fun q => e q.1), if_neg e, if_neg e]; rfl
theorem u2_pHp {v : Nat → Nat → Int32} {h : Nat} {x : Int32} {s : HS} : u2 (pH v h s) (840 + 3 * h) 6 x = pH v h (s.sp (x)) := by
  funext c k
  unfold u2 pH
  by_cases e : c = 840 + 3 * h ∧ k = 6
  · rw [if_pos e, if_neg (show ¬ c = 841 + 3 * h by omega), if_pos e]; rfl
  · rw [if_neg e, if_neg e, if_neg e]; rfl
theorem u2_pHd {v : Nat → Nat → Int32} {h : Nat} {x : Int32} {s : HS} : u2 (pH v h s) (840 + 3 * h) 7 x = pH v h (s.sd (x)) := by
  funext c k
  unfold u2 pH
  by_cases e : c = 840 + 3 * h ∧ k = 7
  · rw [if_pos e, if_neg (show ¬ c = 841 + 3 * h by omega), if_neg (show ¬ (c = 840 + 3 * h ∧ k = 6) by omega), if_pos e]; rfl
  · rw [if_neg e, if_neg e, if_neg e]; rfl
/-- what an entry brings -/
def dt (o : Nat) (v : Nat → Nat → Int32) (e : Option Nat) (d0 d1 : Int32) : Prop := (e = none ∧ d0 = 0 ∧ d1 = 0) ∨ ∃ t j, t < 8 ∧ j < 20 ∧ e = some (o + (130 + 22 * t + j)) ∧ v (130 + 22 * t + j) 6 = d0 ∧ v (130 + 22 * t + j) 7 = d1
theorem datum_ {o : Nat} {S : Sx} {e : Option Nat} {d0 d1 y : Int32} (h : Ly o S) (hd : dt o (V o S) e d0 d1) : fHe_datum e y S = some (if y = 0 then d0 else d1, S) := by
  unfold fHe_datum oM
  rcases hd with ⟨rfl, rfl, rfl⟩ | ⟨t, j, h1, h2, rfl, rfl, rfl⟩
  · simp only [ite_self]
  · simp (disch := first | with_reducible assumption | omega | (repeat (first | with_reducible assumption | with_reducible apply Ly_wI | with_reducible apply Ly_nx | with_reducible apply Ly_wJ | with_reducible apply Ly_fl))) only [↓reduceIte, rd_s, rd_n, rd_nx, rd_wJ, t00, t10, t20, t30, ↓gI_Mp, ↓pI_Mp, ↓ck_Mp, ↓gI_Pr, ↓pI_Pr, ↓ck_Pr, ↓gI_La, ↓pI_La, ↓pZ_La, ↓ck_La, ↓gI_Li, ↓pI_Li, ↓ck_Li, ↓gI_Ky, ↓pI_Ky, ↓ck_Ky, ↓gI_Rd, ↓pI_Rd, ↓ck_Rd, ↓gI_Tp, ↓pI_Tp, ↓ck_Tp, ↓gI_St, ↓pI_St, ↓ck_St, ↓gI_Ac, ↓pI_Ac, ↓ck_Ac, ↓gI_Ta, ↓pI_Ta, ↓ck_Ta, ↓gI_Sp, ↓pI_Sp, ↓ck_Sp, ↓gI_Op, ↓pI_Op, ↓ck_Op, ↓gI_Oe, ↓pI_Oe, ↓ck_Oe, ↓gI_Ob, ↓pI_Ob, ↓ck_Ob, ↓gI_He, ↓pI_He, ↓pZ_He, ↓ck_He, ↓gI_En, ↓pI_En, ↓ck_En, ↓gI_Md, ↓pI_Md, ↓pZ_Md, ↓ck_Md, ↓gX_Mp0, ↓gX_Mp1, ↓gX_Mp2, ↓gX_Mp3, ↓gX_Mp4, ↓gX_Mp5, ↓gX_Pr0, ↓gX_Pr1, ↓gX_Pr2, ↓gX_Pr3, ↓gX_Pr4, ↓gX_La0, ↓gX_La1, ↓gX_La2, ↓gX_Li0, ↓gX_Li1, ↓gX_Li2, ↓gX_Li3, ↓gX_Li4, ↓gX_Li5, ↓gX_Rd0, ↓gX_Tp0, ↓gX_St0, ↓gX_St1, ↓gX_St2, ↓gX_St3, ↓gX_Ac0, ↓gX_Ac1, ↓gX_Ac2, ↓gX_Ac3, ↓gX_Ta0, ↓gX_Op0, ↓gX_Op1, ↓gX_Ob0, ↓gX_He0, ↓gX_He1, ↓gX_Md8, ↓gX_Md9, ↓gX_Md10, ↓gX_Md11, ↓gX_Md12, ↓gX_Md13, ↓gX_Md14, ↓gX_Md15, ↓gX_Md16, ↓gX_Md17, ↓gX_Md18, ↓gX_Md19, ↓gX_Md20, ↓gX_Md21, ↓gX_Md22, ↓gX_Md23, ↓gX_Md24, ↓gX_Md25, ↓gX_Md26, ↓gX_Md27, ↓gX_Md28, ↓gX_Md29, ↓gX_Md30, ↓gX_Md31, ↓gX_Md32, ↓gX_Md35, ↓gX_Md36, ↓gX_Md37, ↓gX_Md38, ↓gX_Md39, ↓gX_Md40, ↓gX_Md41, ↓gX_Md42, ↓gX_Md43, ↓gX_Md44, ↓gX_Md45, ↓gX_Md46, ↓gX_Md57, ↓gX_Md58, ↓gX_Md59, ↓gX_Md60, ↓gX_Md61, ↓gX_Md62, ↓gX_Md63, ↓gX_Md64, ↓gX_Md65, ↓gX_Md66, ↓gX_Md67, ↓gX_Md68, ↓gX_Md69, ↓gX_Md70, ↓gX_Md71, ↓gX_Md72, ↓gX_Md77, ↓gX_Md78, ↓gX_Md79, ↓aI_w, ↓qI_w, ↓aI_s0, ↓qI_s0, ↓aI_s1, ↓qI_s1, ↓aI_s2, ↓qI_s2, ↓aI_s3, ↓qI_s3, ↓aI_a0, ↓qI_a0, ↓aI_a1, ↓qI_a1, ↓aI_a2, ↓qI_a2, ↓aI_a3, ↓qI_a3, ↓aI_l0, ↓qI_l0, ↓aI_l1, ↓qI_l1, ↓aI_l2, ↓qI_l2, ↓aI_is, ↓qI_is, ↓aI_ar, ↓qI_ar, ↓aI_ob, ↓qI_ob, ↓aI_hw, ↓qI_hw, ↓aI_ho, ↓qI_ho, ↓aI_rd, ↓qI_rd, ↓aI_tp, ↓qI_tp, ↓aI_m1, ↓qI_m1, ↓aI_m2, ↓qI_m2, ↓aI_m3, ↓qI_m3, ↓aI_m4, ↓qI_m4, ↓aI_m5, ↓qI_m5, ↓aI_m6, ↓qI_m6, ↓aI_m7, ↓qI_m7, ↓aI_m8, ↓qI_m8, ↓aI_m9, ↓qI_m9, ↓aI_m10, ↓qI_m10, ↓aI_m11, ↓qI_m11, ↓aI_m12, ↓qI_m12, ↓aI_m13, ↓qI_m13, ↓aI_m14, ↓qI_m14, ↓aI_m15, ↓qI_m15, ↓aI_m16, ↓qI_m16, ↓aI_m17, ↓qI_m17, ↓aI_m18, ↓qI_m18, ↓aI_m19, ↓qI_m19, ↓aI_m20, ↓qI_m20, ↓aI_m21, ↓qI_m21, ↓aI_m22, ↓qI_m22, ↓aI_m23, ↓qI_m23, ↓aI_m24, ↓qI_m24, ↓aI_m25, ↓qI_m25, ↓aI_m26, ↓qI_m26, ↓aI_m27, ↓qI_m27, ↓aI_m28, ↓qI_m28, ↓aI_m29, ↓qI_m29, ↓aI_m30, ↓qI_m30, ↓aI_m31, ↓qI_m31, ↓aI_m32, ↓qI_m32, ↓aI_m33, ↓qI_m33, ↓aI_m34, ↓qI_m34, ↓aI_m35, ↓qI_m35, ↓aI_m36, ↓qI_m36, ↓aI_m37, ↓qI_m37, ↓aI_m38, ↓qI_m38, ↓aI_m39, ↓qI_m39, ↓aI_m40, ↓qI_m40, ↓aI_m41, ↓qI_m41, ↓aI_m42, ↓qI_m42, ↓aI_m43, ↓qI_m43, ↓aI_m44, ↓qI_m44, ↓aI_m45, ↓qI_m45, ↓aI_m46, ↓qI_m46, ↓aI_m47, ↓qI_m47, ↓aI_m48, ↓qI_m48, ↓aI_m49, ↓qI_m49, ↓aI_m50, ↓qI_m50, ↓aI_m51, ↓qI_m51, ↓aI_m52, ↓qI_m52, ↓aI_m54, ↓qI_m54, ↓aI_m55, ↓qI_m55, ↓aZ_m53, ↓qZ_m53, ↓aZ_m56, ↓qZ_m56, ↓aX_3, ↓aX_4, ↓aX_5, ↓aX_6, ↓aX_324, ↓aX_325, ↓ai_0, ↓ai_1, ↓ai_2, ↓ai_3, ↓qi_0, ↓qi_1, ↓qi_2, ↓qi_3, ↓qi_4, ↓ly_qJ, ↓bd2_mk, ↓bdT_0, ↓bdC_0]
    split
    · rfl
    · rfl
theorem word_ {x y : Int32} {S : Sx} : fHe_wordOf x y S = some (x * 16 + (y &&& 15), S) := rfl
theorem onz {o j : Nat} {S : Sx} {u : Nat → Nat → Int32} (h : Ly o S) (hS : ∀ c k, sI S (o + c) k = u c k) (hj : j < 16) : fPr_ones (o + 2) (nI j) S = some (onv u j, S) := by
  rw [ons h hj, hS]; rfl
theorem onv_pH {v : Nat → Nat → Int32} {h j : Nat} {s : HS} : onv (pH v h s) j = onv v j := by unfold onv; rw [pH_n (by omega)]
theorem cl_n {j : Nat} (h : j < 2 ^ 31) : cl (nI j) = j := nI_clamp h
