/-! THE LAYOUT, AND RULES THAT READ A PROGRAM OVER IT -/
def isRow (c : Nat) : Prop := 128 ≤ c ∧ c < 304 ∧ (c - 128) % 22 = 1
/-- rows of table t stand in some order -/
def rwOK (o : Nat) (S : Sx) (t : Nat) (q : Nat → Nat) : Prop := (∀ j, j < 20 → q j < 20 ∧ sR S (o + (129 + 22 * t)) j = some (o + (130 + 22 * t + q j))) ∧ ∀ j k, j < 20 → k < 20 → q j = q k → j = k
def Ly (o : Nat) (S : Sx) : Prop := o + 951 ≤ sZ S ∧ (∀ c, c < 951 → sK S (o + c) = some (kt c)) ∧ (∀ c k v, c < 951 → ¬ isRow c → rto c k = some v → sR S (o + c) k = some (o + v)) ∧ ∀ t, t < 8 → ∃ q, rwOK o S t q
theorem Ly_wI {o a k : Nat} {v : Int32} {S : Sx} (h : Ly o S) : Ly o (wI S a k v) := h
theorem Ly_wJ {o a k : Nat} {v : Int64} {S : Sx} (h : Ly o S) : Ly o (wJ S a k v) := h
theorem Ly_fl {o a i n : Nat} {v : Int32} {S : Sx} (h : Ly o S) : Ly o (flR S a i n v) := h
theorem Ly_nx {o : Nat} {S : Sx} (h : Ly o S) : Ly o (nx S) := by
  obtain ⟨h1, h2, h3, h4⟩ := h
  refine ⟨Nat.le_succ_of_le h1, ?_, h3, h4⟩
  intro c hc
  show va_up S.1 S.2.2.2.2 none (o + c) = _
  have h1' : o + 951 ≤ S.2.2.2.2 := h1
  rw [va_up_ne _ _ (by omega)]
  exact h2 c hc
theorem Ly_bd {o : Nat} {S : Sx} (h : Bd o 951 (fun _ _ => False) (fun _ _ => False) S) : Ly o S := by
  obtain ⟨h1, h2, h3, _, _⟩ := h
  refine ⟨by omega, h2, fun c k v hc _ hr => h3 c k v hc hr id, fun t ht => ⟨id, ?_, fun j k _ _ e => e⟩⟩
  intro j hj
  refine ⟨hj, ?_⟩
  obtain ⟨_, _, _, _, h5⟩ := kt_Ta t ht
  have := h3 (128 + 22 * t + 1) j _ (by omega) (h5 j hj).2 id
  rw [show o + (129 + 22 * t) = o + (128 + 22 * t + 1) from by omega, this]
  congr 1
  show o + _ = o + (130 + 22 * t + j)
  omega
theorem ly_kd {o c kd len : Nat} {S : Sx} (h : Ly o S) (hc : c < 951) (hk : kt c = (kd, len)) : kdOf S (o + c) = some kd := by
  unfold kdOf; rw [h.2.1 c hc, hk]; rfl
theorem ly_gI {β : Type} {o c kd len k : Nat} {S : Sx} {f : Int32 → Option β} (h : Ly o S) (hc : c < 951) (hk : kt c = (kd, len)) : (gI S kd k (o + c)).bind f = f (sI S (o + c) k) := by
  unfold gI; rw [if_pos (ly_kd h hc hk)]; rfl
theorem ly_pI {β : Type} {o c kd len k : Nat} {v : Int32} {S : Sx} {f : Sx → Option β} (h : Ly o S) (hc : c < 951) (hk : kt c = (kd, len)) : (pI S kd k (o + c) v).bind f = f (wI S (o + c) k v) := by
  unfold pI; rw [if_pos (ly_kd h hc hk)]; rfl
theorem ly_pZ {β : Type} {o c kd len k : Nat} {v : Int32} {S : Sx} {f : Sx → Option β} (h : Ly o S) (hc : c < 951) (hk : kt c = (kd, len)) (hv : v = 0 ∨ v = 1) : (pZ S kd k (o + c) v).bind f = f (wI S (o + c) k v) := by
  unfold pZ; rw [if_pos ⟨ly_kd h hc hk, hv⟩]; rfl
theorem ly_ck {β : Type} {o c kd len : Nat} {S : Sx} {f : Unit → Option β} (h : Ly o S) (hc : c < 951) (hk : kt c = (kd, len)) : (ckd S (o + c) kd).bind f = f () := by
  unfold ckd; rw [if_pos (ly_kd h hc hk)]; rfl
theorem ly_gX {β : Type} {o c kd len k v : Nat} {S : Sx} {f : Nat → Option β} (h : Ly o S) (hc : c < 951) (hk : kt c = (kd, len)) (hr : rto c k = some v) (hn : ¬ isRow c) : (gX S kd k (o + c)).bind f = f (o + v) := by
  unfold gX; rw [if_pos (ly_kd h hc hk), h.2.2.1 c k v hc hn hr]; rfl
theorem ly_ok {o c kd len j : Nat} {S : Sx} (h : Ly o S) (hc : c < 951) (hk : kt c = (kd, len)) (hj : j < len) (hl : len < 10000) : aOK S kd (o + c) (nI j) = true := aOK_nI (n := len) (by rw [h.2.1 c hc, hk]) hj (by omega)
theorem ly_aI {β : Type} {o c len j : Nat} {S : Sx} {f : Int32 → Option β} (h : Ly o S) (hc : c < 951) (hk : kt c = (100, len)) (hj : j < len) (hl : len < 10000) : (aI S (o + c) (nI j)).bind f = f (sI S (o + c) j) := by
  unfold aI; rw [if_pos (ly_ok h hc hk hj hl), nI_clamp (by omega)]; rfl
theorem ly_aZ {β : Type} {o c len j : Nat} {S : Sx} {f : Int32 → Option β} (h : Ly o S) (hc : c < 951) (hk : kt c = (101, len)) (hj : j < len) (hl : len < 10000) : (aZ S (o + c) (nI j)).bind f = f (sI S (o + c) j) := by
  unfold aZ; rw [if_pos (ly_ok h hc hk hj hl), nI_clamp (by omega)]; rfl
theorem ly_qI {β : Type} {o c len j : Nat} {v : Int32} {S : Sx} {f : Sx → Option β} (h : Ly o S) (hc : c < 951) (hk : kt c = (100, len)) (hj : j < len) (hl : len < 10000) : (qI S (o + c) (nI j) v).bind f = f (wI S (o + c) j v) := by
  unfold qI; rw [if_pos (ly_ok h hc hk hj hl), nI_clamp (by omega)]; rfl
theorem ly_qZ {β : Type} {o c len j : Nat} {v : Int32} {S : Sx} {f : Sx → Option β} (h : Ly o S) (hc : c < 951) (hk : kt c = (101, len)) (hj : j < len) (hl : len < 10000) (hv : v = 0 ∨ v = 1) : (qZ S (o + c) (nI j) v).bind f = f (wI S (o + c) j v) := by
  unfold qZ; rw [if_pos ⟨ly_ok h hc hk hj hl, hv⟩, nI_clamp (by omega)]; rfl
theorem ly_aX {β : Type} {o c kd len j v : Nat} {S : Sx} {f : Nat → Option β} (h : Ly o S) (hc : c < 951) (hk : kt c = (200 + kd, len)) (hj : j < len) (hl : len < 10000) (hr : rto c j = some v) (hn : ¬ isRow c) : (aX S kd (o + c) (nI j)).bind f = f (o + v) := by
  unfold aX; rw [if_pos (ly_ok h hc hk hj hl), nI_clamp (by omega), h.2.2.1 c j v hc hn hr]; rfl
theorem ly_qJ {β : Type} {o : Nat} {v : Int64} {S : Sx} {f : Sx → Option β} (h : Ly o S) : (qJ S (o + 950) 0 v).bind f = f (wJ S (o + 950) 0 v) := by
  unfold qJ
  have := ly_ok (j := 0) h (c := 950) (kd := 102) (len := 1) (by omega) (by decide) (by omega) (by omega)
  rw [show (nI 0) = 0 from rfl] at this
  rw [if_pos this, show (0 : Int32).toNatClampNeg = 0 from by decide]; rfl
theorem rd_sJ {a k : Nat} {v : Int64} {S : Sx} : sJ (wJ S a k v) a k = v := by show u2 S.2.2.2.1 a k v a k = v; unfold u2; rw [if_pos ⟨rfl, rfl⟩]
theorem ly_aJ {o : Nat} {v : Int64} {S : Sx} (h : Ly o S) : aJ (wJ S (o + 950) 0 v) (o + 950) 0 = some v := by
  unfold aJ
  have := ly_ok (j := 0) (Ly_wJ (a := o + 950) (k := 0) (v := v) h) (c := 950) (kd := 102) (len := 1) (by omega) (by decide) (by omega) (by omega)
  rw [show (nI 0) = 0 from rfl] at this
  rw [if_pos this, show (0 : Int32).toNatClampNeg = 0 from by decide]
  rw [rd_sJ]
theorem ai_0 {S : Sx} {a : Nat} : aI S a 0 = aI S a (nI 0) := rfl
theorem ai_1 {S : Sx} {a : Nat} : aI S a 1 = aI S a (nI 1) := rfl
theorem ai_2 {S : Sx} {a : Nat} : aI S a 2 = aI S a (nI 2) := rfl
theorem ai_3 {S : Sx} {a : Nat} : aI S a 3 = aI S a (nI 3) := rfl
theorem qi_0 {S : Sx} {a : Nat} {v : Int32} : qI S a 0 v = qI S a (nI 0) v := rfl
theorem qi_1 {S : Sx} {a : Nat} {v : Int32} : qI S a 1 v = qI S a (nI 1) v := rfl
theorem qi_2 {S : Sx} {a : Nat} {v : Int32} : qI S a 2 v = qI S a (nI 2) v := rfl
theorem qi_3 {S : Sx} {a : Nat} {v : Int32} : qI S a 3 v = qI S a (nI 3) v := rfl
theorem qi_4 {S : Sx} {a : Nat} {v : Int32} : qI S a 4 v = qI S a (nI 4) v := rfl
theorem rd_s {a k : Nat} {v : Int32} {S : Sx} : sI (wI S a k v) a k = v := by show u2 S.2.1 a k v a k = v; unfold u2; rw [if_pos ⟨rfl, rfl⟩]
theorem rd_n {a k b j : Nat} {v : Int32} {S : Sx} (h : b ≠ a ∨ j ≠ k) : sI (wI S a k v) b j = sI S b j := by show u2 S.2.1 a k v b j = S.2.1 b j; unfold u2; rw [if_neg (by omega)]
theorem rd_nx {S : Sx} : sI (nx S) = sI S := rfl
theorem rd_wJ {S : Sx} {a k : Nat} {v : Int64} : sI (wJ S a k v) = sI S := rfl
theorem bd2_mk {α β : Type} {r : α} {S : Sx} {f : α → Sx → Option β} : bd2 (some (r, S)) f = f r S := rfl
theorem bdT_0 {r : Int32} {S : Sx} {f : Int32 → Sx → Option (Nat × Int32 × Sx)} : bdT (some (0, r, S)) f = f r S := rfl
theorem bdT_k {k : Nat} {r : Int32} {S : Sx} {f : Int32 → Sx → Option (Nat × Int32 × Sx)} (h : k ≠ 0) : bdT (some (k, r, S)) f = some (k, 0, S) := by show (if k = 0 then _ else _) = _; rw [if_neg h]
theorem bdC_0 {β : Type} {r : Int32} {S : Sx} {f : Int32 → Sx → Option β} {g : Nat → Sx → Option β} : bdC (some (0, r, S)) f g = f r S := rfl
theorem bdC_k {β : Type} {k : Nat} {r : Int32} {S : Sx} {f : Int32 → Sx → Option β} {g : Nat → Sx → Option β} (h : k ≠ 0) : bdC (some (k, r, S)) f g = g k S := by show (if k = 0 then _ else _) = _; rw [if_neg h]

theorem gI_Mp {β : Type} {o k : Nat} {S : Sx} {f : Int32 → Option β} (h : Ly o S)  : (gI S 0 k (o)).bind f = f (sI S (o) k) := ly_gI (c := 0) h (by omega) (show kt 0 = (0, 7) from by decide)
theorem pI_Mp {β : Type} {o k : Nat} {S : Sx} {v : Int32} {f : Sx → Option β} (h : Ly o S)  : (pI S 0 k (o) v).bind f = f (wI S (o) k v) := ly_pI (c := 0) h (by omega) (show kt 0 = (0, 7) from by decide)
theorem ck_Mp {β : Type} {o : Nat} {S : Sx} {f : Unit → Option β} (h : Ly o S)  : (ckd S (o) 0).bind f = f () := ly_ck (c := 0) h (by omega) (show kt 0 = (0, 7) from by decide)
theorem kd_Mp {o : Nat} {S : Sx} (h : Ly o S)  : kdOf S (o) = some 0 := ly_kd (c := 0) h (by omega) (show kt 0 = (0, 7) from by decide)
theorem gI_Pr {β : Type} {o k : Nat} {S : Sx} {f : Int32 → Option β} (h : Ly o S)  : (gI S 1 k (o + 2)).bind f = f (sI S (o + 2) k) := ly_gI h (by omega) (show kt 2 = (1, 10) from by decide)
theorem pI_Pr {β : Type} {o k : Nat} {S : Sx} {v : Int32} {f : Sx → Option β} (h : Ly o S)  : (pI S 1 k (o + 2) v).bind f = f (wI S (o + 2) k v) := ly_pI h (by omega) (show kt 2 = (1, 10) from by decide)
theorem ck_Pr {β : Type} {o : Nat} {S : Sx} {f : Unit → Option β} (h : Ly o S)  : (ckd S (o + 2) 1).bind f = f () := ly_ck h (by omega) (show kt 2 = (1, 10) from by decide)
theorem kd_Pr {o : Nat} {S : Sx} (h : Ly o S)  : kdOf S (o + 2) = some 1 := ly_kd h (by omega) (show kt 2 = (1, 10) from by decide)
theorem gI_La {β : Type} {o k : Nat} {S : Sx} {f : Int32 → Option β} (h : Ly o S)  : (gI S 7 k (o + 320)).bind f = f (sI S (o + 320) k) := ly_gI h (by omega) (show kt 320 = (7, 7) from by decide)
theorem pI_La {β : Type} {o k : Nat} {S : Sx} {v : Int32} {f : Sx → Option β} (h : Ly o S)  : (pI S 7 k (o + 320) v).bind f = f (wI S (o + 320) k v) := ly_pI h (by omega) (show kt 320 = (7, 7) from by decide)
theorem pZ_La {β : Type} {o k : Nat} {S : Sx} {v : Int32} {f : Sx → Option β} (h : Ly o S)  (hv : v = 0 ∨ v = 1) : (pZ S 7 k (o + 320) v).bind f = f (wI S (o + 320) k v) := ly_pZ h (by omega) (show kt 320 = (7, 7) from by decide) hv
theorem ck_La {β : Type} {o : Nat} {S : Sx} {f : Unit → Option β} (h : Ly o S)  : (ckd S (o + 320) 7).bind f = f () := ly_ck h (by omega) (show kt 320 = (7, 7) from by decide)
theorem kd_La {o : Nat} {S : Sx} (h : Ly o S)  : kdOf S (o + 320) = some 7 := ly_kd h (by omega) (show kt 320 = (7, 7) from by decide)
theorem gI_Li {β : Type} {o k : Nat} {S : Sx} {f : Int32 → Option β} (h : Ly o S)  : (gI S 8 k (o + 1)).bind f = f (sI S (o + 1) k) := ly_gI h (by omega) (show kt 1 = (8, 10) from by decide)
theorem pI_Li {β : Type} {o k : Nat} {S : Sx} {v : Int32} {f : Sx → Option β} (h : Ly o S)  : (pI S 8 k (o + 1) v).bind f = f (wI S (o + 1) k v) := ly_pI h (by omega) (show kt 1 = (8, 10) from by decide)
theorem ck_Li {β : Type} {o : Nat} {S : Sx} {f : Unit → Option β} (h : Ly o S)  : (ckd S (o + 1) 8).bind f = f () := ly_ck h (by omega) (show kt 1 = (8, 10) from by decide)
theorem kd_Li {o : Nat} {S : Sx} (h : Ly o S)  : kdOf S (o + 1) = some 8 := ly_kd h (by omega) (show kt 1 = (8, 10) from by decide)
theorem gI_Ky {β : Type} {o k : Nat} {S : Sx} {f : Int32 → Option β} (h : Ly o S)  : (gI S 5 k (o + 888)).bind f = f (sI S (o + 888) k) := ly_gI h (by omega) (show kt 888 = (5, 8) from by decide)
theorem pI_Ky {β : Type} {o k : Nat} {S : Sx} {v : Int32} {f : Sx → Option β} (h : Ly o S)  : (pI S 5 k (o + 888) v).bind f = f (wI S (o + 888) k v) := ly_pI h (by omega) (show kt 888 = (5, 8) from by decide)
theorem ck_Ky {β : Type} {o : Nat} {S : Sx} {f : Unit → Option β} (h : Ly o S)  : (ckd S (o + 888) 5).bind f = f () := ly_ck h (by omega) (show kt 888 = (5, 8) from by decide)
theorem kd_Ky {o : Nat} {S : Sx} (h : Ly o S)  : kdOf S (o + 888) = some 5 := ly_kd h (by omega) (show kt 888 = (5, 8) from by decide)
theorem gI_Rd {β : Type} {o k : Nat} {S : Sx} {f : Int32 → Option β} (h : Ly o S)  : (gI S 10 k (o + 889)).bind f = f (sI S (o + 889) k) := ly_gI h (by omega) (show kt 889 = (10, 1) from by decide)
theorem pI_Rd {β : Type} {o k : Nat} {S : Sx} {v : Int32} {f : Sx → Option β} (h : Ly o S)  : (pI S 10 k (o + 889) v).bind f = f (wI S (o + 889) k v) := ly_pI h (by omega) (show kt 889 = (10, 1) from by decide)
theorem ck_Rd {β : Type} {o : Nat} {S : Sx} {f : Unit → Option β} (h : Ly o S)  : (ckd S (o + 889) 10).bind f = f () := ly_ck h (by omega) (show kt 889 = (10, 1) from by decide)
theorem kd_Rd {o : Nat} {S : Sx} (h : Ly o S)  : kdOf S (o + 889) = some 10 := ly_kd h (by omega) (show kt 889 = (10, 1) from by decide)
theorem gI_Tp {β : Type} {o k : Nat} {S : Sx} {f : Int32 → Option β} (h : Ly o S)  : (gI S 10 k (o + 891)).bind f = f (sI S (o + 891) k) := ly_gI h (by omega) (show kt 891 = (10, 1) from by decide)
theorem pI_Tp {β : Type} {o k : Nat} {S : Sx} {v : Int32} {f : Sx → Option β} (h : Ly o S)  : (pI S 10 k (o + 891) v).bind f = f (wI S (o + 891) k v) := ly_pI h (by omega) (show kt 891 = (10, 1) from by decide)
theorem ck_Tp {β : Type} {o : Nat} {S : Sx} {f : Unit → Option β} (h : Ly o S)  : (ckd S (o + 891) 10).bind f = f () := ly_ck h (by omega) (show kt 891 = (10, 1) from by decide)
theorem kd_Tp {o : Nat} {S : Sx} (h : Ly o S)  : kdOf S (o + 891) = some 10 := ly_kd h (by omega) (show kt 891 = (10, 1) from by decide)
theorem kq_0 : ∀ i, i < 8 → kt (8 + 5 * i) = (2, 8) := by decide +kernel
theorem gI_St {β : Type} {o k i : Nat} {S : Sx} {f : Int32 → Option β} (h : Ly o S) (hi : i < 8) : (gI S 2 k (o + (8 + 5 * i))).bind f = f (sI S (o + (8 + 5 * i)) k) := ly_gI h (by omega) (kq_0 i hi)
theorem pI_St {β : Type} {o k i : Nat} {S : Sx} {v : Int32} {f : Sx → Option β} (h : Ly o S) (hi : i < 8) : (pI S 2 k (o + (8 + 5 * i)) v).bind f = f (wI S (o + (8 + 5 * i)) k v) := ly_pI h (by omega) (kq_0 i hi)
theorem ck_St {β : Type} {o i : Nat} {S : Sx} {f : Unit → Option β} (h : Ly o S) (hi : i < 8) : (ckd S (o + (8 + 5 * i)) 2).bind f = f () := ly_ck h (by omega) (kq_0 i hi)
theorem kd_St {o i : Nat} {S : Sx} (h : Ly o S) (hi : i < 8) : kdOf S (o + (8 + 5 * i)) = some 2 := ly_kd h (by omega) (kq_0 i hi)
theorem kq_1 : ∀ i, i < 16 → kt (48 + 5 * i) = (3, 5) := by decide +kernel
theorem gI_Ac {β : Type} {o k i : Nat} {S : Sx} {f : Int32 → Option β} (h : Ly o S) (hi : i < 16) : (gI S 3 k (o + (48 + 5 * i))).bind f = f (sI S (o + (48 + 5 * i)) k) := ly_gI h (by omega) (kq_1 i hi)
theorem pI_Ac {β : Type} {o k i : Nat} {S : Sx} {v : Int32} {f : Sx → Option β} (h : Ly o S) (hi : i < 16) : (pI S 3 k (o + (48 + 5 * i)) v).bind f = f (wI S (o + (48 + 5 * i)) k v) := ly_pI h (by omega) (kq_1 i hi)
theorem ck_Ac {β : Type} {o i : Nat} {S : Sx} {f : Unit → Option β} (h : Ly o S) (hi : i < 16) : (ckd S (o + (48 + 5 * i)) 3).bind f = f () := ly_ck h (by omega) (kq_1 i hi)
theorem kd_Ac {o i : Nat} {S : Sx} (h : Ly o S) (hi : i < 16) : kdOf S (o + (48 + 5 * i)) = some 3 := ly_kd h (by omega) (kq_1 i hi)
theorem kq_2 : ∀ i, i < 8 → kt (128 + 22 * i) = (4, 10) := by decide +kernel
theorem gI_Ta {β : Type} {o k i : Nat} {S : Sx} {f : Int32 → Option β} (h : Ly o S) (hi : i < 8) : (gI S 4 k (o + (128 + 22 * i))).bind f = f (sI S (o + (128 + 22 * i)) k) := ly_gI h (by omega) (kq_2 i hi)
theorem pI_Ta {β : Type} {o k i : Nat} {S : Sx} {v : Int32} {f : Sx → Option β} (h : Ly o S) (hi : i < 8) : (pI S 4 k (o + (128 + 22 * i)) v).bind f = f (wI S (o + (128 + 22 * i)) k v) := ly_pI h (by omega) (kq_2 i hi)
theorem ck_Ta {β : Type} {o i : Nat} {S : Sx} {f : Unit → Option β} (h : Ly o S) (hi : i < 8) : (ckd S (o + (128 + 22 * i)) 4).bind f = f () := ly_ck h (by omega) (kq_2 i hi)
theorem kd_Ta {o i : Nat} {S : Sx} (h : Ly o S) (hi : i < 8) : kdOf S (o + (128 + 22 * i)) = some 4 := ly_kd h (by omega) (kq_2 i hi)
theorem kq_3 : ∀ i, i < 16 → kt (304 + i) = (6, 5) := by decide +kernel
theorem gI_Sp {β : Type} {o k i : Nat} {S : Sx} {f : Int32 → Option β} (h : Ly o S) (hi : i < 16) : (gI S 6 k (o + (304 + i))).bind f = f (sI S (o + (304 + i)) k) := ly_gI h (by omega) (kq_3 i hi)
theorem pI_Sp {β : Type} {o k i : Nat} {S : Sx} {v : Int32} {f : Sx → Option β} (h : Ly o S) (hi : i < 16) : (pI S 6 k (o + (304 + i)) v).bind f = f (wI S (o + (304 + i)) k v) := ly_pI h (by omega) (kq_3 i hi)
theorem ck_Sp {β : Type} {o i : Nat} {S : Sx} {f : Unit → Option β} (h : Ly o S) (hi : i < 16) : (ckd S (o + (304 + i)) 6).bind f = f () := ly_ck h (by omega) (kq_3 i hi)
theorem kd_Sp {o i : Nat} {S : Sx} (h : Ly o S) (hi : i < 16) : kdOf S (o + (304 + i)) = some 6 := ly_kd h (by omega) (kq_3 i hi)
theorem kq_4 : ∀ i, i < 128 → kt (328 + 4 * i) = (9, 8) := by decide +kernel
theorem gI_Op {β : Type} {o k i : Nat} {S : Sx} {f : Int32 → Option β} (h : Ly o S) (hi : i < 128) : (gI S 9 k (o + (328 + 4 * i))).bind f = f (sI S (o + (328 + 4 * i)) k) := ly_gI h (by omega) (kq_4 i hi)
theorem pI_Op {β : Type} {o k i : Nat} {S : Sx} {v : Int32} {f : Sx → Option β} (h : Ly o S) (hi : i < 128) : (pI S 9 k (o + (328 + 4 * i)) v).bind f = f (wI S (o + (328 + 4 * i)) k v) := ly_pI h (by omega) (kq_4 i hi)
theorem ck_Op {β : Type} {o i : Nat} {S : Sx} {f : Unit → Option β} (h : Ly o S) (hi : i < 128) : (ckd S (o + (328 + 4 * i)) 9).bind f = f () := ly_ck h (by omega) (kq_4 i hi)
theorem kd_Op {o i : Nat} {S : Sx} (h : Ly o S) (hi : i < 128) : kdOf S (o + (328 + 4 * i)) = some 9 := ly_kd h (by omega) (kq_4 i hi)
theorem kq_5 : ∀ i, i < 128 → kt (329 + 4 * i) = (5, 8) := by decide +kernel
theorem gI_Oe {β : Type} {o k i : Nat} {S : Sx} {f : Int32 → Option β} (h : Ly o S) (hi : i < 128) : (gI S 5 k (o + (329 + 4 * i))).bind f = f (sI S (o + (329 + 4 * i)) k) := ly_gI h (by omega) (kq_5 i hi)
theorem pI_Oe {β : Type} {o k i : Nat} {S : Sx} {v : Int32} {f : Sx → Option β} (h : Ly o S) (hi : i < 128) : (pI S 5 k (o + (329 + 4 * i)) v).bind f = f (wI S (o + (329 + 4 * i)) k v) := ly_pI h (by omega) (kq_5 i hi)
theorem ck_Oe {β : Type} {o i : Nat} {S : Sx} {f : Unit → Option β} (h : Ly o S) (hi : i < 128) : (ckd S (o + (329 + 4 * i)) 5).bind f = f () := ly_ck h (by omega) (kq_5 i hi)
theorem kd_Oe {o i : Nat} {S : Sx} (h : Ly o S) (hi : i < 128) : kdOf S (o + (329 + 4 * i)) = some 5 := ly_kd h (by omega) (kq_5 i hi)
theorem kq_6 : ∀ i, i < 128 → kt (330 + 4 * i) = (10, 1) := by decide +kernel
theorem gI_Ob {β : Type} {o k i : Nat} {S : Sx} {f : Int32 → Option β} (h : Ly o S) (hi : i < 128) : (gI S 10 k (o + (330 + 4 * i))).bind f = f (sI S (o + (330 + 4 * i)) k) := ly_gI h (by omega) (kq_6 i hi)
theorem pI_Ob {β : Type} {o k i : Nat} {S : Sx} {v : Int32} {f : Sx → Option β} (h : Ly o S) (hi : i < 128) : (pI S 10 k (o + (330 + 4 * i)) v).bind f = f (wI S (o + (330 + 4 * i)) k v) := ly_pI h (by omega) (kq_6 i hi)
theorem ck_Ob {β : Type} {o i : Nat} {S : Sx} {f : Unit → Option β} (h : Ly o S) (hi : i < 128) : (ckd S (o + (330 + 4 * i)) 10).bind f = f () := ly_ck h (by omega) (kq_6 i hi)
theorem kd_Ob {o i : Nat} {S : Sx} (h : Ly o S) (hi : i < 128) : kdOf S (o + (330 + 4 * i)) = some 10 := ly_kd h (by omega) (kq_6 i hi)
theorem kq_7 : ∀ i, i < 16 → kt (840 + 3 * i) = (11, 8) := by decide +kernel
theorem gI_He {β : Type} {o k i : Nat} {S : Sx} {f : Int32 → Option β} (h : Ly o S) (hi : i < 16) : (gI S 11 k (o + (840 + 3 * i))).bind f = f (sI S (o + (840 + 3 * i)) k) := ly_gI h (by omega) (kq_7 i hi)
theorem pI_He {β : Type} {o k i : Nat} {S : Sx} {v : Int32} {f : Sx → Option β} (h : Ly o S) (hi : i < 16) : (pI S 11 k (o + (840 + 3 * i)) v).bind f = f (wI S (o + (840 + 3 * i)) k v) := ly_pI h (by omega) (kq_7 i hi)
theorem pZ_He {β : Type} {o k i : Nat} {S : Sx} {v : Int32} {f : Sx → Option β} (h : Ly o S) (hi : i < 16) (hv : v = 0 ∨ v = 1) : (pZ S 11 k (o + (840 + 3 * i)) v).bind f = f (wI S (o + (840 + 3 * i)) k v) := ly_pZ h (by omega) (kq_7 i hi) hv
theorem ck_He {β : Type} {o i : Nat} {S : Sx} {f : Unit → Option β} (h : Ly o S) (hi : i < 16) : (ckd S (o + (840 + 3 * i)) 11).bind f = f () := ly_ck h (by omega) (kq_7 i hi)
theorem kd_He {o i : Nat} {S : Sx} (h : Ly o S) (hi : i < 16) : kdOf S (o + (840 + 3 * i)) = some 11 := ly_kd h (by omega) (kq_7 i hi)
theorem kq_8 : ∀ i, i < 8 → ∀ j, j < 20 → kt (130 + 22 * i + j) = (5, 8) := by decide +kernel
theorem gI_En {β : Type} {o k i j : Nat} {S : Sx} {f : Int32 → Option β} (h : Ly o S) (hi : i < 8) (hj : j < 20) : (gI S 5 k (o + (130 + 22 * i + j))).bind f = f (sI S (o + (130 + 22 * i + j)) k) := ly_gI h (by omega) (kq_8 i hi j hj)
theorem pI_En {β : Type} {o k i j : Nat} {S : Sx} {v : Int32} {f : Sx → Option β} (h : Ly o S) (hi : i < 8) (hj : j < 20) : (pI S 5 k (o + (130 + 22 * i + j)) v).bind f = f (wI S (o + (130 + 22 * i + j)) k v) := ly_pI h (by omega) (kq_8 i hi j hj)
theorem ck_En {β : Type} {o i j : Nat} {S : Sx} {f : Unit → Option β} (h : Ly o S) (hi : i < 8) (hj : j < 20) : (ckd S (o + (130 + 22 * i + j)) 5).bind f = f () := ly_ck h (by omega) (kq_8 i hi j hj)
theorem kd_En {o i j : Nat} {S : Sx} (h : Ly o S) (hi : i < 8) (hj : j < 20) : kdOf S (o + (130 + 22 * i + j)) = some 5 := ly_kd h (by omega) (kq_8 i hi j hj)
theorem gI_Md {β : Type} {o k : Nat} {S : Sx} {f : Int32 → Option β} (h : Ly o S)  : (gI S 12 k (o + 893)).bind f = f (sI S (o + 893) k) := ly_gI h (by omega) (show kt 893 = (12, 80) from by decide)
theorem pI_Md {β : Type} {o k : Nat} {S : Sx} {v : Int32} {f : Sx → Option β} (h : Ly o S)  : (pI S 12 k (o + 893) v).bind f = f (wI S (o + 893) k v) := ly_pI h (by omega) (show kt 893 = (12, 80) from by decide)
theorem pZ_Md {β : Type} {o k : Nat} {S : Sx} {v : Int32} {f : Sx → Option β} (h : Ly o S)  (hv : v = 0 ∨ v = 1) : (pZ S 12 k (o + 893) v).bind f = f (wI S (o + 893) k v) := ly_pZ h (by omega) (show kt 893 = (12, 80) from by decide) hv
theorem ck_Md {β : Type} {o : Nat} {S : Sx} {f : Unit → Option β} (h : Ly o S)  : (ckd S (o + 893) 12).bind f = f () := ly_ck h (by omega) (show kt 893 = (12, 80) from by decide)
theorem kd_Md {o : Nat} {S : Sx} (h : Ly o S)  : kdOf S (o + 893) = some 12 := ly_kd h (by omega) (show kt 893 = (12, 80) from by decide)
theorem gX_Mp0 {β : Type} {o : Nat} {S : Sx} {f : Nat → Option β} (h : Ly o S)  : (gX S 0 0 (o)).bind f = f (o + 1) := ly_gX (c := 0) h (by omega) (show kt 0 = (0, 7) from by decide) (by decide) (by unfold isRow; omega)
theorem gX_Mp1 {β : Type} {o : Nat} {S : Sx} {f : Nat → Option β} (h : Ly o S)  : (gX S 0 1 (o)).bind f = f (o + 2) := ly_gX (c := 0) h (by omega) (show kt 0 = (0, 7) from by decide) (by decide) (by unfold isRow; omega)
theorem gX_Mp2 {β : Type} {o : Nat} {S : Sx} {f : Nat → Option β} (h : Ly o S)  : (gX S 0 2 (o)).bind f = f (o + 320) := ly_gX (c := 0) h (by omega) (show kt 0 = (0, 7) from by decide) (by decide) (by unfold isRow; omega)
theorem gX_Mp3 {β : Type} {o : Nat} {S : Sx} {f : Nat → Option β} (h : Ly o S)  : (gX S 0 3 (o)).bind f = f (o + 888) := ly_gX (c := 0) h (by omega) (show kt 0 = (0, 7) from by decide) (by decide) (by unfold isRow; omega)
theorem gX_Mp4 {β : Type} {o : Nat} {S : Sx} {f : Nat → Option β} (h : Ly o S)  : (gX S 0 4 (o)).bind f = f (o + 889) := ly_gX (c := 0) h (by omega) (show kt 0 = (0, 7) from by decide) (by decide) (by unfold isRow; omega)
theorem gX_Mp5 {β : Type} {o : Nat} {S : Sx} {f : Nat → Option β} (h : Ly o S)  : (gX S 0 5 (o)).bind f = f (o + 891) := ly_gX (c := 0) h (by omega) (show kt 0 = (0, 7) from by decide) (by decide) (by unfold isRow; omega)
theorem gX_Pr0 {β : Type} {o : Nat} {S : Sx} {f : Nat → Option β} (h : Ly o S)  : (gX S 1 0 (o + 2)).bind f = f (o + 3) := ly_gX h (by omega) (show kt 2 = (1, 10) from by decide) (by decide) (by unfold isRow; omega)
theorem gX_Pr1 {β : Type} {o : Nat} {S : Sx} {f : Nat → Option β} (h : Ly o S)  : (gX S 1 1 (o + 2)).bind f = f (o + 4) := ly_gX h (by omega) (show kt 2 = (1, 10) from by decide) (by decide) (by unfold isRow; omega)
theorem gX_Pr2 {β : Type} {o : Nat} {S : Sx} {f : Nat → Option β} (h : Ly o S)  : (gX S 1 2 (o + 2)).bind f = f (o + 5) := ly_gX h (by omega) (show kt 2 = (1, 10) from by decide) (by decide) (by unfold isRow; omega)
theorem gX_Pr3 {β : Type} {o : Nat} {S : Sx} {f : Nat → Option β} (h : Ly o S)  : (gX S 1 3 (o + 2)).bind f = f (o + 6) := ly_gX h (by omega) (show kt 2 = (1, 10) from by decide) (by decide) (by unfold isRow; omega)
theorem gX_Pr4 {β : Type} {o : Nat} {S : Sx} {f : Nat → Option β} (h : Ly o S)  : (gX S 1 4 (o + 2)).bind f = f (o + 7) := ly_gX h (by omega) (show kt 2 = (1, 10) from by decide) (by decide) (by unfold isRow; omega)
theorem gX_La0 {β : Type} {o : Nat} {S : Sx} {f : Nat → Option β} (h : Ly o S)  : (gX S 7 0 (o + 320)).bind f = f (o + 321) := ly_gX h (by omega) (show kt 320 = (7, 7) from by decide) (by decide) (by unfold isRow; omega)
theorem gX_La1 {β : Type} {o : Nat} {S : Sx} {f : Nat → Option β} (h : Ly o S)  : (gX S 7 1 (o + 320)).bind f = f (o + 322) := ly_gX h (by omega) (show kt 320 = (7, 7) from by decide) (by decide) (by unfold isRow; omega)
theorem gX_La2 {β : Type} {o : Nat} {S : Sx} {f : Nat → Option β} (h : Ly o S)  : (gX S 7 2 (o + 320)).bind f = f (o + 323) := ly_gX h (by omega) (show kt 320 = (7, 7) from by decide) (by decide) (by unfold isRow; omega)
theorem gX_Li0 {β : Type} {o : Nat} {S : Sx} {f : Nat → Option β} (h : Ly o S)  : (gX S 8 0 (o + 1)).bind f = f (o + 2) := ly_gX h (by omega) (show kt 1 = (8, 10) from by decide) (by decide) (by unfold isRow; omega)
theorem gX_Li1 {β : Type} {o : Nat} {S : Sx} {f : Nat → Option β} (h : Ly o S)  : (gX S 8 1 (o + 1)).bind f = f (o + 320) := ly_gX h (by omega) (show kt 1 = (8, 10) from by decide) (by decide) (by unfold isRow; omega)
theorem gX_Li2 {β : Type} {o : Nat} {S : Sx} {f : Nat → Option β} (h : Ly o S)  : (gX S 8 2 (o + 1)).bind f = f (o + 324) := ly_gX h (by omega) (show kt 1 = (8, 10) from by decide) (by decide) (by unfold isRow; omega)
theorem gX_Li3 {β : Type} {o : Nat} {S : Sx} {f : Nat → Option β} (h : Ly o S)  : (gX S 8 3 (o + 1)).bind f = f (o + 325) := ly_gX h (by omega) (show kt 1 = (8, 10) from by decide) (by decide) (by unfold isRow; omega)
theorem gX_Li4 {β : Type} {o : Nat} {S : Sx} {f : Nat → Option β} (h : Ly o S)  : (gX S 8 4 (o + 1)).bind f = f (o + 326) := ly_gX h (by omega) (show kt 1 = (8, 10) from by decide) (by decide) (by unfold isRow; omega)
theorem gX_Li5 {β : Type} {o : Nat} {S : Sx} {f : Nat → Option β} (h : Ly o S)  : (gX S 8 5 (o + 1)).bind f = f (o + 327) := ly_gX h (by omega) (show kt 1 = (8, 10) from by decide) (by decide) (by unfold isRow; omega)
theorem gX_Rd0 {β : Type} {o : Nat} {S : Sx} {f : Nat → Option β} (h : Ly o S)  : (gX S 10 0 (o + 889)).bind f = f (o + 890) := ly_gX h (by omega) (show kt 889 = (10, 1) from by decide) (by decide) (by unfold isRow; omega)
theorem gX_Tp0 {β : Type} {o : Nat} {S : Sx} {f : Nat → Option β} (h : Ly o S)  : (gX S 10 0 (o + 891)).bind f = f (o + 892) := ly_gX h (by omega) (show kt 891 = (10, 1) from by decide) (by decide) (by unfold isRow; omega)
theorem rq_0 : ∀ i, i < 8 → rto (8 + 5 * i) 0 = some (9 + 5 * i) := by decide +kernel
theorem gX_St0 {β : Type} {o i : Nat} {S : Sx} {f : Nat → Option β} (h : Ly o S) (hi : i < 8) : (gX S 2 0 (o + (8 + 5 * i))).bind f = f (o + (9 + 5 * i)) := ly_gX h (by omega) (kq_0 i hi) (rq_0 i hi) (by unfold isRow; omega)
theorem rq_1 : ∀ i, i < 8 → rto (8 + 5 * i) 1 = some (10 + 5 * i) := by decide +kernel
theorem gX_St1 {β : Type} {o i : Nat} {S : Sx} {f : Nat → Option β} (h : Ly o S) (hi : i < 8) : (gX S 2 1 (o + (8 + 5 * i))).bind f = f (o + (10 + 5 * i)) := ly_gX h (by omega) (kq_0 i hi) (rq_1 i hi) (by unfold isRow; omega)
theorem rq_2 : ∀ i, i < 8 → rto (8 + 5 * i) 2 = some (11 + 5 * i) := by decide +kernel
theorem gX_St2 {β : Type} {o i : Nat} {S : Sx} {f : Nat → Option β} (h : Ly o S) (hi : i < 8) : (gX S 2 2 (o + (8 + 5 * i))).bind f = f (o + (11 + 5 * i)) := ly_gX h (by omega) (kq_0 i hi) (rq_2 i hi) (by unfold isRow; omega)
theorem rq_3 : ∀ i, i < 8 → rto (8 + 5 * i) 3 = some (12 + 5 * i) := by decide +kernel
theorem gX_St3 {β : Type} {o i : Nat} {S : Sx} {f : Nat → Option β} (h : Ly o S) (hi : i < 8) : (gX S 2 3 (o + (8 + 5 * i))).bind f = f (o + (12 + 5 * i)) := ly_gX h (by omega) (kq_0 i hi) (rq_3 i hi) (by unfold isRow; omega)
theorem rq_4 : ∀ i, i < 16 → rto (48 + 5 * i) 0 = some (49 + 5 * i) := by decide +kernel
theorem gX_Ac0 {β : Type} {o i : Nat} {S : Sx} {f : Nat → Option β} (h : Ly o S) (hi : i < 16) : (gX S 3 0 (o + (48 + 5 * i))).bind f = f (o + (49 + 5 * i)) := ly_gX h (by omega) (kq_1 i hi) (rq_4 i hi) (by unfold isRow; omega)
theorem rq_5 : ∀ i, i < 16 → rto (48 + 5 * i) 1 = some (50 + 5 * i) := by decide +kernel
theorem gX_Ac1 {β : Type} {o i : Nat} {S : Sx} {f : Nat → Option β} (h : Ly o S) (hi : i < 16) : (gX S 3 1 (o + (48 + 5 * i))).bind f = f (o + (50 + 5 * i)) := ly_gX h (by omega) (kq_1 i hi) (rq_5 i hi) (by unfold isRow; omega)
theorem rq_6 : ∀ i, i < 16 → rto (48 + 5 * i) 2 = some (51 + 5 * i) := by decide +kernel
theorem gX_Ac2 {β : Type} {o i : Nat} {S : Sx} {f : Nat → Option β} (h : Ly o S) (hi : i < 16) : (gX S 3 2 (o + (48 + 5 * i))).bind f = f (o + (51 + 5 * i)) := ly_gX h (by omega) (kq_1 i hi) (rq_6 i hi) (by unfold isRow; omega)
theorem rq_7 : ∀ i, i < 16 → rto (48 + 5 * i) 3 = some (52 + 5 * i) := by decide +kernel
theorem gX_Ac3 {β : Type} {o i : Nat} {S : Sx} {f : Nat → Option β} (h : Ly o S) (hi : i < 16) : (gX S 3 3 (o + (48 + 5 * i))).bind f = f (o + (52 + 5 * i)) := ly_gX h (by omega) (kq_1 i hi) (rq_7 i hi) (by unfold isRow; omega)
theorem rq_8 : ∀ i, i < 8 → rto (128 + 22 * i) 0 = some (129 + 22 * i) := by decide +kernel
theorem gX_Ta0 {β : Type} {o i : Nat} {S : Sx} {f : Nat → Option β} (h : Ly o S) (hi : i < 8) : (gX S 4 0 (o + (128 + 22 * i))).bind f = f (o + (129 + 22 * i)) := ly_gX h (by omega) (kq_2 i hi) (rq_8 i hi) (by unfold isRow; omega)
theorem rq_9 : ∀ i, i < 128 → rto (328 + 4 * i) 0 = some (329 + 4 * i) := by decide +kernel
theorem gX_Op0 {β : Type} {o i : Nat} {S : Sx} {f : Nat → Option β} (h : Ly o S) (hi : i < 128) : (gX S 9 0 (o + (328 + 4 * i))).bind f = f (o + (329 + 4 * i)) := ly_gX h (by omega) (kq_4 i hi) (rq_9 i hi) (by unfold isRow; omega)
theorem rq_10 : ∀ i, i < 128 → rto (328 + 4 * i) 1 = some (330 + 4 * i) := by decide +kernel
theorem gX_Op1 {β : Type} {o i : Nat} {S : Sx} {f : Nat → Option β} (h : Ly o S) (hi : i < 128) : (gX S 9 1 (o + (328 + 4 * i))).bind f = f (o + (330 + 4 * i)) := ly_gX h (by omega) (kq_4 i hi) (rq_10 i hi) (by unfold isRow; omega)
theorem rq_11 : ∀ i, i < 128 → rto (330 + 4 * i) 0 = some (331 + 4 * i) := by decide +kernel
theorem gX_Ob0 {β : Type} {o i : Nat} {S : Sx} {f : Nat → Option β} (h : Ly o S) (hi : i < 128) : (gX S 10 0 (o + (330 + 4 * i))).bind f = f (o + (331 + 4 * i)) := ly_gX h (by omega) (kq_6 i hi) (rq_11 i hi) (by unfold isRow; omega)
theorem rq_12 : ∀ i, i < 16 → rto (840 + 3 * i) 0 = some (841 + 3 * i) := by decide +kernel
theorem gX_He0 {β : Type} {o i : Nat} {S : Sx} {f : Nat → Option β} (h : Ly o S) (hi : i < 16) : (gX S 11 0 (o + (840 + 3 * i))).bind f = f (o + (841 + 3 * i)) := ly_gX h (by omega) (kq_7 i hi) (rq_12 i hi) (by unfold isRow; omega)
theorem rq_13 : ∀ i, i < 16 → rto (840 + 3 * i) 1 = some (842 + 3 * i) := by decide +kernel
theorem gX_He1 {β : Type} {o i : Nat} {S : Sx} {f : Nat → Option β} (h : Ly o S) (hi : i < 16) : (gX S 11 1 (o + (840 + 3 * i))).bind f = f (o + (842 + 3 * i)) := ly_gX h (by omega) (kq_7 i hi) (rq_13 i hi) (by unfold isRow; omega)
theorem gX_Md8 {β : Type} {o : Nat} {S : Sx} {f : Nat → Option β} (h : Ly o S)  : (gX S 12 8 (o + 893)).bind f = f (o + 894) := ly_gX h (by omega) (show kt 893 = (12, 80) from by decide) (by decide) (by unfold isRow; omega)
theorem gX_Md9 {β : Type} {o : Nat} {S : Sx} {f : Nat → Option β} (h : Ly o S)  : (gX S 12 9 (o + 893)).bind f = f (o + 895) := ly_gX h (by omega) (show kt 893 = (12, 80) from by decide) (by decide) (by unfold isRow; omega)
theorem gX_Md10 {β : Type} {o : Nat} {S : Sx} {f : Nat → Option β} (h : Ly o S)  : (gX S 12 10 (o + 893)).bind f = f (o + 896) := ly_gX h (by omega) (show kt 893 = (12, 80) from by decide) (by decide) (by unfold isRow; omega)
theorem gX_Md11 {β : Type} {o : Nat} {S : Sx} {f : Nat → Option β} (h : Ly o S)  : (gX S 12 11 (o + 893)).bind f = f (o + 897) := ly_gX h (by omega) (show kt 893 = (12, 80) from by decide) (by decide) (by unfold isRow; omega)
theorem gX_Md12 {β : Type} {o : Nat} {S : Sx} {f : Nat → Option β} (h : Ly o S)  : (gX S 12 12 (o + 893)).bind f = f (o + 898) := ly_gX h (by omega) (show kt 893 = (12, 80) from by decide) (by decide) (by unfold isRow; omega)
theorem gX_Md13 {β : Type} {o : Nat} {S : Sx} {f : Nat → Option β} (h : Ly o S)  : (gX S 12 13 (o + 893)).bind f = f (o + 899) := ly_gX h (by omega) (show kt 893 = (12, 80) from by decide) (by decide) (by unfold isRow; omega)
theorem gX_Md14 {β : Type} {o : Nat} {S : Sx} {f : Nat → Option β} (h : Ly o S)  : (gX S 12 14 (o + 893)).bind f = f (o + 900) := ly_gX h (by omega) (show kt 893 = (12, 80) from by decide) (by decide) (by unfold isRow; omega)
theorem gX_Md15 {β : Type} {o : Nat} {S : Sx} {f : Nat → Option β} (h : Ly o S)  : (gX S 12 15 (o + 893)).bind f = f (o + 901) := ly_gX h (by omega) (show kt 893 = (12, 80) from by decide) (by decide) (by unfold isRow; omega)
theorem gX_Md16 {β : Type} {o : Nat} {S : Sx} {f : Nat → Option β} (h : Ly o S)  : (gX S 12 16 (o + 893)).bind f = f (o + 902) := ly_gX h (by omega) (show kt 893 = (12, 80) from by decide) (by decide) (by unfold isRow; omega)
theorem gX_Md17 {β : Type} {o : Nat} {S : Sx} {f : Nat → Option β} (h : Ly o S)  : (gX S 12 17 (o + 893)).bind f = f (o + 903) := ly_gX h (by omega) (show kt 893 = (12, 80) from by decide) (by decide) (by unfold isRow; omega)
theorem gX_Md18 {β : Type} {o : Nat} {S : Sx} {f : Nat → Option β} (h : Ly o S)  : (gX S 12 18 (o + 893)).bind f = f (o + 904) := ly_gX h (by omega) (show kt 893 = (12, 80) from by decide) (by decide) (by unfold isRow; omega)
theorem gX_Md19 {β : Type} {o : Nat} {S : Sx} {f : Nat → Option β} (h : Ly o S)  : (gX S 12 19 (o + 893)).bind f = f (o + 905) := ly_gX h (by omega) (show kt 893 = (12, 80) from by decide) (by decide) (by unfold isRow; omega)
theorem gX_Md20 {β : Type} {o : Nat} {S : Sx} {f : Nat → Option β} (h : Ly o S)  : (gX S 12 20 (o + 893)).bind f = f (o + 906) := ly_gX h (by omega) (show kt 893 = (12, 80) from by decide) (by decide) (by unfold isRow; omega)
theorem gX_Md21 {β : Type} {o : Nat} {S : Sx} {f : Nat → Option β} (h : Ly o S)  : (gX S 12 21 (o + 893)).bind f = f (o + 907) := ly_gX h (by omega) (show kt 893 = (12, 80) from by decide) (by decide) (by unfold isRow; omega)
theorem gX_Md22 {β : Type} {o : Nat} {S : Sx} {f : Nat → Option β} (h : Ly o S)  : (gX S 12 22 (o + 893)).bind f = f (o + 908) := ly_gX h (by omega) (show kt 893 = (12, 80) from by decide) (by decide) (by unfold isRow; omega)
theorem gX_Md23 {β : Type} {o : Nat} {S : Sx} {f : Nat → Option β} (h : Ly o S)  : (gX S 12 23 (o + 893)).bind f = f (o + 909) := ly_gX h (by omega) (show kt 893 = (12, 80) from by decide) (by decide) (by unfold isRow; omega)
theorem gX_Md24 {β : Type} {o : Nat} {S : Sx} {f : Nat → Option β} (h : Ly o S)  : (gX S 12 24 (o + 893)).bind f = f (o + 910) := ly_gX h (by omega) (show kt 893 = (12, 80) from by decide) (by decide) (by unfold isRow; omega)
theorem gX_Md25 {β : Type} {o : Nat} {S : Sx} {f : Nat → Option β} (h : Ly o S)  : (gX S 12 25 (o + 893)).bind f = f (o + 911) := ly_gX h (by omega) (show kt 893 = (12, 80) from by decide) (by decide) (by unfold isRow; omega)
theorem gX_Md26 {β : Type} {o : Nat} {S : Sx} {f : Nat → Option β} (h : Ly o S)  : (gX S 12 26 (o + 893)).bind f = f (o + 912) := ly_gX h (by omega) (show kt 893 = (12, 80) from by decide) (by decide) (by unfold isRow; omega)
theorem gX_Md27 {β : Type} {o : Nat} {S : Sx} {f : Nat → Option β} (h : Ly o S)  : (gX S 12 27 (o + 893)).bind f = f (o + 913) := ly_gX h (by omega) (show kt 893 = (12, 80) from by decide) (by decide) (by unfold isRow; omega)
theorem gX_Md28 {β : Type} {o : Nat} {S : Sx} {f : Nat → Option β} (h : Ly o S)  : (gX S 12 28 (o + 893)).bind f = f (o + 914) := ly_gX h (by omega) (show kt 893 = (12, 80) from by decide) (by decide) (by unfold isRow; omega)
theorem gX_Md29 {β : Type} {o : Nat} {S : Sx} {f : Nat → Option β} (h : Ly o S)  : (gX S 12 29 (o + 893)).bind f = f (o + 915) := ly_gX h (by omega) (show kt 893 = (12, 80) from by decide) (by decide) (by unfold isRow; omega)
theorem gX_Md30 {β : Type} {o : Nat} {S : Sx} {f : Nat → Option β} (h : Ly o S)  : (gX S 12 30 (o + 893)).bind f = f (o + 916) := ly_gX h (by omega) (show kt 893 = (12, 80) from by decide) (by decide) (by unfold isRow; omega)
theorem gX_Md31 {β : Type} {o : Nat} {S : Sx} {f : Nat → Option β} (h : Ly o S)  : (gX S 12 31 (o + 893)).bind f = f (o + 917) := ly_gX h (by omega) (show kt 893 = (12, 80) from by decide) (by decide) (by unfold isRow; omega)
theorem gX_Md32 {β : Type} {o : Nat} {S : Sx} {f : Nat → Option β} (h : Ly o S)  : (gX S 12 32 (o + 893)).bind f = f (o + 918) := ly_gX h (by omega) (show kt 893 = (12, 80) from by decide) (by decide) (by unfold isRow; omega)
theorem gX_Md35 {β : Type} {o : Nat} {S : Sx} {f : Nat → Option β} (h : Ly o S)  : (gX S 12 35 (o + 893)).bind f = f (o + 919) := ly_gX h (by omega) (show kt 893 = (12, 80) from by decide) (by decide) (by unfold isRow; omega)
theorem gX_Md36 {β : Type} {o : Nat} {S : Sx} {f : Nat → Option β} (h : Ly o S)  : (gX S 12 36 (o + 893)).bind f = f (o + 920) := ly_gX h (by omega) (show kt 893 = (12, 80) from by decide) (by decide) (by unfold isRow; omega)
theorem gX_Md37 {β : Type} {o : Nat} {S : Sx} {f : Nat → Option β} (h : Ly o S)  : (gX S 12 37 (o + 893)).bind f = f (o + 921) := ly_gX h (by omega) (show kt 893 = (12, 80) from by decide) (by decide) (by unfold isRow; omega)
theorem gX_Md38 {β : Type} {o : Nat} {S : Sx} {f : Nat → Option β} (h : Ly o S)  : (gX S 12 38 (o + 893)).bind f = f (o + 922) := ly_gX h (by omega) (show kt 893 = (12, 80) from by decide) (by decide) (by unfold isRow; omega)
theorem gX_Md39 {β : Type} {o : Nat} {S : Sx} {f : Nat → Option β} (h : Ly o S)  : (gX S 12 39 (o + 893)).bind f = f (o + 923) := ly_gX h (by omega) (show kt 893 = (12, 80) from by decide) (by decide) (by unfold isRow; omega)
theorem gX_Md40 {β : Type} {o : Nat} {S : Sx} {f : Nat → Option β} (h : Ly o S)  : (gX S 12 40 (o + 893)).bind f = f (o + 924) := ly_gX h (by omega) (show kt 893 = (12, 80) from by decide) (by decide) (by unfold isRow; omega)
theorem gX_Md41 {β : Type} {o : Nat} {S : Sx} {f : Nat → Option β} (h : Ly o S)  : (gX S 12 41 (o + 893)).bind f = f (o + 925) := ly_gX h (by omega) (show kt 893 = (12, 80) from by decide) (by decide) (by unfold isRow; omega)
theorem gX_Md42 {β : Type} {o : Nat} {S : Sx} {f : Nat → Option β} (h : Ly o S)  : (gX S 12 42 (o + 893)).bind f = f (o + 926) := ly_gX h (by omega) (show kt 893 = (12, 80) from by decide) (by decide) (by unfold isRow; omega)
theorem gX_Md43 {β : Type} {o : Nat} {S : Sx} {f : Nat → Option β} (h : Ly o S)  : (gX S 12 43 (o + 893)).bind f = f (o + 927) := ly_gX h (by omega) (show kt 893 = (12, 80) from by decide) (by decide) (by unfold isRow; omega)
theorem gX_Md44 {β : Type} {o : Nat} {S : Sx} {f : Nat → Option β} (h : Ly o S)  : (gX S 12 44 (o + 893)).bind f = f (o + 928) := ly_gX h (by omega) (show kt 893 = (12, 80) from by decide) (by decide) (by unfold isRow; omega)
theorem gX_Md45 {β : Type} {o : Nat} {S : Sx} {f : Nat → Option β} (h : Ly o S)  : (gX S 12 45 (o + 893)).bind f = f (o + 929) := ly_gX h (by omega) (show kt 893 = (12, 80) from by decide) (by decide) (by unfold isRow; omega)
theorem gX_Md46 {β : Type} {o : Nat} {S : Sx} {f : Nat → Option β} (h : Ly o S)  : (gX S 12 46 (o + 893)).bind f = f (o + 930) := ly_gX h (by omega) (show kt 893 = (12, 80) from by decide) (by decide) (by unfold isRow; omega)
theorem gX_Md57 {β : Type} {o : Nat} {S : Sx} {f : Nat → Option β} (h : Ly o S)  : (gX S 12 57 (o + 893)).bind f = f (o + 931) := ly_gX h (by omega) (show kt 893 = (12, 80) from by decide) (by decide) (by unfold isRow; omega)
theorem gX_Md58 {β : Type} {o : Nat} {S : Sx} {f : Nat → Option β} (h : Ly o S)  : (gX S 12 58 (o + 893)).bind f = f (o + 932) := ly_gX h (by omega) (show kt 893 = (12, 80) from by decide) (by decide) (by unfold isRow; omega)
theorem gX_Md59 {β : Type} {o : Nat} {S : Sx} {f : Nat → Option β} (h : Ly o S)  : (gX S 12 59 (o + 893)).bind f = f (o + 933) := ly_gX h (by omega) (show kt 893 = (12, 80) from by decide) (by decide) (by unfold isRow; omega)
theorem gX_Md60 {β : Type} {o : Nat} {S : Sx} {f : Nat → Option β} (h : Ly o S)  : (gX S 12 60 (o + 893)).bind f = f (o + 934) := ly_gX h (by omega) (show kt 893 = (12, 80) from by decide) (by decide) (by unfold isRow; omega)
theorem gX_Md61 {β : Type} {o : Nat} {S : Sx} {f : Nat → Option β} (h : Ly o S)  : (gX S 12 61 (o + 893)).bind f = f (o + 935) := ly_gX h (by omega) (show kt 893 = (12, 80) from by decide) (by decide) (by unfold isRow; omega)
theorem gX_Md62 {β : Type} {o : Nat} {S : Sx} {f : Nat → Option β} (h : Ly o S)  : (gX S 12 62 (o + 893)).bind f = f (o + 936) := ly_gX h (by omega) (show kt 893 = (12, 80) from by decide) (by decide) (by unfold isRow; omega)
theorem gX_Md63 {β : Type} {o : Nat} {S : Sx} {f : Nat → Option β} (h : Ly o S)  : (gX S 12 63 (o + 893)).bind f = f (o + 937) := ly_gX h (by omega) (show kt 893 = (12, 80) from by decide) (by decide) (by unfold isRow; omega)
theorem gX_Md64 {β : Type} {o : Nat} {S : Sx} {f : Nat → Option β} (h : Ly o S)  : (gX S 12 64 (o + 893)).bind f = f (o + 938) := ly_gX h (by omega) (show kt 893 = (12, 80) from by decide) (by decide) (by unfold isRow; omega)
theorem gX_Md65 {β : Type} {o : Nat} {S : Sx} {f : Nat → Option β} (h : Ly o S)  : (gX S 12 65 (o + 893)).bind f = f (o + 939) := ly_gX h (by omega) (show kt 893 = (12, 80) from by decide) (by decide) (by unfold isRow; omega)
theorem gX_Md66 {β : Type} {o : Nat} {S : Sx} {f : Nat → Option β} (h : Ly o S)  : (gX S 12 66 (o + 893)).bind f = f (o + 940) := ly_gX h (by omega) (show kt 893 = (12, 80) from by decide) (by decide) (by unfold isRow; omega)
theorem gX_Md67 {β : Type} {o : Nat} {S : Sx} {f : Nat → Option β} (h : Ly o S)  : (gX S 12 67 (o + 893)).bind f = f (o + 941) := ly_gX h (by omega) (show kt 893 = (12, 80) from by decide) (by decide) (by unfold isRow; omega)
theorem gX_Md68 {β : Type} {o : Nat} {S : Sx} {f : Nat → Option β} (h : Ly o S)  : (gX S 12 68 (o + 893)).bind f = f (o + 942) := ly_gX h (by omega) (show kt 893 = (12, 80) from by decide) (by decide) (by unfold isRow; omega)
theorem gX_Md69 {β : Type} {o : Nat} {S : Sx} {f : Nat → Option β} (h : Ly o S)  : (gX S 12 69 (o + 893)).bind f = f (o + 943) := ly_gX h (by omega) (show kt 893 = (12, 80) from by decide) (by decide) (by unfold isRow; omega)
theorem gX_Md70 {β : Type} {o : Nat} {S : Sx} {f : Nat → Option β} (h : Ly o S)  : (gX S 12 70 (o + 893)).bind f = f (o + 944) := ly_gX h (by omega) (show kt 893 = (12, 80) from by decide) (by decide) (by unfold isRow; omega)
theorem gX_Md71 {β : Type} {o : Nat} {S : Sx} {f : Nat → Option β} (h : Ly o S)  : (gX S 12 71 (o + 893)).bind f = f (o + 945) := ly_gX h (by omega) (show kt 893 = (12, 80) from by decide) (by decide) (by unfold isRow; omega)
theorem gX_Md72 {β : Type} {o : Nat} {S : Sx} {f : Nat → Option β} (h : Ly o S)  : (gX S 12 72 (o + 893)).bind f = f (o + 946) := ly_gX h (by omega) (show kt 893 = (12, 80) from by decide) (by decide) (by unfold isRow; omega)
theorem gX_Md77 {β : Type} {o : Nat} {S : Sx} {f : Nat → Option β} (h : Ly o S)  : (gX S 12 77 (o + 893)).bind f = f (o + 947) := ly_gX h (by omega) (show kt 893 = (12, 80) from by decide) (by decide) (by unfold isRow; omega)
theorem gX_Md78 {β : Type} {o : Nat} {S : Sx} {f : Nat → Option β} (h : Ly o S)  : (gX S 12 78 (o + 893)).bind f = f (o + 948) := ly_gX h (by omega) (show kt 893 = (12, 80) from by decide) (by decide) (by unfold isRow; omega)
theorem gX_Md79 {β : Type} {o : Nat} {S : Sx} {f : Nat → Option β} (h : Ly o S)  : (gX S 12 79 (o + 893)).bind f = f (o + 949) := ly_gX h (by omega) (show kt 893 = (12, 80) from by decide) (by decide) (by unfold isRow; omega)
theorem aI_w {β : Type} {o j : Nat} {S : Sx} {f : Int32 → Option β} (h : Ly o S)  (hj : j < 16) : (aI S (o + 3) (nI j)).bind f = f (sI S (o + 3) j) := ly_aI h (by omega) (show kt 3 = (100, 16) from by decide) hj (by omega)
theorem qI_w {β : Type} {o j : Nat} {S : Sx} {v : Int32} {f : Sx → Option β} (h : Ly o S)  (hj : j < 16) : (qI S (o + 3) (nI j) v).bind f = f (wI S (o + 3) j v) := ly_qI h (by omega) (show kt 3 = (100, 16) from by decide) hj (by omega)
theorem kq_9 : ∀ i, i < 8 → kt (9 + 5 * i) = (100, 4) := by decide +kernel
theorem aI_s0 {β : Type} {o j i : Nat} {S : Sx} {f : Int32 → Option β} (h : Ly o S) (hi : i < 8) (hj : j < 4) : (aI S (o + (9 + 5 * i)) (nI j)).bind f = f (sI S (o + (9 + 5 * i)) j) := ly_aI h (by omega) (kq_9 i hi) hj (by omega)
theorem qI_s0 {β : Type} {o j i : Nat} {S : Sx} {v : Int32} {f : Sx → Option β} (h : Ly o S) (hi : i < 8) (hj : j < 4) : (qI S (o + (9 + 5 * i)) (nI j) v).bind f = f (wI S (o + (9 + 5 * i)) j v) := ly_qI h (by omega) (kq_9 i hi) hj (by omega)
theorem kq_10 : ∀ i, i < 8 → kt (10 + 5 * i) = (100, 4) := by decide +kernel
theorem aI_s1 {β : Type} {o j i : Nat} {S : Sx} {f : Int32 → Option β} (h : Ly o S) (hi : i < 8) (hj : j < 4) : (aI S (o + (10 + 5 * i)) (nI j)).bind f = f (sI S (o + (10 + 5 * i)) j) := ly_aI h (by omega) (kq_10 i hi) hj (by omega)
theorem qI_s1 {β : Type} {o j i : Nat} {S : Sx} {v : Int32} {f : Sx → Option β} (h : Ly o S) (hi : i < 8) (hj : j < 4) : (qI S (o + (10 + 5 * i)) (nI j) v).bind f = f (wI S (o + (10 + 5 * i)) j v) := ly_qI h (by omega) (kq_10 i hi) hj (by omega)
theorem kq_11 : ∀ i, i < 8 → kt (11 + 5 * i) = (100, 4) := by decide +kernel
theorem aI_s2 {β : Type} {o j i : Nat} {S : Sx} {f : Int32 → Option β} (h : Ly o S) (hi : i < 8) (hj : j < 4) : (aI S (o + (11 + 5 * i)) (nI j)).bind f = f (sI S (o + (11 + 5 * i)) j) := ly_aI h (by omega) (kq_11 i hi) hj (by omega)
theorem qI_s2 {β : Type} {o j i : Nat} {S : Sx} {v : Int32} {f : Sx → Option β} (h : Ly o S) (hi : i < 8) (hj : j < 4) : (qI S (o + (11 + 5 * i)) (nI j) v).bind f = f (wI S (o + (11 + 5 * i)) j v) := ly_qI h (by omega) (kq_11 i hi) hj (by omega)
theorem kq_12 : ∀ i, i < 8 → kt (12 + 5 * i) = (100, 4) := by decide +kernel
theorem aI_s3 {β : Type} {o j i : Nat} {S : Sx} {f : Int32 → Option β} (h : Ly o S) (hi : i < 8) (hj : j < 4) : (aI S (o + (12 + 5 * i)) (nI j)).bind f = f (sI S (o + (12 + 5 * i)) j) := ly_aI h (by omega) (kq_12 i hi) hj (by omega)
theorem qI_s3 {β : Type} {o j i : Nat} {S : Sx} {v : Int32} {f : Sx → Option β} (h : Ly o S) (hi : i < 8) (hj : j < 4) : (qI S (o + (12 + 5 * i)) (nI j) v).bind f = f (wI S (o + (12 + 5 * i)) j v) := ly_qI h (by omega) (kq_12 i hi) hj (by omega)
theorem kq_13 : ∀ i, i < 16 → kt (49 + 5 * i) = (100, 4) := by decide +kernel
theorem aI_a0 {β : Type} {o j i : Nat} {S : Sx} {f : Int32 → Option β} (h : Ly o S) (hi : i < 16) (hj : j < 4) : (aI S (o + (49 + 5 * i)) (nI j)).bind f = f (sI S (o + (49 + 5 * i)) j) := ly_aI h (by omega) (kq_13 i hi) hj (by omega)
theorem qI_a0 {β : Type} {o j i : Nat} {S : Sx} {v : Int32} {f : Sx → Option β} (h : Ly o S) (hi : i < 16) (hj : j < 4) : (qI S (o + (49 + 5 * i)) (nI j) v).bind f = f (wI S (o + (49 + 5 * i)) j v) := ly_qI h (by omega) (kq_13 i hi) hj (by omega)
theorem kq_14 : ∀ i, i < 16 → kt (50 + 5 * i) = (100, 4) := by decide +kernel
theorem aI_a1 {β : Type} {o j i : Nat} {S : Sx} {f : Int32 → Option β} (h : Ly o S) (hi : i < 16) (hj : j < 4) : (aI S (o + (50 + 5 * i)) (nI j)).bind f = f (sI S (o + (50 + 5 * i)) j) := ly_aI h (by omega) (kq_14 i hi) hj (by omega)
theorem qI_a1 {β : Type} {o j i : Nat} {S : Sx} {v : Int32} {f : Sx → Option β} (h : Ly o S) (hi : i < 16) (hj : j < 4) : (qI S (o + (50 + 5 * i)) (nI j) v).bind f = f (wI S (o + (50 + 5 * i)) j v) := ly_qI h (by omega) (kq_14 i hi) hj (by omega)
theorem kq_15 : ∀ i, i < 16 → kt (51 + 5 * i) = (100, 4) := by decide +kernel
theorem aI_a2 {β : Type} {o j i : Nat} {S : Sx} {f : Int32 → Option β} (h : Ly o S) (hi : i < 16) (hj : j < 4) : (aI S (o + (51 + 5 * i)) (nI j)).bind f = f (sI S (o + (51 + 5 * i)) j) := ly_aI h (by omega) (kq_15 i hi) hj (by omega)
theorem qI_a2 {β : Type} {o j i : Nat} {S : Sx} {v : Int32} {f : Sx → Option β} (h : Ly o S) (hi : i < 16) (hj : j < 4) : (qI S (o + (51 + 5 * i)) (nI j) v).bind f = f (wI S (o + (51 + 5 * i)) j v) := ly_qI h (by omega) (kq_15 i hi) hj (by omega)
theorem kq_16 : ∀ i, i < 16 → kt (52 + 5 * i) = (100, 4) := by decide +kernel
theorem aI_a3 {β : Type} {o j i : Nat} {S : Sx} {f : Int32 → Option β} (h : Ly o S) (hi : i < 16) (hj : j < 4) : (aI S (o + (52 + 5 * i)) (nI j)).bind f = f (sI S (o + (52 + 5 * i)) j) := ly_aI h (by omega) (kq_16 i hi) hj (by omega)
theorem qI_a3 {β : Type} {o j i : Nat} {S : Sx} {v : Int32} {f : Sx → Option β} (h : Ly o S) (hi : i < 16) (hj : j < 4) : (qI S (o + (52 + 5 * i)) (nI j) v).bind f = f (wI S (o + (52 + 5 * i)) j v) := ly_qI h (by omega) (kq_16 i hi) hj (by omega)
theorem aI_l0 {β : Type} {o j : Nat} {S : Sx} {f : Int32 → Option β} (h : Ly o S)  (hj : j < 16) : (aI S (o + 321) (nI j)).bind f = f (sI S (o + 321) j) := ly_aI h (by omega) (show kt 321 = (100, 16) from by decide) hj (by omega)
theorem qI_l0 {β : Type} {o j : Nat} {S : Sx} {v : Int32} {f : Sx → Option β} (h : Ly o S)  (hj : j < 16) : (qI S (o + 321) (nI j) v).bind f = f (wI S (o + 321) j v) := ly_qI h (by omega) (show kt 321 = (100, 16) from by decide) hj (by omega)
theorem aI_l1 {β : Type} {o j : Nat} {S : Sx} {f : Int32 → Option β} (h : Ly o S)  (hj : j < 13) : (aI S (o + 322) (nI j)).bind f = f (sI S (o + 322) j) := ly_aI h (by omega) (show kt 322 = (100, 13) from by decide) hj (by omega)
theorem qI_l1 {β : Type} {o j : Nat} {S : Sx} {v : Int32} {f : Sx → Option β} (h : Ly o S)  (hj : j < 13) : (qI S (o + 322) (nI j) v).bind f = f (wI S (o + 322) j v) := ly_qI h (by omega) (show kt 322 = (100, 13) from by decide) hj (by omega)
theorem aI_l2 {β : Type} {o j : Nat} {S : Sx} {f : Int32 → Option β} (h : Ly o S)  (hj : j < 8) : (aI S (o + 323) (nI j)).bind f = f (sI S (o + 323) j) := ly_aI h (by omega) (show kt 323 = (100, 8) from by decide) hj (by omega)
theorem qI_l2 {β : Type} {o j : Nat} {S : Sx} {v : Int32} {f : Sx → Option β} (h : Ly o S)  (hj : j < 8) : (qI S (o + 323) (nI j) v).bind f = f (wI S (o + 323) j v) := ly_qI h (by omega) (show kt 323 = (100, 8) from by decide) hj (by omega)
theorem aI_is {β : Type} {o j : Nat} {S : Sx} {f : Int32 → Option β} (h : Ly o S)  (hj : j < 12) : (aI S (o + 326) (nI j)).bind f = f (sI S (o + 326) j) := ly_aI h (by omega) (show kt 326 = (100, 12) from by decide) hj (by omega)
theorem qI_is {β : Type} {o j : Nat} {S : Sx} {v : Int32} {f : Sx → Option β} (h : Ly o S)  (hj : j < 12) : (qI S (o + 326) (nI j) v).bind f = f (wI S (o + 326) j v) := ly_qI h (by omega) (show kt 326 = (100, 12) from by decide) hj (by omega)
theorem aI_ar {β : Type} {o j : Nat} {S : Sx} {f : Int32 → Option β} (h : Ly o S)  (hj : j < 64) : (aI S (o + 327) (nI j)).bind f = f (sI S (o + 327) j) := ly_aI h (by omega) (show kt 327 = (100, 64) from by decide) hj (by omega)
theorem qI_ar {β : Type} {o j : Nat} {S : Sx} {v : Int32} {f : Sx → Option β} (h : Ly o S)  (hj : j < 64) : (qI S (o + 327) (nI j) v).bind f = f (wI S (o + 327) j v) := ly_qI h (by omega) (show kt 327 = (100, 64) from by decide) hj (by omega)
theorem kq_17 : ∀ i, i < 128 → kt (331 + 4 * i) = (100, 15) := by decide +kernel
theorem aI_ob {β : Type} {o j i : Nat} {S : Sx} {f : Int32 → Option β} (h : Ly o S) (hi : i < 128) (hj : j < 15) : (aI S (o + (331 + 4 * i)) (nI j)).bind f = f (sI S (o + (331 + 4 * i)) j) := ly_aI h (by omega) (kq_17 i hi) hj (by omega)
theorem qI_ob {β : Type} {o j i : Nat} {S : Sx} {v : Int32} {f : Sx → Option β} (h : Ly o S) (hi : i < 128) (hj : j < 15) : (qI S (o + (331 + 4 * i)) (nI j) v).bind f = f (wI S (o + (331 + 4 * i)) j v) := ly_qI h (by omega) (kq_17 i hi) hj (by omega)
theorem kq_18 : ∀ i, i < 16 → kt (841 + 3 * i) = (100, 16) := by decide +kernel
theorem aI_hw {β : Type} {o j i : Nat} {S : Sx} {f : Int32 → Option β} (h : Ly o S) (hi : i < 16) (hj : j < 16) : (aI S (o + (841 + 3 * i)) (nI j)).bind f = f (sI S (o + (841 + 3 * i)) j) := ly_aI h (by omega) (kq_18 i hi) hj (by omega)
theorem qI_hw {β : Type} {o j i : Nat} {S : Sx} {v : Int32} {f : Sx → Option β} (h : Ly o S) (hi : i < 16) (hj : j < 16) : (qI S (o + (841 + 3 * i)) (nI j) v).bind f = f (wI S (o + (841 + 3 * i)) j v) := ly_qI h (by omega) (kq_18 i hi) hj (by omega)
theorem kq_19 : ∀ i, i < 16 → kt (842 + 3 * i) = (100, 16) := by decide +kernel
theorem aI_ho {β : Type} {o j i : Nat} {S : Sx} {f : Int32 → Option β} (h : Ly o S) (hi : i < 16) (hj : j < 16) : (aI S (o + (842 + 3 * i)) (nI j)).bind f = f (sI S (o + (842 + 3 * i)) j) := ly_aI h (by omega) (kq_19 i hi) hj (by omega)
theorem qI_ho {β : Type} {o j i : Nat} {S : Sx} {v : Int32} {f : Sx → Option β} (h : Ly o S) (hi : i < 16) (hj : j < 16) : (qI S (o + (842 + 3 * i)) (nI j) v).bind f = f (wI S (o + (842 + 3 * i)) j v) := ly_qI h (by omega) (kq_19 i hi) hj (by omega)
theorem aI_rd {β : Type} {o j : Nat} {S : Sx} {f : Int32 → Option β} (h : Ly o S)  (hj : j < 15) : (aI S (o + 890) (nI j)).bind f = f (sI S (o + 890) j) := ly_aI h (by omega) (show kt 890 = (100, 15) from by decide) hj (by omega)
theorem qI_rd {β : Type} {o j : Nat} {S : Sx} {v : Int32} {f : Sx → Option β} (h : Ly o S)  (hj : j < 15) : (qI S (o + 890) (nI j) v).bind f = f (wI S (o + 890) j v) := ly_qI h (by omega) (show kt 890 = (100, 15) from by decide) hj (by omega)
theorem aI_tp {β : Type} {o j : Nat} {S : Sx} {f : Int32 → Option β} (h : Ly o S)  (hj : j < 15) : (aI S (o + 892) (nI j)).bind f = f (sI S (o + 892) j) := ly_aI h (by omega) (show kt 892 = (100, 15) from by decide) hj (by omega)
theorem qI_tp {β : Type} {o j : Nat} {S : Sx} {v : Int32} {f : Sx → Option β} (h : Ly o S)  (hj : j < 15) : (qI S (o + 892) (nI j) v).bind f = f (wI S (o + 892) j v) := ly_qI h (by omega) (show kt 892 = (100, 15) from by decide) hj (by omega)
theorem aI_m1 {β : Type} {o j : Nat} {S : Sx} {f : Int32 → Option β} (h : Ly o S)  (hj : j < 16) : (aI S (o + 894) (nI j)).bind f = f (sI S (o + 894) j) := ly_aI h (by omega) (show kt 894 = (100, 16) from by decide) hj (by omega)
theorem qI_m1 {β : Type} {o j : Nat} {S : Sx} {v : Int32} {f : Sx → Option β} (h : Ly o S)  (hj : j < 16) : (qI S (o + 894) (nI j) v).bind f = f (wI S (o + 894) j v) := ly_qI h (by omega) (show kt 894 = (100, 16) from by decide) hj (by omega)
theorem aI_m2 {β : Type} {o j : Nat} {S : Sx} {f : Int32 → Option β} (h : Ly o S)  (hj : j < 32) : (aI S (o + 895) (nI j)).bind f = f (sI S (o + 895) j) := ly_aI h (by omega) (show kt 895 = (100, 32) from by decide) hj (by omega)
theorem qI_m2 {β : Type} {o j : Nat} {S : Sx} {v : Int32} {f : Sx → Option β} (h : Ly o S)  (hj : j < 32) : (qI S (o + 895) (nI j) v).bind f = f (wI S (o + 895) j v) := ly_qI h (by omega) (show kt 895 = (100, 32) from by decide) hj (by omega)
theorem aI_m3 {β : Type} {o j : Nat} {S : Sx} {f : Int32 → Option β} (h : Ly o S)  (hj : j < 8) : (aI S (o + 896) (nI j)).bind f = f (sI S (o + 896) j) := ly_aI h (by omega) (show kt 896 = (100, 8) from by decide) hj (by omega)
theorem qI_m3 {β : Type} {o j : Nat} {S : Sx} {v : Int32} {f : Sx → Option β} (h : Ly o S)  (hj : j < 8) : (qI S (o + 896) (nI j) v).bind f = f (wI S (o + 896) j v) := ly_qI h (by omega) (show kt 896 = (100, 8) from by decide) hj (by omega)
theorem aI_m4 {β : Type} {o j : Nat} {S : Sx} {f : Int32 → Option β} (h : Ly o S)  (hj : j < 8) : (aI S (o + 897) (nI j)).bind f = f (sI S (o + 897) j) := ly_aI h (by omega) (show kt 897 = (100, 8) from by decide) hj (by omega)
theorem qI_m4 {β : Type} {o j : Nat} {S : Sx} {v : Int32} {f : Sx → Option β} (h : Ly o S)  (hj : j < 8) : (qI S (o + 897) (nI j) v).bind f = f (wI S (o + 897) j v) := ly_qI h (by omega) (show kt 897 = (100, 8) from by decide) hj (by omega)
theorem aI_m5 {β : Type} {o j : Nat} {S : Sx} {f : Int32 → Option β} (h : Ly o S)  (hj : j < 32) : (aI S (o + 898) (nI j)).bind f = f (sI S (o + 898) j) := ly_aI h (by omega) (show kt 898 = (100, 32) from by decide) hj (by omega)
theorem qI_m5 {β : Type} {o j : Nat} {S : Sx} {v : Int32} {f : Sx → Option β} (h : Ly o S)  (hj : j < 32) : (qI S (o + 898) (nI j) v).bind f = f (wI S (o + 898) j v) := ly_qI h (by omega) (show kt 898 = (100, 32) from by decide) hj (by omega)
theorem aI_m6 {β : Type} {o j : Nat} {S : Sx} {f : Int32 → Option β} (h : Ly o S)  (hj : j < 32) : (aI S (o + 899) (nI j)).bind f = f (sI S (o + 899) j) := ly_aI h (by omega) (show kt 899 = (100, 32) from by decide) hj (by omega)
theorem qI_m6 {β : Type} {o j : Nat} {S : Sx} {v : Int32} {f : Sx → Option β} (h : Ly o S)  (hj : j < 32) : (qI S (o + 899) (nI j) v).bind f = f (wI S (o + 899) j v) := ly_qI h (by omega) (show kt 899 = (100, 32) from by decide) hj (by omega)
theorem aI_m7 {β : Type} {o j : Nat} {S : Sx} {f : Int32 → Option β} (h : Ly o S)  (hj : j < 32) : (aI S (o + 900) (nI j)).bind f = f (sI S (o + 900) j) := ly_aI h (by omega) (show kt 900 = (100, 32) from by decide) hj (by omega)
theorem qI_m7 {β : Type} {o j : Nat} {S : Sx} {v : Int32} {f : Sx → Option β} (h : Ly o S)  (hj : j < 32) : (qI S (o + 900) (nI j) v).bind f = f (wI S (o + 900) j v) := ly_qI h (by omega) (show kt 900 = (100, 32) from by decide) hj (by omega)
theorem aI_m8 {β : Type} {o j : Nat} {S : Sx} {f : Int32 → Option β} (h : Ly o S)  (hj : j < 8) : (aI S (o + 901) (nI j)).bind f = f (sI S (o + 901) j) := ly_aI h (by omega) (show kt 901 = (100, 8) from by decide) hj (by omega)
theorem qI_m8 {β : Type} {o j : Nat} {S : Sx} {v : Int32} {f : Sx → Option β} (h : Ly o S)  (hj : j < 8) : (qI S (o + 901) (nI j) v).bind f = f (wI S (o + 901) j v) := ly_qI h (by omega) (show kt 901 = (100, 8) from by decide) hj (by omega)
theorem aI_m9 {β : Type} {o j : Nat} {S : Sx} {f : Int32 → Option β} (h : Ly o S)  (hj : j < 16) : (aI S (o + 902) (nI j)).bind f = f (sI S (o + 902) j) := ly_aI h (by omega) (show kt 902 = (100, 16) from by decide) hj (by omega)
theorem qI_m9 {β : Type} {o j : Nat} {S : Sx} {v : Int32} {f : Sx → Option β} (h : Ly o S)  (hj : j < 16) : (qI S (o + 902) (nI j) v).bind f = f (wI S (o + 902) j v) := ly_qI h (by omega) (show kt 902 = (100, 16) from by decide) hj (by omega)
theorem aI_m10 {β : Type} {o j : Nat} {S : Sx} {f : Int32 → Option β} (h : Ly o S)  (hj : j < 64) : (aI S (o + 903) (nI j)).bind f = f (sI S (o + 903) j) := ly_aI h (by omega) (show kt 903 = (100, 64) from by decide) hj (by omega)
theorem qI_m10 {β : Type} {o j : Nat} {S : Sx} {v : Int32} {f : Sx → Option β} (h : Ly o S)  (hj : j < 64) : (qI S (o + 903) (nI j) v).bind f = f (wI S (o + 903) j v) := ly_qI h (by omega) (show kt 903 = (100, 64) from by decide) hj (by omega)
theorem aI_m11 {β : Type} {o j : Nat} {S : Sx} {f : Int32 → Option β} (h : Ly o S)  (hj : j < 64) : (aI S (o + 904) (nI j)).bind f = f (sI S (o + 904) j) := ly_aI h (by omega) (show kt 904 = (100, 64) from by decide) hj (by omega)
theorem qI_m11 {β : Type} {o j : Nat} {S : Sx} {v : Int32} {f : Sx → Option β} (h : Ly o S)  (hj : j < 64) : (qI S (o + 904) (nI j) v).bind f = f (wI S (o + 904) j v) := ly_qI h (by omega) (show kt 904 = (100, 64) from by decide) hj (by omega)
theorem aI_m12 {β : Type} {o j : Nat} {S : Sx} {f : Int32 → Option β} (h : Ly o S)  (hj : j < 64) : (aI S (o + 905) (nI j)).bind f = f (sI S (o + 905) j) := ly_aI h (by omega) (show kt 905 = (100, 64) from by decide) hj (by omega)
theorem qI_m12 {β : Type} {o j : Nat} {S : Sx} {v : Int32} {f : Sx → Option β} (h : Ly o S)  (hj : j < 64) : (qI S (o + 905) (nI j) v).bind f = f (wI S (o + 905) j v) := ly_qI h (by omega) (show kt 905 = (100, 64) from by decide) hj (by omega)
theorem aI_m13 {β : Type} {o j : Nat} {S : Sx} {f : Int32 → Option β} (h : Ly o S)  (hj : j < 64) : (aI S (o + 906) (nI j)).bind f = f (sI S (o + 906) j) := ly_aI h (by omega) (show kt 906 = (100, 64) from by decide) hj (by omega)
theorem qI_m13 {β : Type} {o j : Nat} {S : Sx} {v : Int32} {f : Sx → Option β} (h : Ly o S)  (hj : j < 64) : (qI S (o + 906) (nI j) v).bind f = f (wI S (o + 906) j v) := ly_qI h (by omega) (show kt 906 = (100, 64) from by decide) hj (by omega)
theorem aI_m14 {β : Type} {o j : Nat} {S : Sx} {f : Int32 → Option β} (h : Ly o S)  (hj : j < 8) : (aI S (o + 907) (nI j)).bind f = f (sI S (o + 907) j) := ly_aI h (by omega) (show kt 907 = (100, 8) from by decide) hj (by omega)
theorem qI_m14 {β : Type} {o j : Nat} {S : Sx} {v : Int32} {f : Sx → Option β} (h : Ly o S)  (hj : j < 8) : (qI S (o + 907) (nI j) v).bind f = f (wI S (o + 907) j v) := ly_qI h (by omega) (show kt 907 = (100, 8) from by decide) hj (by omega)
theorem aI_m15 {β : Type} {o j : Nat} {S : Sx} {f : Int32 → Option β} (h : Ly o S)  (hj : j < 8) : (aI S (o + 908) (nI j)).bind f = f (sI S (o + 908) j) := ly_aI h (by omega) (show kt 908 = (100, 8) from by decide) hj (by omega)
theorem qI_m15 {β : Type} {o j : Nat} {S : Sx} {v : Int32} {f : Sx → Option β} (h : Ly o S)  (hj : j < 8) : (qI S (o + 908) (nI j) v).bind f = f (wI S (o + 908) j v) := ly_qI h (by omega) (show kt 908 = (100, 8) from by decide) hj (by omega)
theorem aI_m16 {β : Type} {o j : Nat} {S : Sx} {f : Int32 → Option β} (h : Ly o S)  (hj : j < 8) : (aI S (o + 909) (nI j)).bind f = f (sI S (o + 909) j) := ly_aI h (by omega) (show kt 909 = (100, 8) from by decide) hj (by omega)
theorem qI_m16 {β : Type} {o j : Nat} {S : Sx} {v : Int32} {f : Sx → Option β} (h : Ly o S)  (hj : j < 8) : (qI S (o + 909) (nI j) v).bind f = f (wI S (o + 909) j v) := ly_qI h (by omega) (show kt 909 = (100, 8) from by decide) hj (by omega)
theorem aI_m17 {β : Type} {o j : Nat} {S : Sx} {f : Int32 → Option β} (h : Ly o S)  (hj : j < 8) : (aI S (o + 910) (nI j)).bind f = f (sI S (o + 910) j) := ly_aI h (by omega) (show kt 910 = (100, 8) from by decide) hj (by omega)
theorem qI_m17 {β : Type} {o j : Nat} {S : Sx} {v : Int32} {f : Sx → Option β} (h : Ly o S)  (hj : j < 8) : (qI S (o + 910) (nI j) v).bind f = f (wI S (o + 910) j v) := ly_qI h (by omega) (show kt 910 = (100, 8) from by decide) hj (by omega)
theorem aI_m18 {β : Type} {o j : Nat} {S : Sx} {f : Int32 → Option β} (h : Ly o S)  (hj : j < 8) : (aI S (o + 911) (nI j)).bind f = f (sI S (o + 911) j) := ly_aI h (by omega) (show kt 911 = (100, 8) from by decide) hj (by omega)
theorem qI_m18 {β : Type} {o j : Nat} {S : Sx} {v : Int32} {f : Sx → Option β} (h : Ly o S)  (hj : j < 8) : (qI S (o + 911) (nI j) v).bind f = f (wI S (o + 911) j v) := ly_qI h (by omega) (show kt 911 = (100, 8) from by decide) hj (by omega)
theorem aI_m19 {β : Type} {o j : Nat} {S : Sx} {f : Int32 → Option β} (h : Ly o S)  (hj : j < 8) : (aI S (o + 912) (nI j)).bind f = f (sI S (o + 912) j) := ly_aI h (by omega) (show kt 912 = (100, 8) from by decide) hj (by omega)
theorem qI_m19 {β : Type} {o j : Nat} {S : Sx} {v : Int32} {f : Sx → Option β} (h : Ly o S)  (hj : j < 8) : (qI S (o + 912) (nI j) v).bind f = f (wI S (o + 912) j v) := ly_qI h (by omega) (show kt 912 = (100, 8) from by decide) hj (by omega)
theorem aI_m20 {β : Type} {o j : Nat} {S : Sx} {f : Int32 → Option β} (h : Ly o S)  (hj : j < 16) : (aI S (o + 913) (nI j)).bind f = f (sI S (o + 913) j) := ly_aI h (by omega) (show kt 913 = (100, 16) from by decide) hj (by omega)
theorem qI_m20 {β : Type} {o j : Nat} {S : Sx} {v : Int32} {f : Sx → Option β} (h : Ly o S)  (hj : j < 16) : (qI S (o + 913) (nI j) v).bind f = f (wI S (o + 913) j v) := ly_qI h (by omega) (show kt 913 = (100, 16) from by decide) hj (by omega)
theorem aI_m21 {β : Type} {o j : Nat} {S : Sx} {f : Int32 → Option β} (h : Ly o S)  (hj : j < 16) : (aI S (o + 914) (nI j)).bind f = f (sI S (o + 914) j) := ly_aI h (by omega) (show kt 914 = (100, 16) from by decide) hj (by omega)
theorem qI_m21 {β : Type} {o j : Nat} {S : Sx} {v : Int32} {f : Sx → Option β} (h : Ly o S)  (hj : j < 16) : (qI S (o + 914) (nI j) v).bind f = f (wI S (o + 914) j v) := ly_qI h (by omega) (show kt 914 = (100, 16) from by decide) hj (by omega)
theorem aI_m22 {β : Type} {o j : Nat} {S : Sx} {f : Int32 → Option β} (h : Ly o S)  (hj : j < 16) : (aI S (o + 915) (nI j)).bind f = f (sI S (o + 915) j) := ly_aI h (by omega) (show kt 915 = (100, 16) from by decide) hj (by omega)
theorem qI_m22 {β : Type} {o j : Nat} {S : Sx} {v : Int32} {f : Sx → Option β} (h : Ly o S)  (hj : j < 16) : (qI S (o + 915) (nI j) v).bind f = f (wI S (o + 915) j v) := ly_qI h (by omega) (show kt 915 = (100, 16) from by decide) hj (by omega)
theorem aI_m23 {β : Type} {o j : Nat} {S : Sx} {f : Int32 → Option β} (h : Ly o S)  (hj : j < 16) : (aI S (o + 916) (nI j)).bind f = f (sI S (o + 916) j) := ly_aI h (by omega) (show kt 916 = (100, 16) from by decide) hj (by omega)
theorem qI_m23 {β : Type} {o j : Nat} {S : Sx} {v : Int32} {f : Sx → Option β} (h : Ly o S)  (hj : j < 16) : (qI S (o + 916) (nI j) v).bind f = f (wI S (o + 916) j v) := ly_qI h (by omega) (show kt 916 = (100, 16) from by decide) hj (by omega)
theorem aI_m24 {β : Type} {o j : Nat} {S : Sx} {f : Int32 → Option β} (h : Ly o S)  (hj : j < 16) : (aI S (o + 917) (nI j)).bind f = f (sI S (o + 917) j) := ly_aI h (by omega) (show kt 917 = (100, 16) from by decide) hj (by omega)
theorem qI_m24 {β : Type} {o j : Nat} {S : Sx} {v : Int32} {f : Sx → Option β} (h : Ly o S)  (hj : j < 16) : (qI S (o + 917) (nI j) v).bind f = f (wI S (o + 917) j v) := ly_qI h (by omega) (show kt 917 = (100, 16) from by decide) hj (by omega)
theorem aI_m25 {β : Type} {o j : Nat} {S : Sx} {f : Int32 → Option β} (h : Ly o S)  (hj : j < 16) : (aI S (o + 918) (nI j)).bind f = f (sI S (o + 918) j) := ly_aI h (by omega) (show kt 918 = (100, 16) from by decide) hj (by omega)
theorem qI_m25 {β : Type} {o j : Nat} {S : Sx} {v : Int32} {f : Sx → Option β} (h : Ly o S)  (hj : j < 16) : (qI S (o + 918) (nI j) v).bind f = f (wI S (o + 918) j v) := ly_qI h (by omega) (show kt 918 = (100, 16) from by decide) hj (by omega)
theorem aI_m26 {β : Type} {o j : Nat} {S : Sx} {f : Int32 → Option β} (h : Ly o S)  (hj : j < 8) : (aI S (o + 919) (nI j)).bind f = f (sI S (o + 919) j) := ly_aI h (by omega) (show kt 919 = (100, 8) from by decide) hj (by omega)
theorem qI_m26 {β : Type} {o j : Nat} {S : Sx} {v : Int32} {f : Sx → Option β} (h : Ly o S)  (hj : j < 8) : (qI S (o + 919) (nI j) v).bind f = f (wI S (o + 919) j v) := ly_qI h (by omega) (show kt 919 = (100, 8) from by decide) hj (by omega)
theorem aI_m27 {β : Type} {o j : Nat} {S : Sx} {f : Int32 → Option β} (h : Ly o S)  (hj : j < 160) : (aI S (o + 920) (nI j)).bind f = f (sI S (o + 920) j) := ly_aI h (by omega) (show kt 920 = (100, 160) from by decide) hj (by omega)
theorem qI_m27 {β : Type} {o j : Nat} {S : Sx} {v : Int32} {f : Sx → Option β} (h : Ly o S)  (hj : j < 160) : (qI S (o + 920) (nI j) v).bind f = f (wI S (o + 920) j v) := ly_qI h (by omega) (show kt 920 = (100, 160) from by decide) hj (by omega)
theorem aI_m28 {β : Type} {o j : Nat} {S : Sx} {f : Int32 → Option β} (h : Ly o S)  (hj : j < 160) : (aI S (o + 921) (nI j)).bind f = f (sI S (o + 921) j) := ly_aI h (by omega) (show kt 921 = (100, 160) from by decide) hj (by omega)
theorem qI_m28 {β : Type} {o j : Nat} {S : Sx} {v : Int32} {f : Sx → Option β} (h : Ly o S)  (hj : j < 160) : (qI S (o + 921) (nI j) v).bind f = f (wI S (o + 921) j v) := ly_qI h (by omega) (show kt 921 = (100, 160) from by decide) hj (by omega)
theorem aI_m29 {β : Type} {o j : Nat} {S : Sx} {f : Int32 → Option β} (h : Ly o S)  (hj : j < 160) : (aI S (o + 922) (nI j)).bind f = f (sI S (o + 922) j) := ly_aI h (by omega) (show kt 922 = (100, 160) from by decide) hj (by omega)
theorem qI_m29 {β : Type} {o j : Nat} {S : Sx} {v : Int32} {f : Sx → Option β} (h : Ly o S)  (hj : j < 160) : (qI S (o + 922) (nI j) v).bind f = f (wI S (o + 922) j v) := ly_qI h (by omega) (show kt 922 = (100, 160) from by decide) hj (by omega)
theorem aI_m30 {β : Type} {o j : Nat} {S : Sx} {f : Int32 → Option β} (h : Ly o S)  (hj : j < 160) : (aI S (o + 923) (nI j)).bind f = f (sI S (o + 923) j) := ly_aI h (by omega) (show kt 923 = (100, 160) from by decide) hj (by omega)
theorem qI_m30 {β : Type} {o j : Nat} {S : Sx} {v : Int32} {f : Sx → Option β} (h : Ly o S)  (hj : j < 160) : (qI S (o + 923) (nI j) v).bind f = f (wI S (o + 923) j v) := ly_qI h (by omega) (show kt 923 = (100, 160) from by decide) hj (by omega)
theorem aI_m31 {β : Type} {o j : Nat} {S : Sx} {f : Int32 → Option β} (h : Ly o S)  (hj : j < 160) : (aI S (o + 924) (nI j)).bind f = f (sI S (o + 924) j) := ly_aI h (by omega) (show kt 924 = (100, 160) from by decide) hj (by omega)
theorem qI_m31 {β : Type} {o j : Nat} {S : Sx} {v : Int32} {f : Sx → Option β} (h : Ly o S)  (hj : j < 160) : (qI S (o + 924) (nI j) v).bind f = f (wI S (o + 924) j v) := ly_qI h (by omega) (show kt 924 = (100, 160) from by decide) hj (by omega)
theorem aI_m32 {β : Type} {o j : Nat} {S : Sx} {f : Int32 → Option β} (h : Ly o S)  (hj : j < 160) : (aI S (o + 925) (nI j)).bind f = f (sI S (o + 925) j) := ly_aI h (by omega) (show kt 925 = (100, 160) from by decide) hj (by omega)
theorem qI_m32 {β : Type} {o j : Nat} {S : Sx} {v : Int32} {f : Sx → Option β} (h : Ly o S)  (hj : j < 160) : (qI S (o + 925) (nI j) v).bind f = f (wI S (o + 925) j v) := ly_qI h (by omega) (show kt 925 = (100, 160) from by decide) hj (by omega)
theorem aI_m33 {β : Type} {o j : Nat} {S : Sx} {f : Int32 → Option β} (h : Ly o S)  (hj : j < 160) : (aI S (o + 926) (nI j)).bind f = f (sI S (o + 926) j) := ly_aI h (by omega) (show kt 926 = (100, 160) from by decide) hj (by omega)
theorem qI_m33 {β : Type} {o j : Nat} {S : Sx} {v : Int32} {f : Sx → Option β} (h : Ly o S)  (hj : j < 160) : (qI S (o + 926) (nI j) v).bind f = f (wI S (o + 926) j v) := ly_qI h (by omega) (show kt 926 = (100, 160) from by decide) hj (by omega)
theorem aI_m34 {β : Type} {o j : Nat} {S : Sx} {f : Int32 → Option β} (h : Ly o S)  (hj : j < 160) : (aI S (o + 927) (nI j)).bind f = f (sI S (o + 927) j) := ly_aI h (by omega) (show kt 927 = (100, 160) from by decide) hj (by omega)
theorem qI_m34 {β : Type} {o j : Nat} {S : Sx} {v : Int32} {f : Sx → Option β} (h : Ly o S)  (hj : j < 160) : (qI S (o + 927) (nI j) v).bind f = f (wI S (o + 927) j v) := ly_qI h (by omega) (show kt 927 = (100, 160) from by decide) hj (by omega)
theorem aI_m35 {β : Type} {o j : Nat} {S : Sx} {f : Int32 → Option β} (h : Ly o S)  (hj : j < 64) : (aI S (o + 928) (nI j)).bind f = f (sI S (o + 928) j) := ly_aI h (by omega) (show kt 928 = (100, 64) from by decide) hj (by omega)
theorem qI_m35 {β : Type} {o j : Nat} {S : Sx} {v : Int32} {f : Sx → Option β} (h : Ly o S)  (hj : j < 64) : (qI S (o + 928) (nI j) v).bind f = f (wI S (o + 928) j v) := ly_qI h (by omega) (show kt 928 = (100, 64) from by decide) hj (by omega)
theorem aI_m36 {β : Type} {o j : Nat} {S : Sx} {f : Int32 → Option β} (h : Ly o S)  (hj : j < 20) : (aI S (o + 929) (nI j)).bind f = f (sI S (o + 929) j) := ly_aI h (by omega) (show kt 929 = (100, 20) from by decide) hj (by omega)
theorem qI_m36 {β : Type} {o j : Nat} {S : Sx} {v : Int32} {f : Sx → Option β} (h : Ly o S)  (hj : j < 20) : (qI S (o + 929) (nI j) v).bind f = f (wI S (o + 929) j v) := ly_qI h (by omega) (show kt 929 = (100, 20) from by decide) hj (by omega)
theorem aI_m37 {β : Type} {o j : Nat} {S : Sx} {f : Int32 → Option β} (h : Ly o S)  (hj : j < 60) : (aI S (o + 930) (nI j)).bind f = f (sI S (o + 930) j) := ly_aI h (by omega) (show kt 930 = (100, 60) from by decide) hj (by omega)
theorem qI_m37 {β : Type} {o j : Nat} {S : Sx} {v : Int32} {f : Sx → Option β} (h : Ly o S)  (hj : j < 60) : (qI S (o + 930) (nI j) v).bind f = f (wI S (o + 930) j v) := ly_qI h (by omega) (show kt 930 = (100, 60) from by decide) hj (by omega)
theorem aI_m38 {β : Type} {o j : Nat} {S : Sx} {f : Int32 → Option β} (h : Ly o S)  (hj : j < 41) : (aI S (o + 931) (nI j)).bind f = f (sI S (o + 931) j) := ly_aI h (by omega) (show kt 931 = (100, 41) from by decide) hj (by omega)
theorem qI_m38 {β : Type} {o j : Nat} {S : Sx} {v : Int32} {f : Sx → Option β} (h : Ly o S)  (hj : j < 41) : (qI S (o + 931) (nI j) v).bind f = f (wI S (o + 931) j v) := ly_qI h (by omega) (show kt 931 = (100, 41) from by decide) hj (by omega)
theorem aI_m39 {β : Type} {o j : Nat} {S : Sx} {f : Int32 → Option β} (h : Ly o S)  (hj : j < 41) : (aI S (o + 932) (nI j)).bind f = f (sI S (o + 932) j) := ly_aI h (by omega) (show kt 932 = (100, 41) from by decide) hj (by omega)
theorem qI_m39 {β : Type} {o j : Nat} {S : Sx} {v : Int32} {f : Sx → Option β} (h : Ly o S)  (hj : j < 41) : (qI S (o + 932) (nI j) v).bind f = f (wI S (o + 932) j v) := ly_qI h (by omega) (show kt 932 = (100, 41) from by decide) hj (by omega)
theorem aI_m40 {β : Type} {o j : Nat} {S : Sx} {f : Int32 → Option β} (h : Ly o S)  (hj : j < 2460) : (aI S (o + 933) (nI j)).bind f = f (sI S (o + 933) j) := ly_aI h (by omega) (show kt 933 = (100, 2460) from by decide) hj (by omega)
theorem qI_m40 {β : Type} {o j : Nat} {S : Sx} {v : Int32} {f : Sx → Option β} (h : Ly o S)  (hj : j < 2460) : (qI S (o + 933) (nI j) v).bind f = f (wI S (o + 933) j v) := ly_qI h (by omega) (show kt 933 = (100, 2460) from by decide) hj (by omega)
theorem aI_m41 {β : Type} {o j : Nat} {S : Sx} {f : Int32 → Option β} (h : Ly o S)  (hj : j < 41) : (aI S (o + 934) (nI j)).bind f = f (sI S (o + 934) j) := ly_aI h (by omega) (show kt 934 = (100, 41) from by decide) hj (by omega)
theorem qI_m41 {β : Type} {o j : Nat} {S : Sx} {v : Int32} {f : Sx → Option β} (h : Ly o S)  (hj : j < 41) : (qI S (o + 934) (nI j) v).bind f = f (wI S (o + 934) j v) := ly_qI h (by omega) (show kt 934 = (100, 41) from by decide) hj (by omega)
theorem aI_m42 {β : Type} {o j : Nat} {S : Sx} {f : Int32 → Option β} (h : Ly o S)  (hj : j < 164) : (aI S (o + 935) (nI j)).bind f = f (sI S (o + 935) j) := ly_aI h (by omega) (show kt 935 = (100, 164) from by decide) hj (by omega)
theorem qI_m42 {β : Type} {o j : Nat} {S : Sx} {v : Int32} {f : Sx → Option β} (h : Ly o S)  (hj : j < 164) : (qI S (o + 935) (nI j) v).bind f = f (wI S (o + 935) j v) := ly_qI h (by omega) (show kt 935 = (100, 164) from by decide) hj (by omega)
theorem aI_m43 {β : Type} {o j : Nat} {S : Sx} {f : Int32 → Option β} (h : Ly o S)  (hj : j < 41) : (aI S (o + 936) (nI j)).bind f = f (sI S (o + 936) j) := ly_aI h (by omega) (show kt 936 = (100, 41) from by decide) hj (by omega)
theorem qI_m43 {β : Type} {o j : Nat} {S : Sx} {v : Int32} {f : Sx → Option β} (h : Ly o S)  (hj : j < 41) : (qI S (o + 936) (nI j) v).bind f = f (wI S (o + 936) j v) := ly_qI h (by omega) (show kt 936 = (100, 41) from by decide) hj (by omega)
theorem aI_m44 {β : Type} {o j : Nat} {S : Sx} {f : Int32 → Option β} (h : Ly o S)  (hj : j < 41) : (aI S (o + 937) (nI j)).bind f = f (sI S (o + 937) j) := ly_aI h (by omega) (show kt 937 = (100, 41) from by decide) hj (by omega)
theorem qI_m44 {β : Type} {o j : Nat} {S : Sx} {v : Int32} {f : Sx → Option β} (h : Ly o S)  (hj : j < 41) : (qI S (o + 937) (nI j) v).bind f = f (wI S (o + 937) j v) := ly_qI h (by omega) (show kt 937 = (100, 41) from by decide) hj (by omega)
theorem aI_m45 {β : Type} {o j : Nat} {S : Sx} {f : Int32 → Option β} (h : Ly o S)  (hj : j < 41) : (aI S (o + 938) (nI j)).bind f = f (sI S (o + 938) j) := ly_aI h (by omega) (show kt 938 = (100, 41) from by decide) hj (by omega)
theorem qI_m45 {β : Type} {o j : Nat} {S : Sx} {v : Int32} {f : Sx → Option β} (h : Ly o S)  (hj : j < 41) : (qI S (o + 938) (nI j) v).bind f = f (wI S (o + 938) j v) := ly_qI h (by omega) (show kt 938 = (100, 41) from by decide) hj (by omega)
theorem aI_m46 {β : Type} {o j : Nat} {S : Sx} {f : Int32 → Option β} (h : Ly o S)  (hj : j < 41) : (aI S (o + 939) (nI j)).bind f = f (sI S (o + 939) j) := ly_aI h (by omega) (show kt 939 = (100, 41) from by decide) hj (by omega)
theorem qI_m46 {β : Type} {o j : Nat} {S : Sx} {v : Int32} {f : Sx → Option β} (h : Ly o S)  (hj : j < 41) : (qI S (o + 939) (nI j) v).bind f = f (wI S (o + 939) j v) := ly_qI h (by omega) (show kt 939 = (100, 41) from by decide) hj (by omega)
theorem aI_m47 {β : Type} {o j : Nat} {S : Sx} {f : Int32 → Option β} (h : Ly o S)  (hj : j < 128) : (aI S (o + 940) (nI j)).bind f = f (sI S (o + 940) j) := ly_aI h (by omega) (show kt 940 = (100, 128) from by decide) hj (by omega)
theorem qI_m47 {β : Type} {o j : Nat} {S : Sx} {v : Int32} {f : Sx → Option β} (h : Ly o S)  (hj : j < 128) : (qI S (o + 940) (nI j) v).bind f = f (wI S (o + 940) j v) := ly_qI h (by omega) (show kt 940 = (100, 128) from by decide) hj (by omega)
theorem aI_m48 {β : Type} {o j : Nat} {S : Sx} {f : Int32 → Option β} (h : Ly o S)  (hj : j < 128) : (aI S (o + 941) (nI j)).bind f = f (sI S (o + 941) j) := ly_aI h (by omega) (show kt 941 = (100, 128) from by decide) hj (by omega)
theorem qI_m48 {β : Type} {o j : Nat} {S : Sx} {v : Int32} {f : Sx → Option β} (h : Ly o S)  (hj : j < 128) : (qI S (o + 941) (nI j) v).bind f = f (wI S (o + 941) j v) := ly_qI h (by omega) (show kt 941 = (100, 128) from by decide) hj (by omega)
theorem aI_m49 {β : Type} {o j : Nat} {S : Sx} {f : Int32 → Option β} (h : Ly o S)  (hj : j < 128) : (aI S (o + 942) (nI j)).bind f = f (sI S (o + 942) j) := ly_aI h (by omega) (show kt 942 = (100, 128) from by decide) hj (by omega)
theorem qI_m49 {β : Type} {o j : Nat} {S : Sx} {v : Int32} {f : Sx → Option β} (h : Ly o S)  (hj : j < 128) : (qI S (o + 942) (nI j) v).bind f = f (wI S (o + 942) j v) := ly_qI h (by omega) (show kt 942 = (100, 128) from by decide) hj (by omega)
theorem aI_m50 {β : Type} {o j : Nat} {S : Sx} {f : Int32 → Option β} (h : Ly o S)  (hj : j < 128) : (aI S (o + 943) (nI j)).bind f = f (sI S (o + 943) j) := ly_aI h (by omega) (show kt 943 = (100, 128) from by decide) hj (by omega)
theorem qI_m50 {β : Type} {o j : Nat} {S : Sx} {v : Int32} {f : Sx → Option β} (h : Ly o S)  (hj : j < 128) : (qI S (o + 943) (nI j) v).bind f = f (wI S (o + 943) j v) := ly_qI h (by omega) (show kt 943 = (100, 128) from by decide) hj (by omega)
theorem aI_m51 {β : Type} {o j : Nat} {S : Sx} {f : Int32 → Option β} (h : Ly o S)  (hj : j < 7680) : (aI S (o + 944) (nI j)).bind f = f (sI S (o + 944) j) := ly_aI h (by omega) (show kt 944 = (100, 7680) from by decide) hj (by omega)
theorem qI_m51 {β : Type} {o j : Nat} {S : Sx} {v : Int32} {f : Sx → Option β} (h : Ly o S)  (hj : j < 7680) : (qI S (o + 944) (nI j) v).bind f = f (wI S (o + 944) j v) := ly_qI h (by omega) (show kt 944 = (100, 7680) from by decide) hj (by omega)
theorem aI_m52 {β : Type} {o j : Nat} {S : Sx} {f : Int32 → Option β} (h : Ly o S)  (hj : j < 128) : (aI S (o + 945) (nI j)).bind f = f (sI S (o + 945) j) := ly_aI h (by omega) (show kt 945 = (100, 128) from by decide) hj (by omega)
theorem qI_m52 {β : Type} {o j : Nat} {S : Sx} {v : Int32} {f : Sx → Option β} (h : Ly o S)  (hj : j < 128) : (qI S (o + 945) (nI j) v).bind f = f (wI S (o + 945) j v) := ly_qI h (by omega) (show kt 945 = (100, 128) from by decide) hj (by omega)
theorem aI_m54 {β : Type} {o j : Nat} {S : Sx} {f : Int32 → Option β} (h : Ly o S)  (hj : j < 16) : (aI S (o + 947) (nI j)).bind f = f (sI S (o + 947) j) := ly_aI h (by omega) (show kt 947 = (100, 16) from by decide) hj (by omega)
theorem qI_m54 {β : Type} {o j : Nat} {S : Sx} {v : Int32} {f : Sx → Option β} (h : Ly o S)  (hj : j < 16) : (qI S (o + 947) (nI j) v).bind f = f (wI S (o + 947) j v) := ly_qI h (by omega) (show kt 947 = (100, 16) from by decide) hj (by omega)
theorem aI_m55 {β : Type} {o j : Nat} {S : Sx} {f : Int32 → Option β} (h : Ly o S)  (hj : j < 16) : (aI S (o + 948) (nI j)).bind f = f (sI S (o + 948) j) := ly_aI h (by omega) (show kt 948 = (100, 16) from by decide) hj (by omega)
theorem qI_m55 {β : Type} {o j : Nat} {S : Sx} {v : Int32} {f : Sx → Option β} (h : Ly o S)  (hj : j < 16) : (qI S (o + 948) (nI j) v).bind f = f (wI S (o + 948) j v) := ly_qI h (by omega) (show kt 948 = (100, 16) from by decide) hj (by omega)
theorem aZ_m53 {β : Type} {o j : Nat} {S : Sx} {f : Int32 → Option β} (h : Ly o S) (hj : j < 8) : (aZ S (o + 946) (nI j)).bind f = f (sI S (o + 946) j) := ly_aZ h (by omega) (show kt 946 = (101, 8) from by decide) hj (by omega)
theorem qZ_m53 {β : Type} {o j : Nat} {S : Sx} {v : Int32} {f : Sx → Option β} (h : Ly o S) (hj : j < 8) (hv : v = 0 ∨ v = 1) : (qZ S (o + 946) (nI j) v).bind f = f (wI S (o + 946) j v) := ly_qZ h (by omega) (show kt 946 = (101, 8) from by decide) hj (by omega) hv
theorem aZ_m56 {β : Type} {o j : Nat} {S : Sx} {f : Int32 → Option β} (h : Ly o S) (hj : j < 16) : (aZ S (o + 949) (nI j)).bind f = f (sI S (o + 949) j) := ly_aZ h (by omega) (show kt 949 = (101, 16) from by decide) hj (by omega)
theorem qZ_m56 {β : Type} {o j : Nat} {S : Sx} {v : Int32} {f : Sx → Option β} (h : Ly o S) (hj : j < 16) (hv : v = 0 ∨ v = 1) : (qZ S (o + 949) (nI j) v).bind f = f (wI S (o + 949) j v) := ly_qZ h (by omega) (show kt 949 = (101, 16) from by decide) hj (by omega) hv
theorem rq_14 : ∀ j, j < 8 → rto (4) j = some (8 + 5 * j) := by decide +kernel
theorem aX_3 {β : Type} {o j : Nat} {S : Sx} {f : Nat → Option β} (h : Ly o S) (hj : j < 8) : (aX S 2 (o + 4) (nI j)).bind f = f (o + (8 + 5 * j)) := ly_aX h (by omega) (len := 8) (by decide) hj (by omega) (rq_14 j hj) (by unfold isRow; omega)
theorem rq_15 : ∀ j, j < 16 → rto (5) j = some (48 + 5 * j) := by decide +kernel
theorem aX_4 {β : Type} {o j : Nat} {S : Sx} {f : Nat → Option β} (h : Ly o S) (hj : j < 16) : (aX S 3 (o + 5) (nI j)).bind f = f (o + (48 + 5 * j)) := ly_aX h (by omega) (len := 16) (by decide) hj (by omega) (rq_15 j hj) (by unfold isRow; omega)
theorem rq_16 : ∀ j, j < 8 → rto (6) j = some (128 + 22 * j) := by decide +kernel
theorem aX_5 {β : Type} {o j : Nat} {S : Sx} {f : Nat → Option β} (h : Ly o S) (hj : j < 8) : (aX S 4 (o + 6) (nI j)).bind f = f (o + (128 + 22 * j)) := ly_aX h (by omega) (len := 8) (by decide) hj (by omega) (rq_16 j hj) (by unfold isRow; omega)
theorem rq_17 : ∀ j, j < 16 → rto (7) j = some (304 + j) := by decide +kernel
theorem aX_6 {β : Type} {o j : Nat} {S : Sx} {f : Nat → Option β} (h : Ly o S) (hj : j < 16) : (aX S 6 (o + 7) (nI j)).bind f = f (o + (304 + j)) := ly_aX h (by omega) (len := 16) (by decide) hj (by omega) (rq_17 j hj) (by unfold isRow; omega)
theorem rq_18 : ∀ j, j < 128 → rto (324) j = some (328 + 4 * j) := by decide +kernel
theorem aX_324 {β : Type} {o j : Nat} {S : Sx} {f : Nat → Option β} (h : Ly o S) (hj : j < 128) : (aX S 9 (o + 324) (nI j)).bind f = f (o + (328 + 4 * j)) := ly_aX h (by omega) (len := 128) (by decide) hj (by omega) (rq_18 j hj) (by unfold isRow; omega)
theorem rq_19 : ∀ j, j < 16 → rto (325) j = some (840 + 3 * j) := by decide +kernel
theorem aX_325 {β : Type} {o j : Nat} {S : Sx} {f : Nat → Option β} (h : Ly o S) (hj : j < 16) : (aX S 11 (o + 325) (nI j)).bind f = f (o + (840 + 3 * j)) := ly_aX h (by omega) (len := 16) (by decide) hj (by omega) (rq_19 j hj) (by unfold isRow; omega)
theorem aX_row {β : Type} {o t j : Nat} {q : Nat → Nat} {S : Sx} {f : Nat → Option β} (h : Ly o S) (hq : rwOK o S t q) (ht : t < 8) (hj : j < 20) : (aX S 5 (o + (129 + 22 * t)) (nI j)).bind f = f (o + (130 + 22 * t + q j)) := by
  unfold aX
  have hk : kt (129 + 22 * t) = (205, 20) := by rw [show 129 + 22 * t = 128 + 22 * t + 1 from by omega]; exact (kt_Ta t ht).2.1
  rw [if_pos (ly_ok h (c := 129 + 22 * t) (by omega) hk hj (by omega)), nI_clamp (by omega), (hq.1 j hj).2]; rfl
