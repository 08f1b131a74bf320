/-! WHAT CLASS AND REFERENCE HOLD IN COMMON: the program as told -/
def V (o : Nat) (S : Sx) : Nat → Nat → Int32 := fun c k => sI S (o + c) k
theorem u2_s {α : Type} {f : Nat → Nat → α} {a k : Nat} {v : α} : u2 f a k v a k = v := by unfold u2; rw [if_pos ⟨rfl, rfl⟩]
theorem u2_n {α : Type} {f : Nat → Nat → α} {a k b j : Nat} {v : α} (h : b ≠ a ∨ j ≠ k) : u2 f a k v b j = f b j := by unfold u2; rw [if_neg (by omega)]
theorem V_wI {o c k : Nat} {x : Int32} {S : Sx} : V o (wI S (o + c) k x) = u2 (V o S) c k x := by
  funext c' k'
  show u2 S.2.1 (o + c) k x (o + c') k' = u2 (fun c k => sI S (o + c) k) c k x c' k'
  unfold u2
  by_cases h : c' = c ∧ k' = k
  · rw [if_pos h, if_pos ⟨by omega, h.2⟩]
  · rw [if_neg h, if_neg (by intro q; exact h ⟨by omega, q.2⟩)]
theorem V_wI0 {o k : Nat} {x : Int32} {S : Sx} : V o (wI S o k x) = u2 (V o S) 0 k x := V_wI (c := 0)
theorem V_nx {o : Nat} {S : Sx} : V o (nx S) = V o S := rfl
theorem V_wJ {o a k : Nat} {x : Int64} {S : Sx} : V o (wJ S a k x) = V o S := rfl
def vF (n : Nat) (x : Int32) : Prop := ∃ f, f < n ∧ x = nI f
def wyO (x : Int32) : Prop := x = -2 ∨ x = -1 ∨ vF 8 x
def onesOf (w : Int32) : Int32 := iushr (-1) (32 - w)
def bt (x : Int32) (a : Nat) : Bool := x.toBitVec.getLsbD a
def FdR (v : Nat → Nat → Int32) (f : Nat) : Prop := ∃ w, 1 ≤ w ∧ w ≤ 32 ∧ v 3 f = nI w ∧ v 894 f = nI w
def StR (v : Nat → Nat → Int32) (nf s : Nat) : Prop :=
  (∃ n, n ≤ 4 ∧ v (8 + 5 * s) 4 = nI n ∧ (∀ k, k < n → vF nf (v (9 + 5 * s) k) ∧ v 895 (4 * s + k) = v (9 + 5 * s) k) ∧ ∀ k, n ≤ k → k < 4 → v 895 (4 * s + k) = -1) ∧
  (v (8 + 5 * s) 5 = v 896 s ∧ (v 896 s = -1 ∨ vF nf (v 896 s))) ∧
  (∃ c, c ≤ 4 ∧ v (8 + 5 * s) 6 = nI c ∧ v 897 s = nI c ∧ ∀ k, k < c → v (10 + 5 * s) k = v 898 (4 * s + k) ∧ v (11 + 5 * s) k = v 899 (4 * s + k) ∧ v (12 + 5 * s) k = v 900 (4 * s + k) ∧ wyO (v 900 (4 * s + k))) ∧
  v (8 + 5 * s) 7 = v 901 s ∧ wyO (v 901 s)
def dOK (nf : Nat) (kd x y z : Int32) : Prop := ∃ q, q < 9 ∧ kd = nI q ∧ ((q = 0 ∨ q = 1 ∨ q = 2 ∨ q = 3 ∨ q = 8) → vF nf x) ∧ ((q = 1 ∨ q = 2 ∨ q = 7 ∨ q = 8) → vF nf y) ∧ ((q = 3 ∨ q = 5) → vF 2 y) ∧ (q = 7 → vF 4 x) ∧ (q = 8 → vF 4 z)
def AcR (v : Nat → Nat → Int32) (nf a : Nat) : Prop := ∃ d, d ≤ 4 ∧ v (48 + 5 * a) 4 = nI d ∧ v 902 a = nI d ∧ ∀ k, k < d → v (49 + 5 * a) k = v 903 (4 * a + k) ∧ v (50 + 5 * a) k = v 904 (4 * a + k) ∧ v (51 + 5 * a) k = v 905 (4 * a + k) ∧ v (52 + 5 * a) k = v 906 (4 * a + k) ∧
  dOK nf (v 903 (4 * a + k)) (v 904 (4 * a + k)) (v 905 (4 * a + k)) (v 906 (4 * a + k))
def TaR (v : Nat → Nat → Int32) (nf na t : Nat) : Prop :=
  (∃ f, f < nf ∧ v 907 t = nI f ∧ v (128 + 22 * t) 2 = nI f ∧ v (128 + 22 * t) 3 = onesOf (v 3 f)) ∧
  ((v 908 t = -1 ∧ v (128 + 22 * t) 5 = -1 ∧ v (128 + 22 * t) 6 = 0 ∧ v 910 t = 0) ∨ ∃ g, g < nf ∧ v 908 t = nI g ∧ v (128 + 22 * t) 5 = nI g ∧ v (128 + 22 * t) 6 = onesOf (v 3 g)) ∧
  (vF 3 (v 909 t) ∧ v (128 + 22 * t) 4 = v 909 t) ∧ (vF 3 (v 910 t) ∧ v (128 + 22 * t) 7 = v 910 t) ∧
  (v (128 + 22 * t) 8 = v 911 t ∧ ∀ a, a < 32 → bt (v 911 t) a = true → a < na) ∧ ((∃ m, m < na ∧ v 912 t = nI m ∧ bt (v 911 t) m = true) ∧ v (128 + 22 * t) 9 = v 912 t)
def SpR (v : Nat → Nat → Int32) (nf nt p : Nat) : Prop := v (304 + p) 0 = v 913 p ∧ (vF nt (v 913 p) ∨ (v 913 p = -1 ∧ vF nf (v 914 p) ∧ v (304 + p) 1 = v 914 p ∧ vF 4 (v 915 p) ∧ v (304 + p) 2 = v 915 p ∧ v (304 + p) 3 = v 916 p ∧ v (304 + p) 4 = v 917 p))
def PR (v : Nat → Nat → Int32) (nf ns na nt np : Nat) : Prop := (nf ≤ 16 ∧ ns ≤ 8 ∧ na ≤ 16 ∧ nt ≤ 8 ∧ np ≤ 16) ∧ (v 2 5 = nI nf ∧ v 893 1 = nI nf) ∧ (v 2 6 = nI ns ∧ v 893 2 = nI ns) ∧ (v 2 7 = nI na ∧ v 893 3 = nI na) ∧ (v 2 8 = nI nt ∧ v 893 4 = nI nt) ∧ (v 2 9 = nI np ∧ v 893 5 = nI np) ∧
  (∀ f, f < nf → FdR v f) ∧ (∀ s, s < ns → StR v nf s) ∧ (∀ a, a < na → AcR v nf a) ∧ (∀ t, t < nt → TaR v nf na t) ∧ ∀ p, p < np → SpR v nf nt p
/-- the cells of the program -/
def pc (c k : Nat) : Prop := (2 ≤ c ∧ c < 128) ∨ (304 ≤ c ∧ c < 320) ∨ (128 ≤ c ∧ c < 304 ∧ (c - 128) % 22 = 0 ∧ 2 ≤ k) ∨ (894 ≤ c ∧ c ≤ 917) ∨ (c = 893 ∧ 1 ≤ k ∧ k ≤ 5)
theorem vF_mono {n m : Nat} {x : Int32} (h : vF n x) (hm : n ≤ m) : vF m x := by obtain ⟨f, h1, h2⟩ := h; exact ⟨f, by omega, h2⟩
theorem FdR_cg {v v' : Nat → Nat → Int32} {f : Nat} (e : ∀ c k, (c = 3 ∧ k = f) ∨ (c = 894 ∧ k = f) → v' c k = v c k) (h : FdR v f) : FdR v' f := by
  unfold FdR at *
  rw [e 3 f (by omega), e 894 f (by omega)]
  exact h
theorem StR_cg {v v' : Nat → Nat → Int32} {nf nf' s : Nat} (hn : nf ≤ nf') (e : ∀ c k, (8 + 5 * s ≤ c ∧ c < 13 + 5 * s) ∨ (c = 895 ∧ 4 * s ≤ k ∧ k < 4 * s + 4) ∨ ((c = 896 ∨ c = 897 ∨ c = 901) ∧ k = s) ∨ (898 ≤ c ∧ c ≤ 900 ∧ 4 * s ≤ k ∧ k < 4 * s + 4) → v' c k = v c k) (h : StR v nf s) : StR v' nf' s := by
  obtain ⟨⟨n, a1, a2, a3, a4⟩, ⟨b1, b2⟩, ⟨c, c1, c2, c3, c4⟩, d1, d2⟩ := h
  refine ⟨⟨n, a1, ?_, ?_, ?_⟩, ⟨?_, ?_⟩, ⟨c, c1, ?_, ?_, ?_⟩, ?_, ?_⟩
  · rw [e _ _ (by omega)]; exact a2
  · intro k hk
    rw [e _ _ (by omega), e _ _ (by omega)]; exact ⟨vF_mono (a3 k hk).1 hn, (a3 k hk).2⟩
  · intro k h1 h2
    rw [e _ _ (by omega)]; exact a4 k h1 h2
  · rw [e _ _ (by omega), e _ _ (by omega)]; exact b1
  · rw [e _ _ (by omega)]; exact b2.imp id (fun x => vF_mono x hn)
  · rw [e _ _ (by omega)]; exact c2
  · rw [e _ _ (by omega)]; exact c3
  · intro k hk
    have := c4 k hk
    rw [e (10 + 5 * s) k (by omega), e (11 + 5 * s) k (by omega), e (12 + 5 * s) k (by omega), e 898 _ (by omega), e 899 _ (by omega), e 900 _ (by omega)]
    exact this
  · rw [e _ _ (by omega), e _ _ (by omega)]; exact d1
  · rw [e _ _ (by omega)]; exact d2
theorem dOK_mono {n m : Nat} {kd x y z : Int32} (h : dOK n kd x y z) (hm : n ≤ m) : dOK m kd x y z := by
  obtain ⟨q, h1, h2, h3, h4, h5, h6, h7⟩ := h
  exact ⟨q, h1, h2, fun z => vF_mono (h3 z) hm, fun z => vF_mono (h4 z) hm, h5, h6, h7⟩
theorem AcR_cg {v v' : Nat → Nat → Int32} {nf nf' a : Nat} (hn : nf ≤ nf') (e : ∀ c k, (48 + 5 * a ≤ c ∧ c < 53 + 5 * a) ∨ (c = 902 ∧ k = a) ∨ (903 ≤ c ∧ c ≤ 906 ∧ 4 * a ≤ k ∧ k < 4 * a + 4) → v' c k = v c k) (h : AcR v nf a) : AcR v' nf' a := by
  obtain ⟨d, a1, a2, a3, a4⟩ := h
  refine ⟨d, a1, ?_, ?_, ?_⟩
  · rw [e _ _ (by omega)]; exact a2
  · rw [e _ _ (by omega)]; exact a3
  · intro k hk
    obtain ⟨b1, b2, b3, b4, b5⟩ := a4 k hk
    rw [e (49 + 5 * a) k (by omega), e (50 + 5 * a) k (by omega), e (51 + 5 * a) k (by omega), e (52 + 5 * a) k (by omega), e 903 _ (by omega), e 904 _ (by omega), e 905 _ (by omega), e 906 _ (by omega)]
    exact ⟨b1, b2, b3, b4, dOK_mono b5 hn⟩
theorem TaR_cg {v v' : Nat → Nat → Int32} {nf nf' na na' t : Nat} (hn : nf ≤ nf') (ha : na ≤ na') (e : ∀ c k, (c = 128 + 22 * t ∧ 2 ≤ k) ∨ (c = 3 ∧ k < nf) ∨ (907 ≤ c ∧ c ≤ 912 ∧ k = t) → v' c k = v c k) (h : TaR v nf na t) : TaR v' nf' na' t := by
  obtain ⟨⟨f, a1, a2, a3, a4⟩, b, ⟨c1, c2⟩, ⟨d1, d2⟩, ⟨e1, e2⟩, f1, f2⟩ := h
  refine ⟨⟨f, by omega, ?_, ?_, ?_⟩, ?_, ⟨?_, ?_⟩, ⟨?_, ?_⟩, ⟨?_, ?_⟩, ?_, ?_⟩
  · rw [e _ _ (by omega)]; exact a2
  · rw [e _ _ (by omega)]; exact a3
  · rw [e _ _ (by omega), e 3 f (by omega)]; exact a4
  · rcases b with ⟨b1, b2, b3, b4⟩ | ⟨g, b1, b2, b3, b4⟩
    · left
      rw [e 908 _ (by omega), e _ 5 (by omega), e _ 6 (by omega), e 910 _ (by omega)]; exact ⟨b1, b2, b3, b4⟩
    · right
      refine ⟨g, by omega, ?_⟩
      rw [e 908 _ (by omega), e _ 5 (by omega), e _ 6 (by omega), e 3 g (by omega)]; exact ⟨b2, b3, b4⟩
  · rw [e _ _ (by omega)]; exact c1
  · rw [e _ _ (by omega), e _ _ (by omega)]; exact c2
  · rw [e _ _ (by omega)]; exact d1
  · rw [e _ _ (by omega), e _ _ (by omega)]; exact d2
  · rw [e _ _ (by omega), e _ _ (by omega)]; exact e1
  · intro a h1 h2
    rw [e _ _ (by omega)] at h2
    have := e2 a h1 h2
    omega
  · obtain ⟨m, m1, m2, m3⟩ := f1
    refine ⟨m, by omega, ?_, ?_⟩
    · rw [e _ _ (by omega)]; exact m2
    · rw [e _ _ (by omega)]; exact m3
  · rw [e _ _ (by omega), e _ _ (by omega)]; exact f2
theorem SpR_cg {v v' : Nat → Nat → Int32} {nf nf' nt nt' p : Nat} (hn : nf ≤ nf') (ht : nt ≤ nt') (e : ∀ c k, (c = 304 + p) ∨ (913 ≤ c ∧ c ≤ 917 ∧ k = p) → v' c k = v c k) (h : SpR v nf nt p) : SpR v' nf' nt' p := by
  obtain ⟨a1, a2⟩ := h
  refine ⟨by rw [e _ _ (by omega), e _ _ (by omega)]; exact a1, ?_⟩
  rcases a2 with a2 | ⟨b1, b2, b3, b4, b5, b6, b7⟩
  · left; rw [e _ _ (by omega)]; exact vF_mono a2 ht
  · right
    rw [e 913 _ (by omega), e 914 _ (by omega), e 915 _ (by omega), e 916 _ (by omega), e 917 _ (by omega), e _ 1 (by omega), e _ 2 (by omega), e _ 3 (by omega), e _ 4 (by omega)]
    exact ⟨b1, vF_mono b2 hn, b3, b4, b5, b6, b7⟩
theorem PR_cg {v v' : Nat → Nat → Int32} {nf ns na nt np : Nat} (e : ∀ c k, pc c k → v' c k = v c k) (h : PR v nf ns na nt np) : PR v' nf ns na nt np := by
  obtain ⟨h0, h1, h2, h3, h4, h5, h6, h7, h8, h9, h10⟩ := h
  unfold pc at e
  refine ⟨h0, ?_, ?_, ?_, ?_, ?_, ?_, ?_, ?_, ?_, ?_⟩
  · rw [e _ _ (by omega), e _ _ (by omega)]; exact h1
  · rw [e _ _ (by omega), e _ _ (by omega)]; exact h2
  · rw [e _ _ (by omega), e _ _ (by omega)]; exact h3
  · rw [e _ _ (by omega), e _ _ (by omega)]; exact h4
  · rw [e _ _ (by omega), e _ _ (by omega)]; exact h5
  · exact fun f hf => FdR_cg (fun c k q => e c k (by omega)) (h6 f hf)
  · exact fun s hs => StR_cg (Nat.le_refl _) (fun c k q => e c k (by omega)) (h7 s hs)
  · exact fun a ha => AcR_cg (Nat.le_refl _) (fun c k q => e c k (by omega)) (h8 a ha)
  · exact fun t ht => TaR_cg (Nat.le_refl _) (Nat.le_refl _) (fun c k q => e c k (by omega)) (h9 t ht)
  · exact fun p hp => SpR_cg (Nat.le_refl _) (Nat.le_refl _) (fun c k q => e c k (by omega)) (h10 p hp)
