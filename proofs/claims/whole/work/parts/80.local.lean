/-! A RUN SEES ONLY ITS OWN ARRAYS -/
def HSe (A : Nat → Prop) (s s' : HS) : Prop := (∀ k, k < 16 → s.w k = s'.w k) ∧ s.po = s'.po ∧ s.dr = s'.dr ∧ ∀ i, i < 64 → A (i / 16) → s.ar i = s'.ar i
/-- a doing uses array r -/
def uD (kd x z : Int32) (r : Nat) : Prop := (kd = 7 ∧ cl x = r) ∨ (kd = 8 ∧ cl z = r)
theorem up_e {w w' : Nat → Int32} {n j : Nat} {x y : Int32} (h : ∀ k, k < n → w k = w' k) (e : x = y) : ∀ k, k < n → up w j x k = up w' j y k := by
  intro k hk
  subst e
  unfold up
  by_cases c : k = j
  · rw [if_pos c, if_pos c]
  · rw [if_neg c, if_neg c]; exact h k hk
theorem dg_e {A : Nat → Prop} {on : Nat → Int32} {nf : Nat} {kd x y z d0 d1 : Int32} {s s' : HS} (hnf : nf ≤ 16) (hd : dOK nf kd x y z) (hA : ∀ r, r < 4 → uD kd x z r → A r) (h : HSe A s s') : HSe A (dg on kd x y z d0 d1 s) (dg on kd x y z d0 d1 s') := by
  obtain ⟨h1, h2, h3, h4⟩ := h
  obtain ⟨q, q9, rfl, A6, A7, A8, A9, A10⟩ := hd
  rcases (show q = 0 ∨ q = 1 ∨ q = 2 ∨ q = 3 ∨ q = 4 ∨ q = 5 ∨ q = 6 ∨ q = 7 ∨ q = 8 from by omega) with e | e | e | e | e | e | e | e | e <;> subst e
  · rw [dg_0, dg_0]; exact ⟨up_e h1 rfl, h2, h3, h4⟩
  · obtain ⟨yi, y1, rfl⟩ := A7 (by omega)
    rw [dg_1, dg_1, cl_n (by omega)]; exact ⟨up_e h1 (by rw [h1 yi (by omega)]), h2, h3, h4⟩
  · obtain ⟨xi, x1, rfl⟩ := A6 (by omega)
    obtain ⟨yi, y1, rfl⟩ := A7 (by omega)
    rw [dg_2, dg_2, cl_n (by omega), cl_n (by omega)]; exact ⟨up_e h1 (by rw [h1 yi (by omega), h1 xi (by omega)]), h2, h3, h4⟩
  · rw [dg_3, dg_3]; exact ⟨up_e h1 rfl, h2, h3, h4⟩
  · rw [dg_4, dg_4]; exact ⟨h1, rfl, h3, h4⟩
  · rw [dg_5, dg_5]; exact ⟨h1, rfl, h3, h4⟩
  · rw [dg_6, dg_6]; exact ⟨h1, h2, rfl, h4⟩
  · obtain ⟨xi, x1, rfl⟩ := A9 (by omega)
    obtain ⟨yi, y1, rfl⟩ := A7 (by omega)
    have L := (lo4_ (i := s'.w yi)).2
    rw [dg_7, dg_7, cl_n (by omega), cl_n (by omega), h1 yi (by omega)]
    refine ⟨h1, h2, h3, ?_⟩
    intro i hi ha
    show up s.ar _ _ i = up s'.ar _ _ i
    have e : s.ar (16 * xi + lo4 (s'.w yi)) = s'.ar (16 * xi + lo4 (s'.w yi)) := h4 _ (by omega) (by rw [show (16 * xi + lo4 (s'.w yi)) / 16 = xi by omega]; exact hA xi x1 (Or.inl ⟨rfl, cl_n (by omega)⟩))
    unfold up
    by_cases c : i = 16 * xi + lo4 (s'.w yi)
    · rw [if_pos c, if_pos c, e]
    · rw [if_neg c, if_neg c]; exact h4 i hi ha
  · obtain ⟨yi, y1, rfl⟩ := A7 (by omega)
    obtain ⟨zi, z1, rfl⟩ := A10 (by omega)
    have L := (lo4_ (i := s'.w yi)).2
    rw [dg_8, dg_8, cl_n (show yi < 2 ^ 31 by omega), cl_n (show zi < 2 ^ 31 by omega), h1 yi (by omega)]
    refine ⟨up_e h1 ?_, h2, h3, h4⟩
    rw [h4 (16 * zi + lo4 (s'.w yi)) (by omega) (by rw [show (16 * zi + lo4 (s'.w yi)) / 16 = zi by omega]; exact hA zi z1 (Or.inr ⟨rfl, cl_n (by omega)⟩))]
theorem dg_f {on : Nat → Int32} {nf : Nat} {kd x y z d0 d1 : Int32} {s : HS} {i : Nat} (hd : dOK nf kd x y z) (hu : ¬ uD kd x z (i / 16)) : (dg on kd x y z d0 d1 s).ar i = s.ar i := by
  obtain ⟨q, q9, rfl, A6, A7, A8, A9, A10⟩ := hd
  rcases (show q = 0 ∨ q = 1 ∨ q = 2 ∨ q = 3 ∨ q = 4 ∨ q = 5 ∨ q = 6 ∨ q = 7 ∨ q = 8 from by omega) with e | e | e | e | e | e | e | e | e <;> subst e
  · rw [dg_0]; rfl
  · rw [dg_1]; rfl
  · rw [dg_2]; rfl
  · rw [dg_3]; rfl
  · rw [dg_4]; rfl
  · rw [dg_5]; rfl
  · rw [dg_6]; rfl
  · obtain ⟨xi, x1, rfl⟩ := A9 (by omega)
    have L := (lo4_ (i := s.w (cl y))).2
    rw [dg_7, cl_n (by omega)]
    show up s.ar _ _ i = _
    rw [up_n]
    intro w
    exact hu (Or.inl ⟨rfl, by rw [cl_n (by omega), w]; omega⟩)
  · rw [dg_8]; rfl
theorem dg_dr {on : Nat → Int32} {kd x y z d0 d1 : Int32} {s : HS} (h : s.dr = 0 ∨ s.dr = 1) : (dg on kd x y z d0 d1 s).dr = 0 ∨ (dg on kd x y z d0 d1 s).dr = 1 := by
  unfold dg
  split
  · exact h
  · split
    · exact h
    · split
      · exact h
      · split
        · exact h
        · split
          · exact h
          · split
            · exact h
            · split
              · exact Or.inr rfl
              · split
                · exact h
                · exact h
def uA (v : Nat → Nat → Int32) (a r : Nat) : Prop := ∃ k, k < cl (v 902 a) ∧ uD (v 903 (4 * a + k)) (v 904 (4 * a + k)) (v 906 (4 * a + k)) r
theorem acts_e {A : Nat → Prop} {v : Nat → Nat → Int32} {nf a d : Nat} {d0 d1 : Int32} (hnf : nf ≤ 16) (hd : ∀ k, k < d → dOK nf (v 903 (4 * a + k)) (v 904 (4 * a + k)) (v 905 (4 * a + k)) (v 906 (4 * a + k))) (hA : ∀ k, k < d → ∀ r, r < 4 → uD (v 903 (4 * a + k)) (v 904 (4 * a + k)) (v 906 (4 * a + k)) r → A r) :
    ∀ m k s s', k + m = d → HSe A s s' → HSe A (acts v d0 d1 a m k s) (acts v d0 d1 a m k s') := by
  intro m
  induction m with
  | zero => intro k s s' _ h; exact h
  | succ m ih =>
    intro k s s' hk h
    exact ih (k + 1) _ _ (by omega) (dg_e hnf (hd k (by omega)) (hA k (by omega)) h)
theorem acts_f {v : Nat → Nat → Int32} {nf a d i : Nat} {d0 d1 : Int32} (hd : ∀ k, k < d → dOK nf (v 903 (4 * a + k)) (v 904 (4 * a + k)) (v 905 (4 * a + k)) (v 906 (4 * a + k))) (hu : ∀ k, k < d → ¬ uD (v 903 (4 * a + k)) (v 904 (4 * a + k)) (v 906 (4 * a + k)) (i / 16)) :
    ∀ m k s, k + m = d → (acts v d0 d1 a m k s).ar i = s.ar i := by
  intro m
  induction m with
  | zero => intro k s _; rfl
  | succ m ih =>
    intro k s hk
    rw [acts, ih (k + 1) _ (by omega), dg_f (hd k (by omega)) (hu k (by omega))]
theorem acts_dr {v : Nat → Nat → Int32} {a : Nat} {d0 d1 : Int32} : ∀ m k s, (s.dr = 0 ∨ s.dr = 1) → ((acts v d0 d1 a m k s).dr = 0 ∨ (acts v d0 d1 a m k s).dr = 1) := by
  intro m
  induction m with
  | zero => intro k s h; exact h
  | succ m ih => intro k s h; exact ih _ _ (dg_dr h)
theorem actA_e {A : Nat → Prop} {v : Nat → Nat → Int32} {nf a : Nat} {d0 d1 : Int32} {s s' : HS} (hnf : nf ≤ 16) (hR : AcR v nf a) (hA : ∀ r, r < 4 → uA v a r → A r) (h : HSe A s s') : HSe A (actA v d0 d1 a s) (actA v d0 d1 a s') := by
  obtain ⟨d, a1, a2, a3, a4⟩ := hR
  unfold actA
  rw [a3, cl_n (by omega)]
  exact acts_e hnf (fun k hk => (a4 k hk).2.2.2.2) (fun k hk r hr w => hA r hr ⟨k, by rw [a3, cl_n (by omega)]; exact hk, w⟩) d 0 s s' (by omega) h
theorem actA_f {v : Nat → Nat → Int32} {nf a i : Nat} {d0 d1 : Int32} {s : HS} (hR : AcR v nf a) (hu : ¬ uA v a (i / 16)) : (actA v d0 d1 a s).ar i = s.ar i := by
  obtain ⟨d, a1, a2, a3, a4⟩ := hR
  unfold actA
  rw [a3, cl_n (by omega)]
  exact acts_f (fun k hk => (a4 k hk).2.2.2.2) (fun k hk w => hu ⟨k, by rw [a3, cl_n (by omega)]; exact hk, w⟩) d 0 s (by omega)
/-- table t uses array r -/
def uT (v : Nat → Nat → Int32) (t r : Nat) : Prop := ∃ a, a < 32 ∧ bt (v 911 t) a = true ∧ uA v a r
theorem bestOf_e {A : Nat → Prop} {v : Nat → Nat → Int32} {nf na t : Nat} {T : TC} {s s' : HS} (hnf : nf ≤ 16) (hT : TaR v nf na t) (h : HSe A s s') : bestOf v t T s = bestOf v t T s' := by
  obtain ⟨⟨f0, f1, f2, _, _⟩, hg, _, _, _, _⟩ := hT
  unfold bestOf
  have e1 : s.w (cl (v 907 t)) = s'.w (cl (v 907 t)) := by rw [f2, cl_n (by omega)]; exact h.1 f0 (by omega)
  have e2 : gOf v t s = gOf v t s' := by
    unfold gOf
    rcases hg with ⟨g1, _, _, _⟩ | ⟨g0, g1, g2, _, _⟩
    · rw [if_pos g1, if_pos g1]
    · rw [g2, if_neg (nN1 (by omega)), if_neg (nN1 (by omega)), cl_n (by omega)]; exact h.1 g0 (by omega)
  rw [e1, e2]
/-- the action that table t takes -/
theorem stTb_act {v : Nat → Nat → Int32} {nf na t : Nat} {T : TC} {s : HS} (hna : na ≤ 16) (hT : TaR v nf na t) (hV : TV v na t T) : ∃ a d0 d1, a < na ∧ bt (v 911 t) a = true ∧ ∀ s', bestOf v t T s' = bestOf v t T s → stTb v t T s' = actA v d0 d1 a s' := by
  obtain ⟨_, _, _, _, _, ⟨⟨ms, ms1, ms2, ms4⟩, ms3⟩⟩ := hT
  cases e : bestOf v t T s with
  | none =>
    refine ⟨ms, 0, 0, ms1, ms4, fun s' h => ?_⟩
    unfold stTb
    rw [h]
    show actA v 0 0 (cl (v 912 t)) s' = _
    rw [ms2, cl_n (by omega)]
  | some i =>
    have hi := bestOf_lt e
    obtain ⟨_, ⟨a, a1, a2, a3⟩, _⟩ := hV.2 i hi
    refine ⟨a, T.2 i 6, T.2 i 7, a1, a3, fun s' h => ?_⟩
    unfold stTb
    rw [h]
    show actA v (T.2 i 6) (T.2 i 7) (cl (T.2 i 5)) s' = _
    rw [a2, cl_n (by omega)]
theorem stTb_e {A : Nat → Prop} {v : Nat → Nat → Int32} {nf ns na nt np t : Nat} {T : TC} {s s' : HS} (hp : PR v nf ns na nt np) (ht : t < nt) (hV : TV v na t T) (hA : ∀ r, r < 4 → uT v t r → A r) (h : HSe A s s') : HSe A (stTb v t T s) (stTb v t T s') := by
  obtain ⟨⟨b1, b2, b3, b4, b5⟩, _, _, _, _, _, _, _, h8, h9, _⟩ := hp
  obtain ⟨a, d0, d1, a1, a2, a3⟩ := stTb_act (s := s) b3 (h9 t ht) hV
  rw [a3 s rfl, a3 s' (bestOf_e b1 (h9 t ht) h).symm]
  exact actA_e b1 (h8 a a1) (fun r hr w => hA r hr ⟨a, by omega, a2, w⟩) h
theorem stTb_f {v : Nat → Nat → Int32} {nf ns na nt np t i : Nat} {T : TC} {s : HS} (hp : PR v nf ns na nt np) (ht : t < nt) (hV : TV v na t T) (hu : ¬ uT v t (i / 16)) : (stTb v t T s).ar i = s.ar i := by
  obtain ⟨⟨b1, b2, b3, b4, b5⟩, _, _, _, _, _, _, _, h8, h9, _⟩ := hp
  obtain ⟨a, d0, d1, a1, a2, a3⟩ := stTb_act (s := s) b3 (h9 t ht) hV
  rw [a3 s rfl]
  exact actA_f (h8 a a1) (fun w => hu ⟨a, by omega, a2, w⟩)
theorem stTb_dr {v : Nat → Nat → Int32} {t : Nat} {T : TC} {s : HS} (h : s.dr = 0 ∨ s.dr = 1) : (stTb v t T s).dr = 0 ∨ (stTb v t T s).dr = 1 := by
  unfold stTb
  cases bestOf v t T s with
  | none => exact acts_dr _ _ _ h
  | some i => exact acts_dr _ _ _ h
/-- step p uses array r -/
def uS (v : Nat → Nat → Int32) (nt p r : Nat) : Prop := ∃ t, t < nt ∧ v 913 p = nI t ∧ uT v t r
theorem stp_e {A : Nat → Prop} {v : Nat → Nat → Int32} {nf ns na nt np p : Nat} {T : Nat → TC} {s s' : HS × Nat} (hp : PR v nf ns na nt np) (hpp : p < np) (hV : ∀ t, t < nt → TV v na t (T t)) (hA : ∀ r, r < 4 → uS v nt p r → A r) (h : HSe A s.1 s'.1) (hn : s.2 = s'.2) : HSe A (stp v T p s).1 (stp v T p s').1 ∧ (stp v T p s).2 = (stp v T p s').2 := by
  have hp0 := hp
  obtain ⟨⟨b1, b2, b3, b4, b5⟩, _, _, _, _, _, _, _, h8, h9, h10⟩ := hp
  unfold stp
  rw [hn]
  by_cases c : p < s'.2
  · rw [if_pos c, if_pos c]; exact ⟨h, hn⟩
  · rw [if_neg c, if_neg c]
    obtain ⟨_, s2⟩ := h10 p hpp
    rcases s2 with ⟨t, t1, t2⟩ | ⟨d1, ⟨f0, f1, f2⟩, _⟩
    · rw [if_neg (by rw [t2]; exact nN1 (by omega)), if_neg (by rw [t2]; exact nN1 (by omega)), t2, cl_n (by omega)]
      exact ⟨stTb_e hp0 t1 (hV t t1) (fun r hr w => hA r hr ⟨t, t1, t2, w⟩) h, rfl⟩
    · rw [if_pos d1, if_pos d1, f2, cl_n (by omega), h.1 f0 (by omega)]
      rcases Classical.em (tst (v 915 p) (s'.1.w f0) (v 916 p)) with d | d
      · rw [if_pos d, if_pos d]; exact ⟨h, hn⟩
      · rw [if_neg d, if_neg d]; exact ⟨h, rfl⟩
theorem stp_f {v : Nat → Nat → Int32} {nf ns na nt np p i : Nat} {T : Nat → TC} {s : HS × Nat} (hp : PR v nf ns na nt np) (hpp : p < np) (hV : ∀ t, t < nt → TV v na t (T t)) (hu : ¬ uS v nt p (i / 16)) : (stp v T p s).1.ar i = s.1.ar i := by
  have hp0 := hp
  obtain ⟨⟨b1, b2, b3, b4, b5⟩, _, _, _, _, _, _, _, h8, h9, h10⟩ := hp
  unfold stp
  by_cases c : p < s.2
  · rw [if_pos c]
  · rw [if_neg c]
    obtain ⟨_, s2⟩ := h10 p hpp
    rcases s2 with ⟨t, t1, t2⟩ | ⟨d1, _⟩
    · rw [if_neg (by rw [t2]; exact nN1 (by omega)), t2, cl_n (by omega)]
      exact stTb_f hp0 t1 (hV t t1) (fun w => hu ⟨t, t1, t2, w⟩)
    · rw [if_pos d1]
      rcases Classical.em (tst (v 915 p) (s.1.w (cl (v 914 p))) (v 916 p)) with d | d
      · rw [if_pos d]
      · rw [if_neg d]
theorem stp_dr {v : Nat → Nat → Int32} {p : Nat} {T : Nat → TC} {s : HS × Nat} (h : s.1.dr = 0 ∨ s.1.dr = 1) : (stp v T p s).1.dr = 0 ∨ (stp v T p s).1.dr = 1 := by
  unfold stp
  by_cases c : p < s.2
  · rw [if_pos c]; exact h
  · rw [if_neg c]
    by_cases d : v 913 p = -1
    · rw [if_pos d]
      rcases Classical.em (tst (v 915 p) (s.1.w (cl (v 914 p))) (v 916 p)) with e | e
      · rw [if_pos e]; exact h
      · rw [if_neg e]; exact h
    · rw [if_neg d]; exact stTb_dr h
theorem runS_e {A : Nat → Prop} {v : Nat → Nat → Int32} {nf ns na nt np hi : Nat} {T : Nat → TC} (hp : PR v nf ns na nt np) (hhi : hi ≤ np) (hV : ∀ t, t < nt → TV v na t (T t)) :
    ∀ m p s s', p + m = hi → (∀ p', p ≤ p' → p' < hi → ∀ r, r < 4 → uS v nt p' r → A r) → HSe A s.1 s'.1 → s.2 = s'.2 → HSe A (runS v T m p s).1 (runS v T m p s').1 ∧ (runS v T m p s).2 = (runS v T m p s').2 := by
  intro m
  induction m with
  | zero => intro p s s' _ _ h hn; exact ⟨h, hn⟩
  | succ m ih =>
    intro p s s' he hA h hn
    obtain ⟨e1, e2⟩ := stp_e (T := T) hp (show p < np by omega) hV (hA p (by omega) (by omega)) h hn
    exact ih (p + 1) _ _ (by omega) (fun p' w1 w2 => hA p' (by omega) w2) e1 e2
theorem runS_f {v : Nat → Nat → Int32} {nf ns na nt np hi i : Nat} {T : Nat → TC} (hp : PR v nf ns na nt np) (hhi : hi ≤ np) (hV : ∀ t, t < nt → TV v na t (T t)) :
    ∀ m p s, p + m = hi → (∀ p', p ≤ p' → p' < hi → ¬ uS v nt p' (i / 16)) → (runS v T m p s).1.ar i = s.1.ar i := by
  intro m
  induction m with
  | zero => intro p s _ _; rfl
  | succ m ih =>
    intro p s he hu
    rw [runS, ih (p + 1) _ (by omega) (fun p' w1 w2 => hu p' (by omega) w2), stp_f hp (by omega) hV (hu p (by omega) (by omega))]
theorem runS_dr {v : Nat → Nat → Int32} {T : Nat → TC} : ∀ m p s, (s.1.dr = 0 ∨ s.1.dr = 1) → ((runS v T m p s).1.dr = 0 ∨ (runS v T m p s).1.dr = 1) := by
  intro m
  induction m with
  | zero => intro p s h; exact h
  | succ m ih => intro p s h; exact ih _ _ (stp_dr h)
theorem runS_add {v : Nat → Nat → Int32} {T : Nat → TC} : ∀ m m' p s, runS v T (m + m') p s = runS v T m' (p + m) (runS v T m p s) := by
  intro m
  induction m with
  | zero => intro m' p s; rw [Nat.zero_add]; rfl
  | succ m ih =>
    intro m' p s
    rw [show m + 1 + m' = (m + m') + 1 from by omega, runS, ih, runS, show p + 1 + m = p + (m + 1) from by omega]
theorem runS_cg {v v' : Nat → Nat → Int32} {T : Nat → TC} (e : ∀ c k, pc c k → v' c k = v c k) : ∀ m p s, runS v' T m p s = runS v T m p s := by
  intro m
  induction m with
  | zero => intro p s; rfl
  | succ m ih =>
    intro p s
    rw [runS, runS, ih]
    congr 1
    unfold stp
    rw [e 913 _ (by unfold pc; omega), e 914 _ (by unfold pc; omega), e 915 _ (by unfold pc; omega), e 916 _ (by unfold pc; omega), e 917 _ (by unfold pc; omega), stTb_cg e]
