/-! A PACKET IS READ: what is meant -/
/-- the first n of these bits, as an int -/
def ofB (f : Nat → Bool) : Nat → Int32
  | 0 => 0
  | n + 1 => ofB f n ||| (if f n = true then 1 <<< (nI n &&& 31) else 0)
theorem bt_ofB {f : Nat → Bool} : ∀ n, n ≤ 32 → ∀ k, k < 32 → bt (ofB f n) k = (decide (k < n) && f k) := by
  intro n
  induction n with
  | zero => intro _ k _; rw [ofB, bt_0]; rfl
  | succ n ih =>
    intro hn k hk
    rw [ofB, bt_or, ih (by omega) k hk]
    by_cases c : f n = true
    · rw [if_pos c, bt_shl (by omega) hk, bt_1]
      by_cases d : k = n
      · subst d; simp [c]
      · by_cases e : k < n
        · simp [show ¬ n ≤ k by omega, e, show k < n + 1 by omega]
        · simp [show ¬ k < n by omega, show ¬ k < n + 1 by omega, show ¬ k - n = 0 by omega]
    · rw [if_neg c, bt_0]
      rw [Bool.not_eq_true] at c
      by_cases d : k = n
      · subst d; simp [c]
      · by_cases e : k < n
        · simp [e, show k < n + 1 by omega]
        · simp [e, show ¬ k < n + 1 by omega]
def rdW (β : Nat → Bool) (a w : Nat) : Int32 := ofB (fun k => β (a + w - 1 - k)) w
theorem bt_rdW {β : Nat → Bool} {a w k : Nat} (hw : w ≤ 32) (hk : k < 32) : bt (rdW β a w) k = (decide (k < w) && β (a + w - 1 - k)) := bt_ofB w hw k hk
def RS : Type := (Nat → Int32) × (Nat → Nat) × Nat × Nat × (Nat → Bool)
def RS.w (r : RS) : Nat → Int32 := r.1
def RS.od (r : RS) : Nat → Nat := r.2.1
def RS.tk (r : RS) : Nat := r.2.2.1
def RS.bits (r : RS) : Nat := r.2.2.2.1
def RS.rf (r : RS) : Nat → Bool := r.2.2.2.2
def upN (f : Nat → Nat) (k x : Nat) : Nat → Nat := fun j => if j = k then x else f j
def upB (f : Nat → Bool) (k : Nat) : Nat → Bool := fun j => if j = k then true else f j
def rdF (wd : Nat → Nat) (β : Nat → Bool) (m f : Nat) (r : RS) : Option RS :=
  if r.rf f = true ∨ 8 * m < r.bits + wd f then none else some (up r.w f (rdW β r.bits (wd f)), upN r.od r.tk f, r.tk + 1, r.bits + wd f, upB r.rf f)
/-- fields fl k .. fl (k + n - 1) -/
def rdL (wd : Nat → Nat) (β : Nat → Bool) (m : Nat) (fl : Nat → Nat) : Nat → Nat → RS → Option RS
  | 0, _, r => some r
  | n + 1, k, r => (rdF wd β m (fl k) r).bind (rdL wd β m fl n (k + 1))
def cnB (f : Nat → Bool) : Nat → Nat
  | 0 => 0
  | n + 1 => cnB f n + (if f n = true then 1 else 0)
theorem cnB_le {f : Nat → Bool} : ∀ n, cnB f n ≤ n := by
  intro n
  induction n with
  | zero => exact Nat.le_refl _
  | succ n ih => unfold cnB; split <;> omega
theorem cnB_up {f : Nat → Bool} {k : Nat} (hf : f k = false) : ∀ n, cnB (upB f k) n = cnB f n + (if k < n then 1 else 0) := by
  intro n
  induction n with
  | zero => rfl
  | succ n ih =>
    unfold cnB
    rw [ih]
    unfold upB
    by_cases c : n = k
    · subst c
      rw [if_pos rfl, if_pos rfl, if_neg (Nat.lt_irrefl _), if_pos (Nat.lt_succ_self _), if_neg (by rw [hf]; decide)]
    · rw [if_neg c]
      by_cases d : k < n
      · rw [if_pos d, if_pos (show k < n + 1 by omega)]; omega
      · rw [if_neg d, if_neg (show ¬ k < n + 1 by omega)]; omega
def offs (wd : Nat → Nat) (od : Nat → Nat) : Nat → Nat
  | 0 => 0
  | m + 1 => offs wd od m + wd (od m)
theorem offs_cg {wd od od' : Nat → Nat} : ∀ n, (∀ i, i < n → od' i = od i) → offs wd od' n = offs wd od n := by
  intro n
  induction n with
  | zero => intro _; rfl
  | succ n ih => intro h; unfold offs; rw [ih (fun i hi => h i (by omega)), h n (by omega)]
/-- what holds of a reading under way -/
def RSk (wd : Nat → Nat) (nf m : Nat) (r : RS) : Prop :=
  (r.tk = cnB r.rf 16) ∧
  (r.bits = offs wd r.od r.tk) ∧
  (r.bits ≤ 8 * m) ∧
  (∀ i, i < r.tk → r.od i < nf)
theorem RSk.cn {wd : Nat → Nat} {nf m : Nat} {r : RS} (h : RSk wd nf m r) : r.tk = cnB r.rf 16 := h.1
theorem RSk.of {wd : Nat → Nat} {nf m : Nat} {r : RS} (h : RSk wd nf m r) : r.bits = offs wd r.od r.tk := h.2.1
theorem RSk.le {wd : Nat → Nat} {nf m : Nat} {r : RS} (h : RSk wd nf m r) : r.bits ≤ 8 * m := h.2.2.1
theorem RSk.od {wd : Nat → Nat} {nf m : Nat} {r : RS} (h : RSk wd nf m r) : ∀ i, i < r.tk → r.od i < nf := h.2.2.2
theorem rdF_k {wd : Nat → Nat} {β : Nat → Bool} {nf m f : Nat} {r r' : RS} (hn : nf ≤ 16) (hf : f < nf) (h : RSk wd nf m r) (e : rdF wd β m f r = some r') : RSk wd nf m r' ∧ r'.tk = r.tk + 1 ∧ r'.tk ≤ 16 := by
  unfold rdF at e
  by_cases c : r.rf f = true ∨ 8 * m < r.bits + wd f
  · rw [if_pos c] at e; cases e
  · rw [if_neg c] at e
    obtain rfl := Option.some.inj e
    have cf : r.rf f = false := by
      cases q : r.rf f with
      | false => rfl
      | true => exact absurd (Or.inl q) c
    have cb : r.bits + wd f ≤ 8 * m := by
      rcases Nat.lt_or_ge (8 * m) (r.bits + wd f) with q | q
      · exact absurd (Or.inr q) c
      · exact q
    have hc : r.tk + 1 = cnB (upB r.rf f) 16 := by rw [cnB_up cf, if_pos (by omega), h.cn]
    refine ⟨⟨hc, ?_, cb, ?_⟩, rfl, ?_⟩
    · show r.bits + wd f = offs wd (upN r.od r.tk f) (r.tk + 1)
      unfold offs
      rw [offs_cg (od := r.od) r.tk (fun i hi => by unfold upN; rw [if_neg (by omega)]), h.of]
      unfold upN; rw [if_pos rfl]
    · intro i hi
      have hi' : i < r.tk + 1 := hi
      show upN r.od r.tk f i < nf
      unfold upN
      by_cases d : i = r.tk
      · rw [if_pos d]; exact hf
      · rw [if_neg d]; exact h.od i (by omega)
    · show r.tk + 1 ≤ 16
      rw [hc]; exact cnB_le 16
theorem rdL_k {wd : Nat → Nat} {β : Nat → Bool} {nf m : Nat} {fl : Nat → Nat} (hn : nf ≤ 16) : ∀ n k r r', (∀ i, i < k + n → k ≤ i → fl i < nf) → RSk wd nf m r → rdL wd β m fl n k r = some r' → RSk wd nf m r' ∧ r'.tk = r.tk + n := by
  intro n
  induction n with
  | zero => intro k r r' _ h e; obtain rfl := Option.some.inj e; exact ⟨h, rfl⟩
  | succ n ih =>
    intro k r r' hf h e
    rw [rdL] at e
    cases q : rdF wd β m (fl k) r with
    | none => rw [q] at e; cases e
    | some r1 =>
      rw [q] at e
      obtain ⟨h1, h2, _⟩ := rdF_k hn (hf k (by omega) (by omega)) h q
      obtain ⟨h3, h4⟩ := ih (k + 1) r1 r' (fun i a b => hf i (by omega) (by omega)) h1 e
      exact ⟨h3, by omega⟩
/-- the first case from k on that fits -/
noncomputable def nxC (v : Nat → Nat → Int32) (s : Nat) (x : Int32) : Nat → Nat → Int32
  | 0, _ => v 901 s
  | n + 1, k => if ((x ^^^ v 898 (4 * s + k)) &&& v 899 (4 * s + k)) = 0 then v 900 (4 * s + k) else nxC v s x n (k + 1)
noncomputable def nxt (v : Nat → Nat → Int32) (s : Nat) (w : Nat → Int32) : Int32 := if v 896 s = -1 then v 901 s else nxC v s (w (cl (v 896 s))) (cl (v 897 s)) 0
/-- the number of fields that state s takes -/
def nTs (v : Nat → Nat → Int32) (s : Nat) : Nat := cl (v (8 + 5 * s) 4)
def flS (v : Nat → Nat → Int32) (s k : Nat) : Nat := cl (v 895 (4 * s + k))
def wdv (v : Nat → Nat → Int32) (f : Nat) : Nat := cl (v 3 f)
/-- reading from state at on, N turns at most: none without an end, some none refused -/
noncomputable def rdP (v : Nat → Nat → Int32) (β : Nat → Bool) (m : Nat) : Nat → Int32 → RS → Option (Option RS)
  | 0, a, r => if a = -1 then some (some r) else if a = -2 then some none else none
  | N + 1, a, r => if a = -1 then some (some r) else if a = -2 then some none else
    match rdL (wdv v) β m (flS v (cl a)) (nTs v (cl a)) 0 r with
    | none => some none
    | some r' => rdP v β m N (nxt v (cl a) r'.w) r'
/-- where a state leads, and how long it can go on without a field -/
def WY (v : Nat → Nat → Int32) (ns : Nat) (rk : Nat → Nat) : Prop :=
  (1 ≤ ns) ∧
  (∀ s, s < ns → v 901 s = -2 ∨ v 901 s = -1 ∨ vF ns (v 901 s)) ∧
  (∀ s, s < ns → ∀ k, k < cl (v 897 s) → v 900 (4 * s + k) = -2 ∨ v 900 (4 * s + k) = -1 ∨ vF ns (v 900 (4 * s + k))) ∧
  (∀ s, rk s ≤ 7) ∧
  (∀ s, s < ns → nTs v s = 0 → ∀ s', s' < ns → v 901 s = nI s' → rk s' < rk s) ∧
  (∀ s, s < ns → nTs v s = 0 → ¬ v 896 s = -1 → ∀ k, k < cl (v 897 s) → ∀ s', s' < ns → v 900 (4 * s + k) = nI s' → rk s' < rk s)
theorem WY.one {v : Nat → Nat → Int32} {ns : Nat} {rk : Nat → Nat} (h : WY v ns rk) : 1 ≤ ns := h.1
theorem WY.w1 {v : Nat → Nat → Int32} {ns : Nat} {rk : Nat → Nat} (h : WY v ns rk) : ∀ s, s < ns → v 901 s = -2 ∨ v 901 s = -1 ∨ vF ns (v 901 s) := h.2.1
theorem WY.w2 {v : Nat → Nat → Int32} {ns : Nat} {rk : Nat → Nat} (h : WY v ns rk) : ∀ s, s < ns → ∀ k, k < cl (v 897 s) → v 900 (4 * s + k) = -2 ∨ v 900 (4 * s + k) = -1 ∨ vF ns (v 900 (4 * s + k)) := h.2.2.1
theorem WY.r7 {v : Nat → Nat → Int32} {ns : Nat} {rk : Nat → Nat} (h : WY v ns rk) : ∀ s, rk s ≤ 7 := h.2.2.2.1
theorem WY.r1 {v : Nat → Nat → Int32} {ns : Nat} {rk : Nat → Nat} (h : WY v ns rk) : ∀ s, s < ns → nTs v s = 0 → ∀ s', s' < ns → v 901 s = nI s' → rk s' < rk s := h.2.2.2.2.1
theorem WY.r2 {v : Nat → Nat → Int32} {ns : Nat} {rk : Nat → Nat} (h : WY v ns rk) : ∀ s, s < ns → nTs v s = 0 → ¬ v 896 s = -1 → ∀ k, k < cl (v 897 s) → ∀ s', s' < ns → v 900 (4 * s + k) = nI s' → rk s' < rk s := h.2.2.2.2.2
theorem nxC_o {v : Nat → Nat → Int32} {s : Nat} {x : Int32} : ∀ n k, nxC v s x n k = v 901 s ∨ ∃ j, k ≤ j ∧ j < k + n ∧ nxC v s x n k = v 900 (4 * s + j) := by
  intro n
  induction n with
  | zero => intro k; exact Or.inl rfl
  | succ n ih =>
    intro k
    rw [nxC]
    by_cases c : ((x ^^^ v 898 (4 * s + k)) &&& v 899 (4 * s + k)) = 0
    · rw [if_pos c]; exact Or.inr ⟨k, by omega, by omega, rfl⟩
    · rw [if_neg c]
      rcases ih (k + 1) with h | ⟨j, h1, h2, h3⟩
      · exact Or.inl h
      · exact Or.inr ⟨j, by omega, by omega, h3⟩
theorem nxt_o {v : Nat → Nat → Int32} {s : Nat} {w : Nat → Int32} : nxt v s w = v 901 s ∨ (¬ v 896 s = -1 ∧ ∃ j, j < cl (v 897 s) ∧ nxt v s w = v 900 (4 * s + j)) := by
  unfold nxt
  by_cases c : v 896 s = -1
  · rw [if_pos c]; exact Or.inl rfl
  · rw [if_neg c]
    rcases nxC_o (cl (v 897 s)) 0 with h | ⟨j, h1, h2, h3⟩
    · exact Or.inl h
    · exact Or.inr ⟨c, j, by omega, h3⟩
def aOK2 (ns : Nat) (a : Int32) : Prop := a = -2 ∨ a = -1 ∨ vF ns a
theorem nxt_ok {v : Nat → Nat → Int32} {ns : Nat} {rk : Nat → Nat} (h : WY v ns rk) {s : Nat} {w : Nat → Int32} (hs : s < ns) : aOK2 ns (nxt v s w) := by
  rcases nxt_o (v := v) (s := s) (w := w) with e | ⟨_, j, h1, e⟩
  · rw [e]; exact h.w1 s hs
  · rw [e]; exact h.w2 s hs j h1
theorem nxt_rk {v : Nat → Nat → Int32} {ns : Nat} {rk : Nat → Nat} (h : WY v ns rk) {s s' : Nat} {w : Nat → Int32} (hs : s < ns) (h0 : nTs v s = 0) (hs' : s' < ns) (e : nxt v s w = nI s') : rk s' < rk s := by
  rcases nxt_o (v := v) (s := s) (w := w) with q | ⟨c, j, h1, q⟩
  · exact h.r1 s hs h0 s' hs' (by rw [← q]; exact e)
  · exact h.r2 s hs h0 c j h1 s' hs' (by rw [← q]; exact e)
/-- 136 turns are enough -/
theorem rdP_end {v : Nat → Nat → Int32} {β : Nat → Bool} {nf ns m : Nat} {rk : Nat → Nat} (hn : nf ≤ 16) (h : WY v ns rk) (hns : ns ≤ 8) (hf : ∀ s, s < ns → ∀ k, k < nTs v s → flS v s k < nf) :
    ∀ N a r, aOK2 ns a → RSk (wdv v) nf m r → (∀ s, s < ns → a = nI s → (16 - r.tk) * 8 + rk s < N) → r.tk ≤ 16 → rdP v β m N a r ≠ none := by
  intro N
  induction N with
  | zero =>
    intro a r ha hr hp _
    rcases ha with e | e | ⟨s, s1, e⟩
    · rw [rdP, e]; intro q; cases q
    · rw [rdP, e]; intro q; cases q
    · exact absurd (hp s s1 e) (by omega)
  | succ N ih =>
    intro a r ha hr hp ht
    rw [rdP]
    rcases ha with e | e | ⟨s, s1, e⟩
    · rw [e]; intro q; cases q
    · rw [e]; intro q; cases q
    · have hN := hp s s1 e
      rw [if_neg (by rw [e]; exact nN1 (by omega)), if_neg (by rw [e]; intro q; have := nI_pos (n := s) (by omega); rw [q] at this; exact this (by decide)), e, cl_n (by omega)]
      cases q : rdL (wdv v) β m (flS v s) (nTs v s) 0 r with
      | none => intro q; cases q
      | some r' =>
        obtain ⟨h1, h2⟩ := rdL_k hn (nTs v s) 0 r r' (fun i a _ => hf s s1 i (by omega)) hr q
        have ht' : r'.tk ≤ 16 := by rw [h1.cn]; exact cnB_le 16
        refine ih _ r' (nxt_ok h s1) h1 (fun s' a1 a2 => ?_) ht'
        by_cases c : nTs v s = 0
        · have := nxt_rk h s1 c a1 a2
          rw [c] at h2
          rw [h2]
          have : (16 - (r.tk + 0)) * 8 = (16 - r.tk) * 8 := rfl
          omega
        · have := h.r7 s'
          omega
