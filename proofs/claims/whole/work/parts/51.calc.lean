/-! THE MEMORY'S CALCULUS, AND ITS LAYOUT: cell o + c is of the kind kt c, its reference k leads to o + rto c k -/
def mlen (c : Nat) : Nat × Nat := if c = 0 then (12, 80) else if c = 57 then (102, 1) else if c = 53 then (101, 8) else if c = 56 then (101, 16) else
  (100, if c = 1 then 16 else if c = 2 then 32 else if c < 5 then 8 else if c < 8 then 32 else if c = 8 then 8 else if c = 9 then 16 else if c < 14 then 64 else if c < 20 then 8 else if c < 26 then 16 else if c = 26 then 8 else
    if c < 35 then 160 else if c = 35 then 64 else if c = 36 then 20 else if c = 37 then 60 else if c < 40 then 41 else if c = 40 then 2460 else if c = 41 then 41 else if c = 42 then 164 else if c < 47 then 41 else if c = 51 then 7680 else if c < 53 then 128 else 16)
def kt (c : Nat) : Nat × Nat :=
  if c < 8 then (if c = 0 then (0, 7) else if c = 1 then (8, 10) else if c = 2 then (1, 10) else if c = 3 then (100, 16) else if c = 4 then (202, 8) else if c = 5 then (203, 16) else if c = 6 then (204, 8) else (206, 16))
  else if c < 48 then (if (c - 8) % 5 = 0 then (2, 8) else (100, 4))
  else if c < 128 then (if (c - 48) % 5 = 0 then (3, 5) else (100, 4))
  else if c < 304 then (if (c - 128) % 22 = 0 then (4, 10) else if (c - 128) % 22 = 1 then (205, 20) else (5, 8))
  else if c < 320 then (6, 5)
  else if c < 328 then (if c = 320 then (7, 7) else if c = 321 then (100, 16) else if c = 322 then (100, 13) else if c = 323 then (100, 8) else if c = 324 then (209, 128) else if c = 325 then (211, 16) else if c = 326 then (100, 12) else (100, 64))
  else if c < 840 then (if (c - 328) % 4 = 0 then (9, 8) else if (c - 328) % 4 = 1 then (5, 8) else if (c - 328) % 4 = 2 then (10, 1) else (100, 15))
  else if c < 888 then (if (c - 840) % 3 = 0 then (11, 8) else (100, 16))
  else if c < 893 then (if c = 888 then (5, 8) else if c = 889 then (10, 1) else if c = 890 then (100, 15) else if c = 891 then (10, 1) else (100, 15))
  else mlen (c - 893)
/-- where the reference's array of slot k lies, from its object on -/
def mof (k : Nat) : Nat := if k < 8 then 0 else if k < 33 then k - 7 else if k < 35 then 0 else if k < 47 then k - 9 else if k < 57 then 0 else if k < 73 then k - 19 else if k < 77 then 0 else if k < 80 then k - 23 else 0
def rto (c k : Nat) : Option Nat :=
  if c < 8 then (if c = 0 then (if k = 0 then some 1 else if k = 1 then some 2 else if k = 2 then some 320 else if k = 3 then some 888 else if k = 4 then some 889 else if k = 5 then some 891 else none)
    else if c = 1 then (if k = 0 then some 2 else if k = 1 then some 320 else if k < 6 then some (322 + k) else none)
    else if c = 2 then (if k < 5 then some (3 + k) else none) else if c = 4 then (if k < 8 then some (8 + 5 * k) else none) else if c = 5 then (if k < 16 then some (48 + 5 * k) else none)
    else if c = 6 then (if k < 8 then some (128 + 22 * k) else none) else if c = 7 then (if k < 16 then some (304 + k) else none) else none)
  else if c < 128 then (if (c - 8) % 5 = 0 ∧ k < 4 then some (c + 1 + k) else none)
  else if c < 304 then (if (c - 128) % 22 = 0 ∧ k < 1 then some (c + 1 + k) else if (c - 128) % 22 = 1 ∧ k < 20 then some (c + 1 + k) else none)
  else if c < 328 then (if c = 320 ∧ k < 3 then some (321 + k) else if c = 324 ∧ k < 128 then some (328 + 4 * k) else if c = 325 ∧ k < 16 then some (840 + 3 * k) else none)
  else if c < 840 then (if (c - 328) % 4 = 0 ∧ k < 2 then some (c + 1 + k) else if (c - 328) % 4 = 2 ∧ k < 1 then some (c + 1 + k) else none)
  else if c < 888 then (if (c - 840) % 3 = 0 ∧ k < 2 then some (c + 1 + k) else none)
  else if c < 893 then (if (c = 889 ∨ c = 891) ∧ k < 1 then some (c + 1 + k) else none)
  else (if c = 893 ∧ 0 < mof k then some (893 + mof k) else none)
/-- cells whose ints aren't 0 at the beginning but -1 -/
def isp (c k : Nat) : Prop := (c = 320 ∧ k = 6) ∨ (c = 326 ∧ k < 12) ∨ (c = 893 ∧ k = 34)
/-- a memory half built: n cells stand, the references of P are still to be set, the ints of Q still to be set to -1 -/
def Bd (o n : Nat) (P Q : Nat → Nat → Prop) (S : Sx) : Prop := sZ S = o + n ∧ (∀ c, c < n → sK S (o + c) = some (kt c)) ∧ (∀ c k v, c < n → rto c k = some v → ¬ P c k → sR S (o + c) k = some (o + v)) ∧
  (∀ c k, c < n → ¬ isp c k → sI S (o + c) k = 0) ∧ (∀ c k, c < n → isp c k → ¬ Q c k → sI S (o + c) k = -1)
theorem Bd.mono {o n : Nat} {P P' Q Q' : Nat → Nat → Prop} {S : Sx} (h : Bd o n P Q S) (hp : ∀ c k v, c < n → rto c k = some v → P c k → P' c k) (hq : ∀ c k, c < n → isp c k → Q c k → Q' c k) : Bd o n P' Q' S :=
  ⟨h.1, h.2.1, fun c k v h1 h2 h3 => h.2.2.1 c k v h1 h2 (fun x => h3 (hp c k v h1 h2 x)), h.2.2.2.1, fun c k h1 h2 h3 => h.2.2.2.2 c k h1 h2 (fun x => h3 (hq c k h1 h2 x))⟩
theorem Bd.kd {o n c : Nat} {P Q : Nat → Nat → Prop} {S : Sx} (h : Bd o n P Q S) (hc : c < n) : kdOf S (o + c) = some (kt c).1 := by
  unfold kdOf; rw [h.2.1 c hc]; rfl
theorem bd_mk {o n kd len : Nat} {P Q : Nat → Nat → Prop} {S : Sx} (h : Bd o n P Q S) (hk : kt n = (kd, len)) : ∃ S', mk S kd len = some (o + n, S') ∧ Bd o (n + 1) (fun c k => P c k ∨ c = n) (fun c k => Q c k ∨ c = n) S' := by
  obtain ⟨h1, h2, h3, h4, h5⟩ := h
  have hz : S.2.2.2.2 = o + n := h1
  refine ⟨nw S kd len, ?_, ?_, ?_, ?_, ?_, ?_⟩
  · unfold mk; rw [show sZ S = o + n from h1]
  · show S.2.2.2.2 + 1 = o + (n + 1); omega
  · intro c hc
    show va_up S.1 S.2.2.2.2 (some (kd, len)) (o + c) = _
    by_cases e : c = n
    · subst e; rw [hz, va_up_self, hk]
    · rw [va_up_ne _ _ (by omega)]; exact h2 c (by omega)
  · intro c k v hc hv hp
    show va_up S.2.2.1 S.2.2.2.2 (fun _ => none) (o + c) k = _
    have e : c ≠ n := fun e => hp (Or.inr e)
    rw [va_up_ne _ _ (by omega)]
    exact h3 c k v (by omega) hv (fun x => hp (Or.inl x))
  · intro c k hc hs
    show va_up S.2.1 S.2.2.2.2 (fun _ => 0) (o + c) k = _
    by_cases e : c = n
    · subst e; rw [hz, va_up_self]
    · rw [va_up_ne _ _ (by omega)]; exact h4 c k (by omega) hs
  · intro c k hc hs hq
    show va_up S.2.1 S.2.2.2.2 (fun _ => 0) (o + c) k = _
    have e : c ≠ n := fun e => hq (Or.inr e)
    rw [va_up_ne _ _ (by omega)]
    exact h5 c k (by omega) hs (fun x => hq (Or.inl x))
theorem bd_wR {o n c k v : Nat} {P Q : Nat → Nat → Prop} {S : Sx} (h : Bd o n P Q S) (hr : rto c k = some v) : Bd o n (fun c' k' => P c' k' ∧ ¬ (c' = c ∧ k' = k)) Q (wR S (o + c) k (some (o + v))) := by
  obtain ⟨h1, h2, h3, h4, h5⟩ := h
  refine ⟨h1, h2, ?_, h4, h5⟩
  intro c' k' v' hc' hv' hp
  show u2 S.2.2.1 (o + c) k (some (o + v)) (o + c') k' = _
  unfold u2
  by_cases e : c' = c ∧ k' = k
  · obtain ⟨e1, e2⟩ := e
    subst e1; subst e2
    rw [if_pos ⟨rfl, rfl⟩]
    rw [hr] at hv'
    cases hv'; rfl
  · rw [if_neg (by intro q; exact e ⟨by omega, q.2⟩)]
    exact h3 c' k' v' hc' hv' (fun x => hp ⟨x, e⟩)
theorem bd_pX {o n c k v kd : Nat} {P Q : Nat → Nat → Prop} {S : Sx} (h : Bd o n P Q S) (hc : c < n) (hk : (kt c).1 = kd) (hr : rto c k = some v) : ∃ S', pX S kd k (o + c) (o + v) = some S' ∧ Bd o n (fun c' k' => P c' k' ∧ ¬ (c' = c ∧ k' = k)) Q S' := by
  refine ⟨_, ?_, bd_wR h hr⟩
  unfold pX
  rw [if_pos (by rw [h.kd hc, hk])]
theorem vin_nI {j n : Nat} (h : j < n) (hn : n < 2 ^ 31) : vin (nI j) n = true := by
  unfold vin
  rw [nI_clamp (by omega)]
  simp only [Bool.and_eq_true, Bool.not_eq_true', decide_eq_false_iff_not, decide_eq_true_eq]
  exact ⟨nI_pos (by omega), h⟩
theorem aOK_nI {S : Sx} {kd a j n : Nat} (hk : sK S a = some (kd, n)) (h : j < n) (hn : n < 2 ^ 31) : aOK S kd a (nI j) = true := by
  unfold aOK; rw [hk]
  simp only [beq_self_eq_true, Bool.true_and]
  exact vin_nI h hn
theorem bd_qX {o n c k v kd len : Nat} {P Q : Nat → Nat → Prop} {S : Sx} (h : Bd o n P Q S) (hc : c < n) (hv : v < n) (hk : kt c = (200 + kd, len)) (hkl : k < len) (hl : len < 1000) (hkv : (kt v).1 = kd) (hr : rto c k = some v) : ∃ S', qX S kd (o + c) (nI k) (o + v) = some S' ∧ Bd o n (fun c' k' => P c' k' ∧ ¬ (c' = c ∧ k' = k)) Q S' := by
  refine ⟨_, ?_, bd_wR h hr⟩
  unfold qX
  rw [if_pos ⟨aOK_nI (n := len) (by rw [h.2.1 c hc, hk]) hkl (by omega), by rw [h.kd hv, hkv]⟩, nI_clamp (by omega)]
theorem bd_wI {o n c k : Nat} {P Q : Nat → Nat → Prop} {S : Sx} (h : Bd o n P Q S) (hs : isp c k) : Bd o n P (fun c' k' => Q c' k' ∧ ¬ (c' = c ∧ k' = k)) (wI S (o + c) k (-1)) := by
  obtain ⟨h1, h2, h3, h4, h5⟩ := h
  refine ⟨h1, h2, h3, ?_, ?_⟩
  · intro c' k' hc' hs'
    show u2 S.2.1 (o + c) k (-1) (o + c') k' = _
    unfold u2
    rw [if_neg (by intro q; apply hs'; have e : c' = c := by omega
                   rw [e, q.2]; exact hs)]
    exact h4 c' k' hc' hs'
  · intro c' k' hc' hs' hq
    show u2 S.2.1 (o + c) k (-1) (o + c') k' = _
    unfold u2
    by_cases e : c' = c ∧ k' = k
    · rw [if_pos ⟨by omega, e.2⟩]
    · rw [if_neg (by intro q; exact e ⟨by omega, q.2⟩)]
      exact h5 c' k' hc' hs' (fun x => hq ⟨x, e⟩)
theorem bd_pI {o n c k kd : Nat} {P Q : Nat → Nat → Prop} {S : Sx} (h : Bd o n P Q S) (hc : c < n) (hk : (kt c).1 = kd) (hs : isp c k) : ∃ S', pI S kd k (o + c) (-1) = some S' ∧ Bd o n P (fun c' k' => Q c' k' ∧ ¬ (c' = c ∧ k' = k)) S' := by
  refine ⟨_, ?_, bd_wI h hs⟩
  unfold pI
  rw [if_pos (by rw [h.kd hc, hk])]
theorem bd_gX {o n c k v kd : Nat} {P Q : Nat → Nat → Prop} {S : Sx} (h : Bd o n P Q S) (hc : c < n) (hk : (kt c).1 = kd) (hr : rto c k = some v) (hp : ¬ P c k) : gX S kd k (o + c) = some (o + v) := by
  unfold gX
  rw [if_pos (by rw [h.kd hc, hk]), h.2.2.1 c k v hc hr hp]
