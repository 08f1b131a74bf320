/-! HOW A METHOD IS READ AS A FUNCTION OF THE MEMORY -/
/-- as many turns as a loop may take -/
def fuel : Nat := 100000
def bd2 {α β : Type} (o : Option (α × Sx)) (f : α → Sx → Option β) : Option β := o.bind fun q => f q.1 q.2
theorem ob2 {α β : Type} {o : Option (α × Sx)} {f : α → Sx → Option β} {y : β} (h : bd2 o f = some y) : ∃ r S, o = some (r, S) ∧ f r S = some y := by
  obtain ⟨⟨r, S⟩, e, h⟩ := ob h
  exact ⟨r, S, e, h⟩
/-- a call that may throw: then so does the caller -/
def bdT (o : Option (Nat × Int32 × Sx)) (f : Int32 → Sx → Option (Nat × Int32 × Sx)) : Option (Nat × Int32 × Sx) := o.bind fun q => if q.1 = 0 then f q.2.1 q.2.2 else some (q.1, 0, q.2.2)
theorem obT {o : Option (Nat × Int32 × Sx)} {f : Int32 → Sx → Option (Nat × Int32 × Sx)} {y : Nat × Int32 × Sx} (h : bdT o f = some y) : ∃ k r S, o = some (k, r, S) ∧ ((k = 0 ∧ f r S = some y) ∨ (k ≠ 0 ∧ y = (k, 0, S))) := by
  obtain ⟨⟨k, r, S⟩, e, h⟩ := ob h
  refine ⟨k, r, S, e, ?_⟩
  by_cases hk : k = 0
  · left
    dsimp only at h
    rw [if_pos hk] at h
    exact ⟨hk, h⟩
  · right
    dsimp only at h
    rw [if_neg hk] at h
    exact ⟨hk, (Option.some.inj h).symm⟩
def oM {α β : Type} (q : Option α) (A : β) (f : α → β) : β := match q with | none => A | some a => f a
/-- a boolean answer -/
def zb {β : Type} (v : Int32) (f : Option β) : Option β := if v = 0 ∨ v = 1 then f else none
theorem zb_of {β : Type} {v : Int32} {f : Option β} {y : β} (h : zb v f = some y) : (v = 0 ∨ v = 1) ∧ f = some y := ite_opt h
/-- a divisor -/
def nz {β : Type} (v : Int32) (f : Option β) : Option β := if ¬ v = 0 then f else none
theorem nz_of {β : Type} {v : Int32} {f : Option β} {y : β} (h : nz v f = some y) : ¬ v = 0 ∧ f = some y := ite_opt h
theorem tbl_out {x : Int32} {lo hi : Int} (n : Nat) (h : ∀ i : Nat, i < n → ¬ x.toInt = lo + i) (hh : hi = lo + n - 1) : x.toInt < lo ∨ hi < x.toInt := by
  rcases Int.lt_or_le x.toInt lo with h1 | h1
  · exact Or.inl h1
  · rcases Int.lt_or_le hi x.toInt with h2 | h2
    · exact Or.inr h2
    · exfalso
      refine h (x.toInt - lo).toNat ?_ ?_
      · omega
      · omega
theorem toInt_ne {x k : Int32} (h : ¬ x = k) : ¬ x.toInt = k.toInt := fun q => h (Int32.toInt_inj.mp q)
theorem ite_t {α : Type} {c : Prop} [Decidable c] {x y z : α} (hc : c) (h : (if c then x else y) = z) : x = z := by rw [if_pos hc] at h; exact h
theorem ite_f {α : Type} {c : Prop} [Decidable c] {x y z : α} (hc : ¬ c) (h : (if c then x else y) = z) : y = z := by rw [if_neg hc] at h; exact h
def ckd (S : Sx) (a kd : Nat) : Option Unit := if kdOf S a = some kd then some () else none
theorem ckd_of {S : Sx} {a kd : Nat} {u : Unit} (h : ckd S a kd = some u) : kdOf S a = some kd := (ite_some h).1
theorem fin_ok {kd k : Nat} (h : (match classes[kd]? with | some q => (q.2.1 k).2.2.2 | none => true) = false) : ∀ q, classes[kd]? = some q → (q.2.1 k).2.2.2 = false := by
  intro q hq
  rw [hq] at h
  exact h
