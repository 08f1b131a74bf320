/-! THE MEMORY: kinds and lengths of cells, ints, references, longs, the heap's size; cells are read as the kit reads them -/
abbrev Sx : Type := (Nat → Option (Nat × Nat)) × (Nat → Nat → Int32) × (Nat → Nat → Option Nat) × (Nat → Nat → Int64) × Nat
abbrev sK (S : Sx) : Nat → Option (Nat × Nat) := S.1
abbrev sI (S : Sx) : Nat → Nat → Int32 := S.2.1
abbrev sR (S : Sx) : Nat → Nat → Option Nat := S.2.2.1
abbrev sJ (S : Sx) : Nat → Nat → Int64 := S.2.2.2.1
abbrev sZ (S : Sx) : Nat := S.2.2.2.2
def u2 {α : Type} (f : Nat → Nat → α) (a k : Nat) (v : α) : Nat → Nat → α := fun b j => if b = a ∧ j = k then v else f b j
theorem u2_ne {α : Type} (f : Nat → Nat → α) (a k : Nat) (v : α) {b : Nat} (h : b ≠ a) : u2 f a k v b = f b := by funext j; simp [u2, h]
theorem u2_self {α : Type} (f : Nat → Nat → α) (a k : Nat) (v : α) : u2 f a k v a = va_up (f a) k v := by funext j; simp [u2, va_up]
def wI (S : Sx) (a k : Nat) (v : Int32) : Sx := (S.1, u2 S.2.1 a k v, S.2.2)
def wR (S : Sx) (a k : Nat) (v : Option Nat) : Sx := (S.1, S.2.1, u2 S.2.2.1 a k v, S.2.2.2)
def wJ (S : Sx) (a k : Nat) (v : Int64) : Sx := (S.1, S.2.1, S.2.2.1, u2 S.2.2.2.1 a k v, S.2.2.2.2)
/-- a new cell, at the heap's end: its slots are 0, null -/
def nw (S : Sx) (kd n : Nat) : Sx := (va_up S.1 S.2.2.2.2 (some (kd, n)), va_up S.2.1 S.2.2.2.2 (fun _ => 0), va_up S.2.2.1 S.2.2.2.2 (fun _ => none), va_up S.2.2.2.1 S.2.2.2.2 (fun _ => 0), S.2.2.2.2 + 1)
/-- a cell comes that nobody reads -/
def nx (S : Sx) : Sx := (va_up S.1 S.2.2.2.2 none, S.2.1, S.2.2.1, S.2.2.2.1, S.2.2.2.2 + 1)
def flds (kd : Nat) (fi : Nat → Int32) (fr : Nat → Option Nat) : List Value := (List.range (sN kd)).map (fun k => if sTy kd k = 1 then va_rf (fr k) else .int (fi k))
theorem flds_get {kd k : Nat} (fi : Nat → Int32) (fr : Nat → Option Nat) (h : k < sN kd) : (flds kd fi fr)[k]? = some (if sTy kd k = 1 then va_rf (fr k) else .int (fi k)) := by
  simp [flds, h]
theorem flds_len (kd : Nat) (fi : Nat → Int32) (fr : Nat → Option Nat) : (flds kd fi fr).length = sN kd := by simp [flds]
theorem flds_setI {kd k : Nat} (fi : Nat → Int32) (fr : Nat → Option Nat) (v : Int32) (ht : sTy kd k ≠ 1) : (flds kd fi fr).set k (.int v) = flds kd (va_up fi k v) fr := by
  apply List.ext_getElem?
  intro j
  by_cases hj : j < sN kd
  · by_cases hk : k = j
    · subst hk
      rw [List.getElem?_set_self (by rw [flds_len]; exact hj), flds_get _ _ hj, if_neg ht, va_up_self]
    · rw [List.getElem?_set_ne hk, flds_get _ _ hj, flds_get _ _ hj, va_up_ne _ _ (Ne.symm hk)]
  · rw [List.getElem?_eq_none (by rw [List.length_set, flds_len]; omega), List.getElem?_eq_none (by rw [flds_len]; omega)]
theorem flds_setR {kd k : Nat} (fi : Nat → Int32) (fr : Nat → Option Nat) (v : Option Nat) (ht : sTy kd k = 1) : (flds kd fi fr).set k (va_rf v) = flds kd fi (va_up fr k v) := by
  apply List.ext_getElem?
  intro j
  by_cases hj : j < sN kd
  · by_cases hk : k = j
    · subst hk
      rw [List.getElem?_set_self (by rw [flds_len]; exact hj), flds_get _ _ hj, if_pos ht, va_up_self]
    · rw [List.getElem?_set_ne hk, flds_get _ _ hj, flds_get _ _ hj, va_up_ne _ _ (Ne.symm hk)]
  · rw [List.getElem?_eq_none (by rw [List.length_set, flds_len]; omega), List.getElem?_eq_none (by rw [flds_len]; omega)]
/-- a cell as the kit has it: kinds under 100 are objects of that class; 100 int[], 101 boolean[], 102 long[]; 200 + a class: arrays of it -/
def cE (dA : Nat → ClassId) (kd n : Nat) (fi : Nat → Int32) (fr : Nat → Option Nat) (fj : Nat → Int64) : va_E :=
  if kd < 100 then .inr (kd, flds kd fi fr) else if kd = 102 then .inl (dA kd, n, .inr (.inl fj)) else if kd < 200 then .inl (dA kd, n, .inl fi) else .inl (dA kd, n, .inr (.inr (.inr (.inr fr))))
abbrev cAt (D : va_G) (dA : Nat → ClassId) (S : Sx) (a kd n : Nat) (H : Heap) : Prop := va_at D classes (a, cE dA kd n (sI S a) (sR S a) (sJ S a)) H
def mOK (D : va_G) (dA : Nat → ClassId) (B : Nat) (S : Sx) (H : Heap) : Prop := H.size = sZ S ∧ ∀ a kd n, sK S a = some (kd, n) → B ≤ a ∧ cAt D dA S a kd n H
def tyL (dA : Nat → ClassId) : List (ClassId × FieldType) := [(dA 100, .int), (dA 101, .boolean), (dA 102, .long), (dA 202, .object nR2), (dA 203, .object nR3), (dA 204, .object nR4), (dA 205, .object nR5), (dA 206, .object nR6), (dA 209, .object nR9), (dA 211, .object nR11)]
theorem mOK.sgl {D : va_G} {dA : Nat → ClassId} {B : Nat} {S : Sx} {H : Heap} (h : mOK D dA B S H) {a kd n : Nat} (hk : sK S a = some (kd, n)) : va_P D classes [(a, cE dA kd n (sI S a) (sR S a) (sJ S a))] H := by
  intro k q hq
  cases k with
  | zero => cases hq; exact (h.2 a kd n hk).2
  | succ k => simp at hq
/-- one cell's content has changed -/
theorem mOK.setc {D : va_G} {dA : Nat → ClassId} {B : Nat} {S S' : Sx} {H H' : Heap} (h : mOK D dA B S H) {a kd n : Nat} (hk : sK S a = some (kd, n)) (eK : sK S' = sK S) (eZ : sZ S' = sZ S)
    (eI : ∀ b, b ≠ a → sI S' b = sI S b) (eR : ∀ b, b ≠ a → sR S' b = sR S b) (eJ : ∀ b, b ≠ a → sJ S' b = sJ S b) (hz : H'.size = H.size) (ho : ∀ q : Nat, q ≠ a → H'[q]? = H[q]?) (hc : cAt D dA S' a kd n H') : mOK D dA B S' H' := by
  refine ⟨by rw [hz, h.1, eZ], fun b kd' n' hb => ?_⟩
  rw [eK] at hb
  by_cases hba : b = a
  · subst hba
    cases hk.symm.trans hb
    exact ⟨(h.2 b kd n hk).1, hc⟩
  · refine ⟨(h.2 b kd' n' hb).1, ?_⟩
    show va_at D classes (b, cE dA kd' n' (sI S' b) (sR S' b) (sJ S' b)) H'
    rw [eI b hba, eR b hba, eJ b hba]
    exact (h.2 b kd' n' hb).2.kept (ho b hba)
/-- a cell has come -/
theorem mOK.newc {D : va_G} {dA : Nat → ClassId} {B : Nat} {S : Sx} {H H' : Heap} (h : mOK D dA B S H) {kd n : Nat} (hB : B ≤ sZ S) (hz : H'.size = H.size + 1) (ho : ∀ q : Nat, q < H.size → H'[q]? = H[q]?) (hc : va_at D classes (H.size, cE dA kd n (fun _ => 0) (fun _ => none) (fun _ => 0)) H') : mOK D dA B (nw S kd n) H' := by
  refine ⟨by rw [hz, h.1]; rfl, fun b kd' n' hb => ?_⟩
  by_cases hba : b = sZ S
  · subst hba
    have e1 : sK (nw S kd n) (sZ S) = some (kd, n) := va_up_self _ _ _
    cases e1.symm.trans hb
    refine ⟨hB, ?_⟩
    show va_at D classes (sZ S, cE dA kd n (va_up S.2.1 S.2.2.2.2 (fun _ => 0) (sZ S)) (va_up S.2.2.1 S.2.2.2.2 (fun _ => none) (sZ S)) (va_up S.2.2.2.1 S.2.2.2.2 (fun _ => 0) (sZ S))) H'
    rw [va_up_self, va_up_self, va_up_self, ← h.1]
    exact hc
  · have e1 : sK (nw S kd n) b = sK S b := va_up_ne _ _ hba
    rw [e1] at hb
    refine ⟨(h.2 b kd' n' hb).1, ?_⟩
    show va_at D classes (b, cE dA kd' n' (va_up S.2.1 S.2.2.2.2 (fun _ => 0) b) (va_up S.2.2.1 S.2.2.2.2 (fun _ => none) b) (va_up S.2.2.2.1 S.2.2.2.2 (fun _ => 0) b)) H'
    rw [va_up_ne _ _ hba, va_up_ne _ _ hba, va_up_ne _ _ hba]
    exact (h.2 b kd' n' hb).2.kept (ho b (h.2 b kd' n' hb).2.lt)
/-- a cell has come that nobody reads -/
theorem mOK.newx {D : va_G} {dA : Nat → ClassId} {B : Nat} {S : Sx} {H H' : Heap} (h : mOK D dA B S H) (hz : H'.size = H.size + 1) (ho : ∀ q : Nat, q < H.size → H'[q]? = H[q]?) : mOK D dA B (nx S) H' := by
  refine ⟨by rw [hz, h.1]; rfl, fun b kd' n' hb => ?_⟩
  by_cases hba : b = sZ S
  · subst hba
    have e1 : sK (nx S) (sZ S) = none := va_up_self _ _ _
    cases e1.symm.trans hb
  · have e1 : sK (nx S) b = sK S b := va_up_ne _ _ hba
    rw [e1] at hb
    exact ⟨(h.2 b kd' n' hb).1, (h.2 b kd' n' hb).2.kept (ho b (h.2 b kd' n' hb).2.lt)⟩
/-- what the tables say of a class -/
def clF (kd : Nat) (q : vw_C) (ty : Nat → FieldType) : Prop := (∀ w ∈ u_ws q.1 q.2.1 q.2.2, w ∈ gT) ∧ (∀ k, k < q.2.2 → parseFieldDescriptor (q.2.1 k).2.2.1 = some (ty k)) ∧ (∀ a, a < q.2.2 → ∀ b, b < q.2.2 → a ≠ b → (q.2.1 a).2.1 ≠ (q.2.1 b).2.1) ∧ q.2.2 = sN kd ∧ kd < 100 ∧
  ∀ k, k < q.2.2 → (q.2.1 k).1 = q.1 ∧ (sTy kd k = 0 → ty k = .int) ∧ (sTy kd k = 2 → ty k = .boolean) ∧ (sTy kd k = 1 → (ty k).isReference = true)
theorem clF_all : ∀ (kd : Nat) (q : vw_C), classes[kd]? = some q → ∃ ty, clF kd q ty
  | 0, _, h => by cases h; exact ⟨nT0, nIn0, nTy0, nNm0, by decide +kernel, by decide, by decide +kernel⟩
  | 1, _, h => by cases h; exact ⟨nT1, nIn1, nTy1, nNm1, by decide +kernel, by decide, by decide +kernel⟩
  | 2, _, h => by cases h; exact ⟨nT2, nIn2, nTy2, nNm2, by decide +kernel, by decide, by decide +kernel⟩
  | 3, _, h => by cases h; exact ⟨nT3, nIn3, nTy3, nNm3, by decide +kernel, by decide, by decide +kernel⟩
  | 4, _, h => by cases h; exact ⟨nT4, nIn4, nTy4, nNm4, by decide +kernel, by decide, by decide +kernel⟩
  | 5, _, h => by cases h; exact ⟨nT5, nIn5, nTy5, nNm5, by decide +kernel, by decide, by decide +kernel⟩
  | 6, _, h => by cases h; exact ⟨nT6, nIn6, nTy6, nNm6, by decide +kernel, by decide, by decide +kernel⟩
  | 7, _, h => by cases h; exact ⟨nT7, nIn7, nTy7, nNm7, by decide +kernel, by decide, by decide +kernel⟩
  | 8, _, h => by cases h; exact ⟨nT8, nIn8, nTy8, nNm8, by decide +kernel, by decide, by decide +kernel⟩
  | 9, _, h => by cases h; exact ⟨nT9, nIn9, nTy9, nNm9, by decide +kernel, by decide, by decide +kernel⟩
  | 10, _, h => by cases h; exact ⟨nT10, nIn10, nTy10, nNm10, by decide +kernel, by decide, by decide +kernel⟩
  | 11, _, h => by cases h; exact ⟨nT11, nIn11, nTy11, nNm11, by decide +kernel, by decide, by decide +kernel⟩
  | 12, _, h => by cases h; exact ⟨nT12, nIn12, nTy12, nNm12, by decide +kernel, by decide, by decide +kernel⟩
  | k + 13, _, h => by simp [classes] at h
/-- the field at 'own#idx' is slot k of the class kd, of the sort t -/
def okF (own : String) (idx kd k t : Nat) : Prop := ∃ q : vw_C, classes[kd]? = some q ∧ k < q.2.2 ∧ Cond.fieldLink own idx q.1 (q.2.1 k).2.1 (q.2.1 k).2.2.1 ∈ gT ∧ sTy kd k = t
