/-! WORDS THAT MANY ROWS USE; System.arraycopy; what is made; lookupswitch -/
theorem wObj1 : Cond.instanceMethod Lib.objectInit ∈ gT := gT_in 83 (by decide +kernel) rfl
theorem wObj2 : Cond.code Lib.objectInit ⟨#[0xb1]⟩ 1 none ∈ gT := gT_in 84 (by decide +kernel) rfl
theorem wCp1 : Cond.native arraycopyName ∈ gT := gT_in 999 (by decide +kernel) rfl
theorem wCp2 : Cond.static arraycopyName ∈ gT := gT_in 998 (by decide +kernel) rfl
theorem wCp3 : Cond.initialized "java/lang/System" ∈ gT := gT_in 75 (by decide +kernel) rfl
theorem wArI : Cond.arrayClass .int ∈ gT := gT_in 143 (by decide +kernel) rfl
theorem wArZ : Cond.arrayClass .boolean ∈ gT := gT_in 1420 (by decide +kernel) rfl
theorem wArJ : Cond.arrayClass .long ∈ gT := gT_in 1654 (by decide +kernel) rfl
theorem own_ok {kd : Nat} {o : String} (h : (match classes[kd]? with | some q => q.1 == o | none => true) = true) : ∀ q, classes[kd]? = some q → q.1 = o := by
  intro q hq
  rw [hq] at h
  exact beq_iff_eq.mp h
def mk (S : Sx) (kd n : Nat) : Option (Nat × Sx) := some (sZ S, nw S kd n)
def cpI (S : Sx) (a0 : Nat) (sp : Int32) (a : Nat) (dp n : Int32) : Option Sx := match sK S a0, sK S a with
  | some q0, some q1 => if q0.1 = 100 ∧ q1.1 = 100 ∧ ¬ sp < 0 ∧ ¬ dp < 0 ∧ ¬ n < 0 ∧ sp.toNatClampNeg + n.toNatClampNeg ≤ q0.2 ∧ dp.toNatClampNeg + n.toNatClampNeg ≤ q1.2 then some (S.1, va_up S.2.1 a (va_cpy (S.2.1 a0) (S.2.1 a) sp.toNatClampNeg dp.toNatClampNeg n.toNatClampNeg), S.2.2) else none
  | _, _ => none
section VMORE
variable {Γ : vG} {θ : tM} {Q : State → Prop} {S : Sx} {ce sl pc : Nat} {L : List (Nat × Value)} {st : List Value}
theorem v_newO {idx kd n a : Nat} {S1 : Sx} (hc : okC (tO θ) idx kd) (hn : sN kd = n) (he : mk S kd n = some (a, S1)) (hce : ce + 1 ≤ (gR Γ).cells) (hsl : sl + n ≤ (gR Γ).slots) (hd : decode (tC θ) pc = .ok (.new idx, 3)) (kk : vV Γ θ Q S1 (ce + 1) (sl + n) (pc + 3) L (.ref a :: st)) : vV Γ θ Q S ce sl pc L st := by
  cases he
  exact v_new hc hn hce hsl hd kk
theorem v_mkI {n a : Nat} {j : Int32} {S1 : Sx} (he : mk S 100 n = some (a, S1)) (hj0 : ¬ j < 0) (hj : j.toNatClampNeg = n) (hb : n * 8 ≤ 536870912) (hce : ce + 1 ≤ (gR Γ).cells) (hsl : sl + n ≤ (gR Γ).slots) (hd : decode (tC θ) pc = .ok (.newarray .int, 2)) (kk : vV Γ θ Q S1 (ce + 1) (sl + n) (pc + 2) L (.ref a :: st)) : vV Γ θ Q S ce sl pc L (.int j :: st) := by
  cases he
  exact v_newI wArI hj0 hj hb hce hsl hd kk
theorem v_mkZ {n a : Nat} {j : Int32} {S1 : Sx} (he : mk S 101 n = some (a, S1)) (hj0 : ¬ j < 0) (hj : j.toNatClampNeg = n) (hb : n * 8 ≤ 536870912) (hce : ce + 1 ≤ (gR Γ).cells) (hsl : sl + n ≤ (gR Γ).slots) (hd : decode (tC θ) pc = .ok (.newarray .boolean, 2)) (kk : vV Γ θ Q S1 (ce + 1) (sl + n) (pc + 2) L (.ref a :: st)) : vV Γ θ Q S ce sl pc L (.int j :: st) := by
  cases he
  exact v_newZ wArZ hj0 hj hb hce hsl hd kk
theorem v_mkJ {n a : Nat} {j : Int32} {S1 : Sx} (he : mk S 102 n = some (a, S1)) (hj0 : ¬ j < 0) (hj : j.toNatClampNeg = n) (hb : n * 8 ≤ 536870912) (hce : ce + 1 ≤ (gR Γ).cells) (hsl : sl + n ≤ (gR Γ).slots) (hd : decode (tC θ) pc = .ok (.newarray .long, 2)) (kk : vV Γ θ Q S1 (ce + 1) (sl + n) (pc + 2) L (.ref a :: st)) : vV Γ θ Q S ce sl pc L (.int j :: st) := by
  cases he
  exact v_newJ wArJ hj0 hj hb hce hsl hd kk
theorem v_mkX {idx kd n t0 a : Nat} {j : Int32} {q : vw_C} {S1 : Sx} (ht : tyP kd = some t0) (hq : classes[kd]? = some q) (hc : Cond.classLink (tO θ) idx q.1 ∈ gT) (he : mk S (200 + kd) n = some (a, S1)) (hj0 : ¬ j < 0) (hj : j.toNatClampNeg = n) (hb : n * 4 ≤ 536870912) (hce : ce + 1 ≤ (gR Γ).cells) (hsl : sl + n ≤ (gR Γ).slots) (hd : decode (tC θ) pc = .ok (.anewarray idx, 3)) (kk : vV Γ θ Q S1 (ce + 1) (sl + n) (pc + 3) L (.ref a :: st)) : vV Γ θ Q S ce sl pc L (.int j :: st) := by
  cases he
  exact v_newX ht hq hc hj0 hj hb hce hsl hd kk
theorem v_lkp {dflt : Int} {ps : Array (Int × Int)} {len : Nat} {x : Int32} {off : Int} (tgt : Nat) (hd : decode (tC θ) pc = .ok (.lookupswitch dflt ps, len)) (hp : (ps.toList.zip (ps.toList.drop 1)).all (fun (a, next) => a.1 < next.1) = true) (ho : Op.lookupswitch.offset ps.toList dflt x.toInt = off) (ht : (pc : Int) + off = (tgt : Int)) (k : vV Γ θ Q S ce sl tgt L st) : vV Γ θ Q S ce sl pc L (.int x :: st) :=
  fun g H locs ls h hl => lv_lookup g.ex g.by hd hp ho ht (k g H locs ls h hl)
theorem v_cpy {idx a0 a : Nat} {sp dp n : Int32} {S' : Sx} (he : cpI S a0 sp a dp n = some S') (hlink : Cond.methodLink (tO θ) idx arraycopyName ∈ gT) (hfr : 1 ≤ (gR Γ).frames) (hlo : (st.map fun v => v.category).sum + (nativeFrameWords "java/lang/System" "arraycopy" 5 + 11) ≤ (gR Γ).locals) (hd : decode (tC θ) pc = .ok (.invokestatic idx, 3)) (kk : vV Γ θ Q S' ce sl (pc + 3) L st) : vV Γ θ Q S ce sl pc L (.int n :: .int dp :: .ref a :: .int sp :: .ref a0 :: st) := by
  unfold cpI at he
  split at he
  · rename_i q0 q1 hq0 hq1
    obtain ⟨k0, n0⟩ := q0
    obtain ⟨k1, n1⟩ := q1
    obtain ⟨⟨e0, e1, h1, h2, h3, h4, h5⟩, rfl⟩ := ite_some he
    dsimp only at e0 e1 h4 h5
    subst e0; subst e1
    intro g H locs ls h hl T hT X
    have hc0 : H[a0]? = some (vp_cell (gA Γ 100) (n0, .inl (sI S a0))) := (h.1.2 a0 _ n0 hq0).2
    have hc1 : H[a]? = some (vp_cell (gA Γ 100) (n1, .inl (sI S a))) := (h.1.2 a _ n1 hq1).2
    have nn : ∀ z : Int32, ¬ z < 0 → z.toInt = (z.toNatClampNeg : Int) := by
      intro z hz
      have hz0 : (0 : Int) ≤ z.toInt := by
        have := Int32.not_lt.mp hz
        simpa using Int32.le_iff_toInt_le.mp this
      show z.toInt = ((z.toInt.toNat : Nat) : Int)
      omega
    obtain ⟨-, kk0, hk0, cm0, hkk0⟩ := (g.kk.1.2 0 _ rfl).1 n0 (fun j => .int (sI S a0 j))
    obtain ⟨-, kk1, hk1, cm1, hkk1⟩ := (g.kk.1.2 0 _ rfl).1 n1 (fun j => .int (sI S a j))
    obtain ⟨vm', X', step⟩ := X.arraycopy g.ex g.ow (g.ts _ hlink) (g.ts _ wCp1) (g.ts _ wCp2) (g.ts _ wCp3) (src := a0) (dst := a) (cs := vp_cell (gA Γ 100) (n0, .inl (sI S a0))) (cd := vp_cell (gA Γ 100) (n1, .inl (sI S a))) (srcPos := sp) (destPos := dp) (n := n) (by rw [hT]; exact hc0) (by rw [hT]; exact hc1)
      (fun _ h => by cases h) (fun _ h => by cases h) (fun h => by cases h) (fun h => by cases h) hk0 hk1 hkk0 hkk1 (by simp [show refKind FieldType.int = false from rfl]) h1 h2 h3
      (by rw [nn sp h1, nn n h3]; show ¬ _ > ((arrV (gA Γ 100) n0 (fun j => .int (sI S a0 j))).slots.size : Int); rw [arrV_size]; omega)
      (by rw [nn dp h2, nn n h3]; show ¬ _ > ((arrV (gA Γ 100) n1 (fun j => .int (sI S a j))).slots.size : Int); rw [arrV_size]; omega)
      (fun vm₁ _ i hi => by
        have e : (vp_cell (gA Γ 100) (n0, .inl (sI S a0))).slots.getD (sp.toNatClampNeg + i) .null = .int (sI S a0 (sp.toNatClampNeg + i)) := by
          show (arrV (gA Γ 100) n0 (fun j => .int (sI S a0 j))).slots.getD _ _ = _
          rw [Array.getD_eq_getD_getElem?, arrV_read _ _ (by omega)]
          rfl
        refine ⟨?_, ?_⟩
        · rw [e]; rfl
        · rw [e]; exact trivial)
      (g := F0 (gm Γ) pc ls (.int n :: .int dp :: .ref a :: .int sp :: .ref a0 :: st)) rfl (by rw [g.ml]; exact hl.1) (rest := st) rfl (by rw [g.by]; exact hd) hfr (by show 2 * 0 + _ + _ ≤ _; omega)
    have e1 : copied (vp_cell (gA Γ 100) (n0, .inl (sI S a0))) (vp_cell (gA Γ 100) (n1, .inl (sI S a))) sp dp n = vp_cell (gA Γ 100) (n1, .inl (va_cpy (sI S a0) (sI S a) sp.toNatClampNeg dp.toNatClampNeg n.toNatClampNeg)) := va_copied (fun z => .int z) (gA Γ 100) (gA Γ 100) (sI S a0) (sI S a) h4
    rw [e1] at X' step
    have hlt : a < H.size := (Array.getElem?_eq_some_iff.mp hc1).1
    have hO : ∀ Lo : List Loc, (∀ q ∈ Lo, q.base = a) → hOK Γ (S.1, va_up S.2.1 a (va_cpy (S.2.1 a0) (S.2.1 a) sp.toNatClampNeg dp.toNatClampNeg n.toNatClampNeg), S.2.2) (H.setIfInBounds a (vp_cell (gA Γ 100) (n1, .inl (va_cpy (sI S a0) (sI S a) sp.toNatClampNeg dp.toNatClampNeg n.toNatClampNeg)))) (locs ++ Lo) := by
      intro Lo hLo
      obtain ⟨m1, m2, m3, m4⟩ := h
      have hB := (m1.2 a _ n1 hq1).1
      have oq : ∀ q : Nat, q ≠ a → (H.setIfInBounds a (vp_cell (gA Γ 100) (n1, .inl (va_cpy (sI S a0) (sI S a) sp.toNatClampNeg dp.toNatClampNeg n.toNatClampNeg))))[q]? = H[q]? := fun q hq => by simp [Array.getElem?_setIfInBounds, Ne.symm hq]
      refine ⟨m1.setc (S' := (S.1, va_up S.2.1 a (va_cpy (S.2.1 a0) (S.2.1 a) sp.toNatClampNeg dp.toNatClampNeg n.toNatClampNeg), S.2.2)) hq1 rfl rfl (fun b hb => va_up_ne _ _ hb) (fun b hb => rfl) (fun b hb => rfl) (by simp) oq ?_, fun q hq => ?_, fun q hq => ?_, by simp; exact m4⟩
      · show (H.setIfInBounds a _)[a]? = some (vp_cell (gA Γ 100) (n1, .inl (va_up S.2.1 a _ a)))
        rw [va_up_self]
        simp [Array.getElem?_setIfInBounds, hlt]
      · rw [oq q (by omega)]; exact m2 q hq
      · rcases List.mem_append.mp hq with h9 | h9
        · exact m3 q h9
        · rw [hLo q h9]; exact hB
    obtain ⟨t, a1, b1⟩ := kk g _ _ ls (hO _ (fun q hq => by obtain ⟨z, -, hz⟩ := List.mem_map.mp hq; rw [← hz])) hl ((T.setVm vm').setCell a (vp_cell (gA Γ 100) (n1, .inl (va_cpy (sI S a0) (sI S a) sp.toNatClampNeg dp.toNatClampNeg n.toNatClampNeg)))) (by rw [← hT]; rfl) X'
    exact ⟨t, step t a1, b1⟩
  · cases he
end VMORE
