/-! ARRAYS -/
section VARR
variable {Γ : vG} {θ : tM} {Q : State → Prop} {S : Sx} {ce sl pc : Nat} {L : List (Nat × Value)} {st : List Value}
theorem v_iald {a : Nat} {j v : Int32} (he : aI S a j = some v) (hd : decode (tC θ) pc = .ok (.iaload, 1)) (kk : vV Γ θ Q S ce sl (pc + 1) L (.int v :: st)) : vV Γ θ Q S ce sl pc L (.int j :: .ref a :: st) := by
  intro g H locs ls h hl
  obtain ⟨hk, rfl⟩ := ite_some he
  obtain ⟨n, hk, hj⟩ := aOK_some hk
  exact va_iald g.ex g.by g.kk.1 (h.1.sgl hk) 0 0 (cA := gA Γ 100) (n := n) (f := sI S a) rfl rfl hj hd (kk g H locs ls h hl)
theorem v_zald {a : Nat} {j v : Int32} (he : aZ S a j = some v) (hd : decode (tC θ) pc = .ok (.baload, 1)) (kk : vV Γ θ Q S ce sl (pc + 1) L (.int v :: st)) : vV Γ θ Q S ce sl pc L (.int j :: .ref a :: st) := by
  intro g H locs ls h hl
  obtain ⟨hk, rfl⟩ := ite_some he
  obtain ⟨n, hk, hj⟩ := aOK_some hk
  exact va_zald g.ex g.by g.kk.1 (h.1.sgl hk) 0 1 (cA := gA Γ 101) (n := n) (f := sI S a) rfl rfl hj hd (kk g H locs ls h hl)
theorem v_lald {a : Nat} {j : Int32} {v : Int64} (he : aJ S a j = some v) (hd : decode (tC θ) pc = .ok (.laload, 1)) (kk : vV Γ θ Q S ce sl (pc + 1) L (.long v :: st)) : vV Γ θ Q S ce sl pc L (.int j :: .ref a :: st) := by
  intro g H locs ls h hl
  obtain ⟨hk, rfl⟩ := ite_some he
  obtain ⟨n, hk, hj⟩ := aOK_some hk
  exact va_lald g.ex g.by g.kk.1 (h.1.sgl hk) 0 2 (cA := gA Γ 102) (n := n) (f := sJ S a) rfl rfl hj hd (kk g H locs ls h hl)
/-- which classes have arrays, and where their words stand in tyL -/
def tyP (kd : Nat) : Option Nat := match kd with | 2 => some 3 | 3 => some 4 | 4 => some 5 | 5 => some 6 | 6 => some 7 | 9 => some 8 | 11 => some 9 | _ => none
theorem tyP_ok {kd t0 : Nat} (h : tyP kd = some t0) (dA : Nat → ClassId) : ∃ q : vw_C, classes[kd]? = some q ∧ (tyL dA)[t0]? = some (dA (200 + kd), .object q.1) ∧ q.1 ∈ [nR2, nR3, nR4, nR5, nR6, nR9, nR11] := by
  unfold tyP at h
  split at h <;> first | (cases h; exact ⟨_, rfl, rfl, by simp⟩) | cases h
theorem v_aald {kd t0 a v : Nat} {j : Int32} (ht : tyP kd = some t0) (he : aX S kd a j = some v) (hd : decode (tC θ) pc = .ok (.aaload, 1)) (kk : vV Γ θ Q S ce sl (pc + 1) L (.ref v :: st)) : vV Γ θ Q S ce sl pc L (.int j :: .ref a :: st) := by
  intro g H locs ls h hl
  obtain ⟨hk, hr⟩ := ite_opt he
  obtain ⟨n, hk, hj⟩ := aOK_some hk
  obtain ⟨q, hq, htl, -⟩ := tyP_ok ht (gA Γ)
  have hP := h.1.sgl hk
  rw [cE_ref] at hP
  refine va_aldq g.ex g.by g.kk.1 hP 0 t0 (cA := gA Γ (200 + kd)) (n := n) (f := sR S a) rfl htl hj hd ?_
  rw [hr]
  exact kk g H locs ls h hl
theorem v_iast {a : Nat} {j v : Int32} {S' : Sx} (he : qI S a j v = some S') (hd : decode (tC θ) pc = .ok (.iastore, 1)) (kk : vV Γ θ Q S' ce sl (pc + 1) L st) : vV Γ θ Q S ce sl pc L (.int v :: .int j :: .ref a :: st) := by
  intro g H locs ls h hl
  obtain ⟨hk, rfl⟩ := ite_some he
  obtain ⟨n, hk, hj⟩ := aOK_some hk
  have hat : H[a]? = some (vp_cell (gA Γ 100) (n, .inl (sI S a))) := (h.1.2 a _ n hk).2
  refine W.iast g.ex g.by hat ((g.kk.1.2 0 _ rfl).1 n (fun j => .int (sI S a j))) (fun q => by cases q) (by show ¬ (j < 0 ∨ (arrV _ _ _).slots.size ≤ _); rw [arrV_size]; exact hj) rfl rfl hd fun H1 e1 z oq => ?_
  refine kk g H1 _ ls (h.put (S' := wI S a j.toNatClampNeg v) hk rfl rfl (fun b hb => u2_ne _ _ _ _ hb) (fun b hb => rfl) (fun b hb => rfl) z oq ?_) hl
  show H1[a]? = some (vp_cell (gA Γ 100) (n, .inl (u2 S.2.1 a j.toNatClampNeg v a)))
  rw [e1, u2_self, vp_cell_i, vp_cell_i, arrV_store]
  congr 2
  funext q
  by_cases hq : q = j.toNatClampNeg
  · subst hq; simp [updV, va_up]
  · simp [updV, va_up, hq]
theorem v_zast {a : Nat} {j v : Int32} {S' : Sx} (he : qZ S a j v = some S') (hd : decode (tC θ) pc = .ok (.bastore, 1)) (kk : vV Γ θ Q S' ce sl (pc + 1) L st) : vV Γ θ Q S ce sl pc L (.int v :: .int j :: .ref a :: st) := by
  intro g H locs ls h hl
  obtain ⟨⟨hk, hv⟩, rfl⟩ := ite_some he
  obtain ⟨n, hk, hj⟩ := aOK_some hk
  have hat : H[a]? = some (vp_cell (gA Γ 101) (n, .inl (sI S a))) := (h.1.2 a _ n hk).2
  have hnv : narrow .boolean (.int v) = .int v := by
    rcases hv with rfl | rfl
    · rfl
    · rfl
  refine W.zast g.ex g.by hat ((g.kk.1.2 1 _ rfl).1 n (fun j => .int (sI S a j))) (fun q => by cases q) (by show ¬ (j < 0 ∨ (arrV _ _ _).slots.size ≤ _); rw [arrV_size]; exact hj) rfl rfl hd fun H1 e1 z oq => ?_
  refine kk g H1 _ ls (h.put (S' := wI S a j.toNatClampNeg v) hk rfl rfl (fun b hb => u2_ne _ _ _ _ hb) (fun b hb => rfl) (fun b hb => rfl) z oq ?_) hl
  show H1[a]? = some (vp_cell (gA Γ 101) (n, .inl (u2 S.2.1 a j.toNatClampNeg v a)))
  rw [e1, hnv, u2_self, vp_cell_i, vp_cell_i, arrV_store]
  congr 2
  funext q
  by_cases hq : q = j.toNatClampNeg
  · subst hq; simp [updV, va_up]
  · simp [updV, va_up, hq]
theorem v_last {a : Nat} {j : Int32} {v : Int64} {S' : Sx} (he : qJ S a j v = some S') (hd : decode (tC θ) pc = .ok (.lastore, 1)) (kk : vV Γ θ Q S' ce sl (pc + 1) L st) : vV Γ θ Q S ce sl pc L (.long v :: .int j :: .ref a :: st) := by
  intro g H locs ls h hl
  obtain ⟨hk, rfl⟩ := ite_some he
  obtain ⟨n, hk, hj⟩ := aOK_some hk
  have hat : H[a]? = some (vp_cell (gA Γ 102) (n, .inr (.inl (sJ S a)))) := (h.1.2 a _ n hk).2
  refine W.last g.ex g.by hat ((g.kk.1.2 2 _ rfl).1 n (fun j => .long (sJ S a j))) (fun q => by cases q) (by show ¬ (j < 0 ∨ (arrV _ _ _).slots.size ≤ _); rw [arrV_size]; exact hj) rfl rfl hd fun H1 e1 z oq => ?_
  refine kk g H1 _ ls (h.put (S' := wJ S a j.toNatClampNeg v) hk rfl rfl (fun b hb => rfl) (fun b hb => rfl) (fun b hb => u2_ne _ _ _ _ hb) z oq ?_) hl
  show H1[a]? = some (vp_cell (gA Γ 102) (n, .inr (.inl (u2 S.2.2.2.1 a j.toNatClampNeg v a))))
  rw [e1, u2_self, vp_cell_l, vp_cell_l, arrV_store]
  congr 2
  funext q
  by_cases hq : q = j.toNatClampNeg
  · subst hq; simp [updV, va_up]
  · simp [updV, va_up, hq]
theorem v_aast {kd t0 a v : Nat} {j : Int32} {S' : Sx} (ht : tyP kd = some t0) (he : qX S kd a j v = some S') (hd : decode (tC θ) pc = .ok (.aastore, 1)) (kk : vV Γ θ Q S' ce sl (pc + 1) L st) : vV Γ θ Q S ce sl pc L (.ref v :: .int j :: .ref a :: st) := by
  intro g H locs ls h hl
  obtain ⟨⟨hk, hkv⟩, rfl⟩ := ite_some he
  obtain ⟨n, hk, hj⟩ := aOK_some hk
  obtain ⟨nv, hkv⟩ := kdOf_some hkv
  obtain ⟨q, hq, htl, -⟩ := tyP_ok ht (gA Γ)
  obtain ⟨ty, c1, c2, c3, c4, c5, c6⟩ := clF_all kd q hq
  have hat0 := (h.1.2 a _ n hk).2
  unfold cAt at hat0
  rw [cE_ref] at hat0
  have hat : H[a]? = some (vp_cell (gA Γ (200 + kd)) (n, .inr (.inr (.inr (.inr (sR S a)))))) := hat0
  have hav := (h.1.2 v _ nv hkv).2
  unfold cAt at hav
  rw [cE_obj c5] at hav
  obtain ⟨r', hr', cellV, g1, g2, g3, -⟩ := hav
  have hlt : j.toNatClampNeg < n := Nat.not_le.mp fun q => hj (Or.inr q)
  have h0 : ¬ j < 0 := fun q => hj (Or.inl q)
  have hcls := (g.kk.1.1 kd q hq).2
  obtain ⟨kA, comp, k1, k2, k3, -⟩ := (g.kk.1.2 t0 _ htl).2
  have hcomp : comp = (gD Γ).1 kd := Option.some.inj (k3.symm.trans hcls.1)
  subst hcomp
  obtain ⟨kC, hkC, -⟩ := id hcls.2
  refine W.aast g.ex g.by hat (fun q h => by cases h) (fun h => by cases h) k1 k2 rfl hkC ⟨h0, by show _ < (arrV _ _ _).slots.size; rw [arrV_size]; exact hlt⟩ g1 (fun q h => by rw [g3] at h; cases h) (by rw [g2]; exact hkC) (by rw [g2]; exact va_assign hcls) rfl rfl hd fun H1 e1 z oq => ?_
  refine kk g H1 _ ls (h.put (S' := wR S a j.toNatClampNeg (some v)) hk rfl rfl (fun b hb => rfl) (fun b hb => u2_ne _ _ _ _ hb) (fun b hb => rfl) z oq ?_) hl
  unfold cAt
  rw [cE_ref]
  show H1[a]? = some (vp_cell (gA Γ (200 + kd)) (n, .inr (.inr (.inr (.inr (u2 S.2.2.1 a j.toNatClampNeg (some v) a))))))
  rw [e1, u2_self, vp_cell_q, vp_cell_q, arrV_store]
  congr 2
  funext q
  by_cases hq : q = j.toNatClampNeg
  · subst hq; simp [updV, va_up, va_rf]
  · simp [updV, va_up, hq]
theorem v_alen {a : Nat} {v : Int32} (he : lnI S a = some v) (hd : decode (tC θ) pc = .ok (.arraylength, 1)) (kk : vV Γ θ Q S ce sl (pc + 1) L (.int v :: st)) : vV Γ θ Q S ce sl pc L (.ref a :: st) := by
  intro g H locs ls h hl
  unfold lnI at he
  split at he
  · rename_i q hq
    obtain ⟨kd, n⟩ := q
    obtain ⟨h1, h2⟩ := ite_some he
    dsimp only at h1 h2
    subst h1
    exact va_alen g.ex g.by g.kk.1 (h.1.sgl hq) 0 0 (cA := gA Γ 100) (x := (n, .inl (sI S a))) rfl (ty := .int) rfl h2 hd (kk g H locs ls h hl)
  · cases he
end VARR
