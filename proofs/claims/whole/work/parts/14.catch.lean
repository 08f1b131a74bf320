/-! A CALLEE'S EXCEPTION IS CAUGHT: the rows ahead that don't take it are passed, their names resolved on the way -/
/-- what the search for a handler gives, and the tables that it leaves -/
def kT (e : Env) (s : State) (f : JFrame) (a : Addr) (h : Handler) (vm' : Vm) : Prop := ∀ (Q : Handler → Pre) (E : CtlPost) (d : Bool) (acts : List Action), wp (findHandler f a) Q E e d acts s ↔ Q h d acts (s.setVm vm')
theorem k_row {Q : Handler → Pre} {E : CtlPost} {e : Env} {d : Bool} {acts : List Action} {s : State} {f : JFrame} {a : Addr} {x : ExceptionTableEntry} {t : List ExceptionTableEntry} {c : ClassId} {cell : Cell} (hx : covers x f.pc = true) (h0 : x.catchType ≠ 0)
    (hl : s.vm.ClassLinks e.platform f.method.cls x.catchType c) (hcell : s.heap[a]? = some cell) (hobj : ∀ k, cell.vm ≠ .statics k) (hk : ∃ k, s.vm.classes[cell.cls]? = some k) (hc : ∃ k, s.vm.classes[c]? = some k) :
    wp (findHandler.go f a (x :: t)) Q E e d acts s ↔ if s.vm.assignable cell.cls c = true then Q (.found x.handlerPc) d acts (s.setVm (s.vm.noted f.method.cls x.catchType (.cls c))) else wp (findHandler.go f a t) Q E e d acts (s.setVm (s.vm.noted f.method.cls x.catchType (.cls c))) := by
  simp only [covers] at hx
  obtain ⟨ha, ht⟩ := (resolveClass_links e.toSetting hl).op (op := VmOp.resolveClass f.method.cls x.catchType) rfl
  have hal : s.vm.Alike (s.vm.noted f.method.cls x.catchType (.cls c)) := (Vm.Alike.refl s.vm).noted _ _ _
  obtain ⟨k1, hk1⟩ := hk
  obtain ⟨k2, hk2⟩ := hc
  obtain ⟨k1', hk1', -⟩ := hal.2.2 _ _ hk1
  obtain ⟨k2', hk2', -⟩ := hal.2.2 _ _ hk2
  cases hfit : s.vm.assignable cell.cls c
  · have hno : (s.vm.noted f.method.cls x.catchType (.cls c)).assignable cell.cls c = false := by rw [hal.assignable]; exact hfit
    simp [findHandler.go, hx, h0, ha, ht, hcell, hobj, hk1', hk2', hno, VmOp.dirties, VmOp.acts]
  · have hyes : (s.vm.noted f.method.cls x.catchType (.cls c)).assignable cell.cls c = true := by rw [hal.assignable]; exact hfit
    simp [findHandler.go, hx, h0, ha, ht, hcell, hobj, hk1', hk2', hyes, VmOp.dirties, VmOp.acts]
theorem k_rows {e : Env} {s₀ : State} {f : JFrame} {a : Addr} {cell : Cell} (hobj : ∀ k, cell.vm ≠ .statics k) (hk0 : ∃ k, s₀.vm.classes[cell.cls]? = some k) (x : ExceptionTableEntry) (rest : List ExceptionTableEntry) (hx : covers x f.pc = true) (h0 : x.catchType ≠ 0) {c : ClassId} (hl : s₀.vm.ClassLinks e.platform f.method.cls x.catchType c) (hfit : s₀.vm.assignable cell.cls c = true) :
    ∀ (pre : List ExceptionTableEntry) (S : State), s₀.WarmedH S.vm → S.heap[a]? = some cell → (∀ y ∈ pre, covers y f.pc = true ∧ y.catchType ≠ 0 ∧ ∃ c', s₀.vm.ClassLinks e.platform f.method.cls y.catchType c' ∧ s₀.vm.assignable cell.cls c' = false) →
      ∃ vm', s₀.WarmedH vm' ∧ ∀ (Q : Handler → Pre) (E : CtlPost) (d : Bool) (acts : List Action), wp (findHandler.go f a (pre ++ x :: rest)) Q E e d acts S ↔ Q (.found x.handlerPc) d acts (S.setVm vm') := by
  obtain ⟨k0, hk0⟩ := hk0
  intro pre
  induction pre with
  | nil =>
    intro S hW hcell _
    obtain ⟨k0', hk0', -⟩ := hW.alike.2.2 _ _ hk0
    obtain ⟨dk, _, _, kt, hd, _, _, _, _, hkt, _, hopen⟩ := hl.here
    obtain ⟨kt', hkt', -⟩ := hW.alike.2.2 _ _ hkt
    refine ⟨_, hW.noted hd hopen (State.rightAt_cls hl), fun Q E d acts => ?_⟩
    rw [List.nil_append, k_row hx h0 (hW.classLinks hl) hcell hobj ⟨k0', hk0'⟩ ⟨kt', hkt'⟩, if_pos (by rw [hW.alike.assignable]; exact hfit)]
  | cons y ys ih =>
    intro S hW hcell hpass
    obtain ⟨k0', hk0', -⟩ := hW.alike.2.2 _ _ hk0
    obtain ⟨hcov, hy0, c', hl', hno⟩ := hpass y List.mem_cons_self
    obtain ⟨dk, _, _, kt, hd, _, _, _, _, hkt, _, hopen⟩ := hl'.here
    obtain ⟨kt', hkt', -⟩ := hW.alike.2.2 _ _ hkt
    obtain ⟨vm', hW', hq⟩ := ih (S.setVm (S.vm.noted f.method.cls y.catchType (.cls c'))) (hW.noted hd hopen (State.rightAt_cls hl')) hcell (fun z hz => hpass z (List.mem_cons_of_mem _ hz))
    refine ⟨vm', hW', fun Q E d acts => ?_⟩
    rw [List.cons_append, k_row hcov hy0 (hW.classLinks hl') hcell hobj ⟨k0', hk0'⟩ ⟨kt', hkt'⟩, if_neg (by rw [hW.alike.assignable, hno]; decide)]
    exact hq Q E d acts
theorem k_step {e : Env} {s : State} {a : Addr} {f : JFrame} {r : List Frame} {pc : Nat} {vm' : Vm} (hfind : kT e s f a (.found pc) vm') : (stepThrowing e s a (.java f :: r)).Is ((s.setVm vm').setFrames (.java { f with pc := pc, stack := [.ref a] } :: r)) [] := by
  simp only [stepThrowing, searchFrame, vmDo]
  generalize hr : Sem.go _ e false [] s = res
  obtain ⟨as, rfl, ha⟩ := Sem.eq_ok_of hr (a := Handler.found pc) (s' := s.setVm vm') (acts' := []) (by simp [hfind _ _ _ _])
  exact ⟨rfl, ha⟩
theorem k_caught {tb : Tables} {e : Env} {s target : State} {g : JFrame} {c : Code} {below : List Frame} {a : Addr} (h : At s g.method c below) {pc : Nat} {vm' : Vm} (hfind : kT e ((s.setTop g).pushFrame (.throwing a)) g a (.found pc) vm') (hrest : Steps tb e below ((s.setVm vm').setTop { g with pc := pc, stack := [.ref a] }) target) : Steps tb e below ((s.setTop g).pushFrame (.throwing a)) target := by
  obtain ⟨hgo, hw⟩ := h.throwing a
  refine Steps.head hgo hw ?_
  rw [stepThread_throwing (frames_entered h.top _), (k_step (s := (s.setTop g).pushFrame (.throwing a)) hfind).1]
  obtain ⟨g₀, hg⟩ := Option.isSome_iff_exists.mp h.top
  obtain ⟨r, hr⟩ := State.topJava?_eq_some.mp hg
  have hr' : (s.setVm vm').frames = .java g₀ :: r := hr
  have key : ∀ (u : State) (F G : List Frame), ((u.setFrames F).setVm vm').setFrames G = (u.setVm vm').setFrames G := by
    intro u F G
    have h1 : (u.setFrames F).setVm vm' = (u.setVm vm').setFrames F := rfl
    rw [h1, State.setFrames_setFrames]
  rw [State.setTop_of_frames _ hr'] at hrest
  rw [hr, List.tail_cons, State.pushFrame, key, State.setTop_of_frames _ hr, key]
  exact hrest
section VCATCH
variable {Γ : vG} {θ : tM} {Q : State → Prop} {S S' : Sx} {ce sl pc : Nat} {L : List (Nat × Value)} {st stk av : List Value} {y : MethodName} {θ' : tM} {rm : Room} {mc ms : Nat} {k : Nat} {v : Option Value}
/-- it throws, and a handler of the caller's takes it -/
theorem v_callC (hk : k ≠ 0) (hM : Mx (gl Γ) y θ' rm mc ms (gD Γ) (gA Γ) (gB Γ) S av k v S') (hcy : cOf y θ' ∈ gT) (hini : Cond.initialized y.cls ∈ gT) (hiv : ivOK Γ θ S y pc stk st av.toArray) (hr : rOK Γ rm (tL θ') ce sl) (hst : (st.map fun v => v.category).sum ≤ 8)
    (pre : List ExceptionTableEntry) (x : ExceptionTableEntry) (rest : List ExceptionTableEntry) (hH : tableOf (tH θ) = pre ++ x :: rest) (hpass : ∀ z ∈ pre, covers z pc = true ∧ z.catchType ≠ 0 ∧ ∃ nm, Cond.classLink (tO θ) z.catchType nm ∈ gT ∧ (exN k, nm) ∈ nX) (hx : covers x pc = true) (h0 : x.catchType ≠ 0) (hlk : Cond.classLink (tO θ) x.catchType (exN k) ∈ gT) (hca : (exN k, exN k) ∈ nC)
    (kk : ∀ a : Nat, vV Γ θ Q S' (ce + mc) (sl + ms) x.handlerPc L [.ref a]) : vV Γ θ Q S ce sl pc L stk := by
  refine v_call0 hM hcy hini hiv hr hst (fun h => absurd h hk) (fun _ g H locs ls h hl T a cell hT X hx1 hx2 hx3 => ?_)
  have hpl : (ge Γ).platform.magicAccessors = ({} : Platform).magicAccessors := by rw [X.admits.platform]
  obtain ⟨c9, hc9, hcl⟩ := Cond.classLink_spec g.ow (g.ts _ hlk) (ge Γ).platform hpl
  have hx3' : (gs Γ).vm.findClass (exN k) = some cell.cls := by rw [← X.warmed.alike.findClass]; exact hx3
  cases hc9.symm.trans hx3'
  obtain ⟨c1, c2, e1, e2, hfit⟩ := Cond.castable_spec (va_Nw.use (A := ga Γ) rfl (g.kk.2.2.2.2.2.2.1 _ hca))
  cases e1.symm.trans hc9
  cases e2.symm.trans hc9
  obtain ⟨vm', hW', hq⟩ := k_rows (e := ge Γ) (s₀ := gs Γ) (f := F0 (gm Γ) pc ls st) (a := a) (cell := cell) (VmData.ne_statics_of hx2) (Vm.classAt_of_findClass hc9) x rest hx h0 hcl hfit pre ((T.setTop (F0 (gm Γ) pc ls st)).pushFrame (.throwing a)) (by rw [throwing_vm]; exact X.warmed) (by rw [throwing_heap, hT]; exact hx1) (fun z hz => by
    obtain ⟨z1, z2, nm, z3, z4⟩ := hpass z hz
    obtain ⟨c', hc', hcl'⟩ := Cond.classLink_spec g.ow (g.ts _ z3) (ge Γ).platform hpl
    obtain ⟨d1, d2, f1, f2, f3⟩ := g.kk.2.2.2.2.2.2.2.2 _ z4
    cases f1.symm.trans hc9
    cases f2.symm.trans hc'
    exact ⟨z1, z2, c', hcl', f3⟩)
  have hF : kT (ge Γ) ((T.setTop (F0 (gm Γ) pc ls st)).pushFrame (.throwing a)) (F0 (gm Γ) pc ls st) a (.found x.handlerPc) vm' := fun Q E d acts => by
    rw [W.findHandler_eq (meth := gme Γ) (code := gc Γ) (by rw [throwing_vm]; exact X.method') X.code, g.et, hH]
    exact hq Q E d acts
  obtain ⟨t, a1, b1⟩ := kk a g H locs ls h hl (T.setVm vm') hT (X.noted hW')
  exact ⟨t, k_caught X.here hF a1, b1⟩
end VCATCH
/-- a call that may throw, in a method that catches -/
def bdC {β : Type} (o : Option (Nat × Int32 × Sx)) (f : Int32 → Sx → Option β) (h : Nat → Sx → Option β) : Option β := o.bind fun q => if q.1 = 0 then f q.2.1 q.2.2 else h q.1 q.2.2
theorem obC {β : Type} {o : Option (Nat × Int32 × Sx)} {f : Int32 → Sx → Option β} {h : Nat → Sx → Option β} {y : β} (h9 : bdC o f h = some y) : ∃ k r S, o = some (k, r, S) ∧ ((k = 0 ∧ f r S = some y) ∨ (k ≠ 0 ∧ h k S = some y)) := by
  obtain ⟨⟨k, r, S⟩, e, h9⟩ := ob h9
  refine ⟨k, r, S, e, ?_⟩
  dsimp only at h9
  by_cases hk : k = 0
  · rw [if_pos hk] at h9; exact Or.inl ⟨hk, h9⟩
  · rw [if_neg hk] at h9; exact Or.inr ⟨hk, h9⟩
