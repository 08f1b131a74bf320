/-! CALLS AT THE JUDGEMENT -/
/-- the invoking instruction comes to the callee -/
def ivOK (Γ : vG) (θ : tM) (S : Sx) (y : MethodName) (pc : Nat) (stk rest : List Value) (a : Array Value) : Prop := gOK Γ θ → ∀ (T : State) (locs : List Loc) (ce sl : Nat) (ls : Array Slot), mOK (gD Γ) (gA Γ) (gB Γ) S T.heap → Stand (gp Γ) (gl Γ) (ge Γ) (gR Γ) (gs Γ) (gm Γ) (ga Γ) (gb Γ) (gme Γ) (gc Γ) T locs ce sl →
  (∃ ig, decode (gc Γ).code pc = .ok (ig, 3)) ∧ ∃ (mk : MethodId) (vm₁ : Vm), (gs Γ).methodNamed? y = some mk ∧ Stand (gp Γ) (gl Γ) (ge Γ) (gR Γ) (gs Γ) (gm Γ) (ga Γ) (gb Γ) (gme Γ) (gc Γ) (T.setVm vm₁) locs ce sl ∧ ∀ target, (∀ acts, Steps (gp Γ).tables (ge Γ) (gb Γ) (doInvoke (ge Γ) ((T.setVm vm₁).setTop (F0 (gm Γ) pc ls rest)) acts mk a).1 target) → Steps (gp Γ).tables (ge Γ) (gb Γ) (T.setTop (F0 (gm Γ) pc ls stk)) target
/-- the room that a callee wants -/
def rOK (Γ : vG) (rm : Room) (maxL ce sl : Nat) : Prop := rm.frames + 1 ≤ (gR Γ).frames ∧ 8 + (maxL + 11) + rm.locals ≤ (gR Γ).locals ∧ ce + rm.cells ≤ (gR Γ).cells ∧ sl + rm.slots ≤ (gR Γ).slots
section VCALL
variable {Γ : vG} {θ : tM} {Q : State → Prop} {S S' : Sx} {ce sl pc : Nat} {L : List (Nat × Value)} {st stk av : List Value} {y : MethodName} {θ' : tM} {rm : Room} {mc ms : Nat} {k : Nat} {v : Option Value}
theorem v_call0 (hM : Mx (gl Γ) y θ' rm mc ms (gD Γ) (gA Γ) (gB Γ) S av k v S') (hcy : cOf y θ' ∈ gT) (hini : Cond.initialized y.cls ∈ gT) (hiv : ivOK Γ θ S y pc stk st av.toArray) (hr : rOK Γ rm (tL θ') ce sl) (hst : (st.map fun v => v.category).sum ≤ 8)
    (kr : k = 0 → vV Γ θ Q S' (ce + mc) (sl + ms) (pc + 3) L (v.toList ++ st))
    (kt : k ≠ 0 → gOK Γ θ → ∀ (H : Heap) (locs : List Loc) (ls : Array Slot), hOK Γ S' H locs → lv_has ls (tL θ) L → ∀ (T : State) (x : Addr) (cell : Cell), T.heap = H → Stand (gp Γ) (gl Γ) (ge Γ) (gR Γ) (gs Γ) (gm Γ) (ga Γ) (gb Γ) (gme Γ) (gc Γ) T locs (ce + mc) (sl + ms) → H[x]? = some cell → cell.vm.isStatics = false → T.vm.findClass (exN k) = some cell.cls → ∃ t, Steps (gp Γ).tables (ge Γ) (gb Γ) ((T.setTop (F0 (gm Γ) pc ls st)).pushFrame (.throwing x)) t ∧ Q t) : vV Γ θ Q S ce sl pc L stk := by
  intro g H locs ls h hl T hT X
  obtain ⟨⟨ig, hdg⟩, mk, vm₁, hnamed, X₁, hst1⟩ := hiv g T locs ce sl ls (by rw [hT]; exact h.1) X
  have hW₁ : (gs Γ).WarmedH (T.setVm vm₁).vm := X₁.warmed
  have hgood : ∀ w ∈ gT, (w.onTables && w.keeps) = true ∨ ∃ ty, w = .arrayClass ty := fun w hw => good_of_word (List.mem_filter.mp hw).2
  have hall : ∀ w ∈ gT, w.before av.toArray (T.setVm vm₁) = true := fun w hw => word_at hW₁ (hgood w hw) (g.ts w hw)
  have hn1 : (T.setVm vm₁).methodNamed? y = some mk := X₁.named hnamed
  have hcode := hall _ hcy
  have hmc : ∃ (methY : Method) (cY : Code), (T.setVm vm₁).vm.method? mk = some methY ∧ methY.code = some cY ∧ cY.maxLocals = tL θ' := by
    unfold cOf at hcode
    split at hcode
    · obtain ⟨meth, c, h1, h2, h3, h4, h5, h6, -, -⟩ := Cond.code_spec hn1 hcode
      exact ⟨meth, c, h1, h2, h4⟩
    · obtain ⟨m9, meth, c, hn9, h1, h2, h3, h4, -, h5, h6, -⟩ := Cond.codeWith_spec hcode
      cases hn1.symm.trans hn9
      exact ⟨meth, c, h1, h2, h4⟩
  obtain ⟨methY, cY, hmY, hcY, hlY⟩ := hmc
  obtain ⟨o, t, Lo, hq, hLo, X', hret, hthr⟩ := c_out (fr := fun q => gB Γ ≤ q) (mc := mc) (ms := ms) (maxL := tL θ') (W := 8) hM (fun a st o t hq => ⟨hq.2.2.2.2.1, hq.2.2.2.2.2⟩) X₁ (g := F0 (gm Γ) pc ls st) rfl (by rw [g.ml]; exact hl.1) hdg (lv_room hst) hn1 hmY hcY hlY (hall _ hini) hr.1 hr.2.1
    (fun w hw => by
      rcases List.mem_cons.mp hw with rfl | hw
      · exact hcode
      · exact hall w hw) hr.2.2.1 hr.2.2.2 (by
      refine ⟨rfl, ?_, ?_, ?_⟩
      · show mOK _ _ _ S T.heap
        rw [hT]; exact h.1
      · exact kOK.moved (u := gs Γ) hW₁ g.hB (fun q hq => by show T.heap[q]? = _; rw [hT]; exact h.2.1 q hq) g.kk
      · show _ ≤ T.heap.size
        rw [hT]; exact Nat.le_trans g.hB h.2.2.2)
  obtain ⟨ho, hm, hlow, hsz, hW2, -⟩ := hq
  have hlow' : ∀ q : Nat, q < gB Γ → t.heap[q]? = T.heap[q]? := hlow
  have hsz' : T.heap.size ≤ t.heap.size := hsz
  have hO : hOK Γ S' t.heap (locs ++ Lo) := ⟨hm, fun q hq => by rw [hlow' q hq, hT]; exact h.2.1 q hq, fun q hq => by
    rcases List.mem_append.mp hq with h9 | h9
    · exact h.2.2.1 q h9
    · exact hLo q h9, by rw [hT] at hsz'; exact Nat.le_trans h.2.2.2 hsz'⟩
  rcases ho with ⟨hk0, ho⟩ | ⟨hk0, x, cell, ho, hx1, hx2, hx3⟩
  · obtain ⟨t2, a1, b1⟩ := kr hk0 g t.heap (locs ++ Lo) ls hO hl (({ T.setVm vm₁ with heap := t.heap, slotsUsed := t.slotsUsed } : State).setVm t.vm) rfl X'
    exact ⟨t2, hst1 _ (fun acts => by rw [doInvoke_state]; exact (hret v ho).trans a1), b1⟩
  · obtain ⟨t2, a1, b1⟩ := kt hk0 g t.heap (locs ++ Lo) ls hO hl (({ T.setVm vm₁ with heap := t.heap, slotsUsed := t.slotsUsed } : State).setVm t.vm) x cell rfl X' hx1 hx2 hx3
    exact ⟨t2, hst1 _ (fun acts => by rw [doInvoke_state]; exact (hthr x ho).trans a1), b1⟩
/-- it returns -/
theorem v_call (hM : Mx (gl Γ) y θ' rm mc ms (gD Γ) (gA Γ) (gB Γ) S av 0 v S') (hcy : cOf y θ' ∈ gT) (hini : Cond.initialized y.cls ∈ gT) (hiv : ivOK Γ θ S y pc stk st av.toArray) (hr : rOK Γ rm (tL θ') ce sl) (hst : (st.map fun v => v.category).sum ≤ 8)
    (kr : vV Γ θ Q S' (ce + mc) (sl + ms) (pc + 3) L (v.toList ++ st)) : vV Γ θ Q S ce sl pc L stk := v_call0 hM hcy hini hiv hr hst (fun _ => kr) (fun h => absurd rfl h)
/-- a method that might throw returns: nothing was made -/
theorem v_callR (hM : Mx (gl Γ) y θ' rm (if (0 : Nat) = 0 then 0 else mc) (if (0 : Nat) = 0 then 0 else ms) (gD Γ) (gA Γ) (gB Γ) S av 0 v S') (hcy : cOf y θ' ∈ gT) (hini : Cond.initialized y.cls ∈ gT) (hiv : ivOK Γ θ S y pc stk st av.toArray) (hr : rOK Γ rm (tL θ') ce sl) (hst : (st.map fun v => v.category).sum ≤ 8)
    (kr : vV Γ θ Q S' ce sl (pc + 3) L (v.toList ++ st)) : vV Γ θ Q S ce sl pc L stk := v_call0 hM hcy hini hiv hr hst (fun _ => kr) (fun h => absurd rfl h)
/-- it throws, and so does the caller, who has no handler -/
theorem v_callT (hk : k ≠ 0) {v' : Option Value} (hM : Mx (gl Γ) y θ' rm (if k = 0 then 0 else mc) (if k = 0 then 0 else ms) (gD Γ) (gA Γ) (gB Γ) S av k v S') (hcy : cOf y θ' ∈ gT) (hini : Cond.initialized y.cls ∈ gT) (hiv : ivOK Γ θ S y pc stk st av.toArray) (hr : rOK Γ rm (tL θ') 0 0) (hst : (st.map fun v => v.category).sum ≤ 8) (hH : tH θ = []) : vV Γ θ (mQ Γ (if k = 0 then 0 else mc) (if k = 0 then 0 else ms) k v' S') S 0 0 pc L stk := by
  refine v_call0 hM hcy hini hiv hr hst (fun h => absurd h hk) (fun _ g H locs ls h hl T x cell hT X hx1 hx2 hx3 => ?_)
  rw [Nat.zero_add, Nat.zero_add] at X
  obtain ⟨s1, s2, s3, s4, s5⟩ := X.leaveThrown x (g := F0 (gm Γ) pc ls st) rfl rfl rfl (fun e he => by rw [g.et, hH] at he; cases he) (hlocks := g.lk)
  refine ⟨_, s1, .threw x, s2, s3, Or.inr ⟨hk, x, cell, rfl, ?_, hx2, hx3⟩, ?_, ?_, ?_, s4, locs, s5, h.2.2.1⟩
  · show T.heap[x]? = _
    rw [hT]; exact hx1
  · show mOK _ _ _ S' T.heap
    rw [hT]; exact h.1
  · intro q hq
    show T.heap[q]? = _
    rw [hT]; exact h.2.1 q hq
  · show _ ≤ T.heap.size
    rw [hT]; exact h.2.2.2
end VCALL
section VINV
variable {Γ : vG} {θ : tM} {S : Sx} {pc : Nat} {st : List Value} {y : MethodName} {θ' : tM}
/-- a descriptor's parameters -/
def nPar (y : MethodName) (n : Nat) : Prop := (parseMethodDescriptor y.desc).map (fun d => d.parameters.length) = some n
theorem nPar.len {n : Nat} (h : nPar y n) : ∀ sig, parseMethodDescriptor y.desc = some sig → n = sig.parameters.length := by
  intro sig hs
  unfold nPar at h
  rw [hs] at h
  exact (Option.some.inj h).symm
def okM (y : MethodName) (n : Nat) : Prop := y.cls ≠ "java/lang/invoke/MethodHandle" ∧ y.cls ≠ "java/lang/invoke/VarHandle" ∧ nPar y n
theorem code_at {args : Array Value} {s : State} (h : (cOf y θ').before args s = true) : ∃ (mk : MethodId) (meth : Method), s.methodNamed? y = some mk ∧ s.vm.method? mk = some meth ∧ parseMethodDescriptor y.desc = some meth.sig := by
  unfold cOf at h
  split at h
  · obtain ⟨mk, hn⟩ := Cond.code_named h
    obtain ⟨meth, c, h1, -, -, -, -, -, -, hs⟩ := Cond.code_spec hn h
    exact ⟨mk, meth, hn, h1, hs⟩
  · obtain ⟨m9, meth, c, hn9, h1, h2, h3, h4, h5, h6, h7, h8⟩ := Cond.codeWith_spec h
    exact ⟨m9, meth, hn9, h1, by first | exact h8 | exact h8.1 | exact h8.2⟩
theorem iv_static {idx n : Nat} {As : List Value} (hcy : cOf y θ' ∈ gT) (hlink : Cond.methodLink (tO θ) idx y ∈ gT) (hstat : Cond.static y ∈ gT) (hini : Cond.initialized y.cls ∈ gT) (hy : okM y n) (hn : As.length = n) (hd : decode (tC θ) pc = .ok (.invokestatic idx, 3)) : ivOK Γ θ S y pc (As.reverse ++ st) st As.toArray := by
  intro g T locs ce sl ls hm X
  have hdg : decode (gc Γ).code pc = .ok (.invokestatic idx, 3) := by rw [g.by]; exact hd
  refine ⟨⟨_, hdg⟩, ?_⟩
  obtain ⟨mk, methM, hnamed, hmethM, hsigM⟩ := code_at (g.ts _ hcy)
  have hstatic : methM.isStatic = true := Cond.static_spec hnamed hmethM (g.ts _ hstat)
  obtain ⟨kP, hkP, -⟩ := className_of_methodNamed hnamed
  have hinitP : kP.init = .initialized := Cond.initialized_spec (findClass_of_methodNamed hnamed) hkP (g.ts _ hini)
  obtain ⟨vm₁, X₁, hstep₁⟩ := X.invokestatic g.ex g.ow (g.ts _ hlink) hnamed hmethM hstatic hkP hinitP ⟨hy.1, hy.2.1⟩ (g := F0 (gm Γ) pc ls (As.reverse ++ st)) rfl (argsL := As) (rest := st) (hn.trans (hy.2.2.len _ hsigM)) rfl hdg
  exact ⟨mk, vm₁, hnamed, X₁, hstep₁⟩
theorem iv_staticN {idx n : Nat} {host : String} {As : List Value} (hcy : cOf y θ' ∈ gT) (hlink : (tO θ, idx, y, host) ∈ nN) (hstat : Cond.static y ∈ gT) (hini : Cond.initialized y.cls ∈ gT) (hy : okM y n) (hn : As.length = n) (hd : decode (tC θ) pc = .ok (.invokestatic idx, 3)) : ivOK Γ θ S y pc (As.reverse ++ st) st As.toArray := by
  intro g T locs ce sl ls hm X
  have hdg : decode (gc Γ).code pc = .ok (.invokestatic idx, 3) := by rw [g.by]; exact hd
  refine ⟨⟨_, hdg⟩, ?_⟩
  obtain ⟨mk, methM, hnamed, hmethM, hsigM⟩ := code_at (g.ts _ hcy)
  have hstatic : methM.isStatic = true := Cond.static_spec hnamed hmethM (g.ts _ hstat)
  obtain ⟨kP, hkP, -⟩ := className_of_methodNamed hnamed
  have hinitP : kP.init = .initialized := Cond.initialized_spec (findClass_of_methodNamed hnamed) hkP (g.ts _ hini)
  obtain ⟨vm₁, X₁, hstep₁⟩ := X.invokestaticNest g.ex g.ow (va_Nw.use rfl (g.kk.2.2.2.2.2.2.2.1 _ hlink)) hnamed hmethM hstatic hkP hinitP ⟨hy.1, hy.2.1⟩ (g := F0 (gm Γ) pc ls (As.reverse ++ st)) rfl (argsL := As) (rest := st) (hn.trans (hy.2.2.len _ hsigM)) rfl hdg
  exact ⟨mk, vm₁, hnamed, X₁, hstep₁⟩
theorem iv_virt {idx n kd a : Nat} {q : vw_C} {As : List Value} (hq : classes[kd]? = some q) (ha : kdOf S a = some kd) (hcy : cOf y θ' ∈ gT) (hlink : Cond.methodLink (tO θ) idx y ∈ gT) (hinst : Cond.instanceMethod y ∈ gT) (hsel : Cond.selects q.1 y y ∈ gT) (hy : okM y n) (hn : As.length = n) (hd : decode (tC θ) pc = .ok (.invokevirtual idx, 3)) : ivOK Γ θ S y pc (As.reverse ++ .ref a :: st) st (Value.ref a :: As).toArray := by
  intro g T locs ce sl ls hm X
  have hdg : decode (gc Γ).code pc = .ok (.invokevirtual idx, 3) := by rw [g.by]; exact hd
  refine ⟨⟨_, hdg⟩, ?_⟩
  obtain ⟨nn, hk⟩ := kdOf_some ha
  obtain ⟨ty, c1, c2, c3, c4, c5, c6⟩ := clF_all kd q hq
  have hP := hm.sgl hk
  rw [cE_obj c5] at hP
  obtain ⟨cellB, hcB, hoB, hclB⟩ := va_recv (s := gs Γ) g.kk.1 hP hq (q0 := 0) rfl
  obtain ⟨mk, methM, hnamed, hmethM, hstM, habM⟩ := Cond.instanceMethod_spec (g.ts _ hinst)
  obtain ⟨mk', methM', hnamed', hmethM', hsigM⟩ := code_at (g.ts _ hcy)
  cases hnamed.symm.trans hnamed'
  cases hmethM.symm.trans hmethM'
  obtain ⟨c2', r2, m2, q1, q2, q3, q4, kP, hkP, hkPi⟩ := Cond.selects_spec (g.ts _ hsel)
  cases hclB.symm.trans q1
  cases (State.methodFound?_of_named hnamed ⟨hy.1, hy.2.1⟩).symm.trans q2
  cases hnamed.symm.trans q3
  have hselP : selectMethod (ge Γ).platform (gs Γ).vm cellB.cls mk = .method mk := by rw [Launch.admits_selectMethod X.admits]; exact q4
  obtain ⟨vm₁, X₁, hstep₁⟩ := X.invokevirtual g.ex g.ow (g.ts _ hlink) hnamed hmethM hstM hkP hkPi ⟨hy.1, hy.2.1⟩ (a := a) (cell := cellB) hcB
    (fun z h => by rw [h] at hoB; cases hoB) hselP hmethM habM hkP hkPi (g := F0 (gm Γ) pc ls (As.reverse ++ .ref a :: st)) rfl (argsL := As) (rest := st) (hn.trans (hy.2.2.len _ hsigM)) rfl hdg
  exact ⟨mk, vm₁, hnamed, X₁, hstep₁⟩
theorem iv_init {idx n a : Nat} {As : List Value} (hh : tH θ' = []) (hr : tR θ' = none) (hcy : cOf y θ' ∈ gT) (hy1 : y.name = "<init>") (hlink : Cond.methodLink (tO θ) idx y ∈ gT) (hinst : Cond.instanceMethod y ∈ gT) (hy : okM y n) (hn : As.length = n) (hd : decode (tC θ) pc = .ok (.invokespecial idx, 3)) : ivOK Γ θ S y pc (As.reverse ++ .ref a :: st) st (Value.ref a :: As).toArray := by
  intro g T locs ce sl ls hm X
  have hdg : decode (gc Γ).code pc = .ok (.invokespecial idx, 3) := by rw [g.by]; exact hd
  refine ⟨⟨_, hdg⟩, ?_⟩
  have hpl : (ge Γ).platform.magicAccessors = ({} : Platform).magicAccessors := by rw [X.admits.platform]
  have hcode : (Cond.code y (tC θ') (tL θ') none).before (ga Γ) (gs Γ) = true := by
    have h := g.ts _ hcy
    unfold cOf at h
    rw [if_pos hh, hr] at h
    exact h
  obtain ⟨mk, methM, cM, kP, vm₁, hnamed, hmethM, hcodeM, -, hlocalsM, -, hkP, -, hW₁, hstep₁⟩ := Steps.initColdArgs (e := ge Γ) X.here g.ex X.warmed hpl g.ow hy1 ⟨hy.1, hy.2.1⟩ (g.ts _ hlink) (g.ts _ hinst) hcode (f := F0 (gm Γ) pc ls (As.reverse ++ .ref a :: st)) rfl (argsL := As) (a := a) (rest := st) (fun sig h => hn.trans (hy.2.2.len sig h)) rfl hdg
  exact ⟨mk, vm₁, hnamed, X.noted hW₁, hstep₁⟩
theorem iv_initN {idx n a : Nat} {host : String} {As : List Value} (hh : tH θ' = []) (hr : tR θ' = none) (hcy : cOf y θ' ∈ gT) (hy1 : y.name = "<init>") (hlink : (tO θ, idx, y, host) ∈ nN) (hinst : Cond.instanceMethod y ∈ gT) (hy : okM y n) (hn : As.length = n) (hd : decode (tC θ) pc = .ok (.invokespecial idx, 3)) : ivOK Γ θ S y pc (As.reverse ++ .ref a :: st) st (Value.ref a :: As).toArray := by
  intro g T locs ce sl ls hm X
  have hdg : decode (gc Γ).code pc = .ok (.invokespecial idx, 3) := by rw [g.by]; exact hd
  refine ⟨⟨_, hdg⟩, ?_⟩
  have hpl : (ge Γ).platform.magicAccessors = ({} : Platform).magicAccessors := by rw [X.admits.platform]
  have hcode : (Cond.code y (tC θ') (tL θ') none).before (ga Γ) (gs Γ) = true := by
    have h := g.ts _ hcy
    unfold cOf at h
    rw [if_pos hh, hr] at h
    exact h
  obtain ⟨mk, methM, cM, kP, vm₁, hnamed, hmethM, hcodeM, -, hlocalsM, -, hkP, -, hW₁, hstep₁⟩ := Steps.initColdArgsNest (e := ge Γ) X.here g.ex X.warmed hpl g.ow hy1 ⟨hy.1, hy.2.1⟩ (va_Nw.use rfl (g.kk.2.2.2.2.2.2.2.1 _ hlink)) (g.ts _ hinst) hcode (f := F0 (gm Γ) pc ls (As.reverse ++ .ref a :: st)) rfl (argsL := As) (a := a) (rest := st) (fun sig h => hn.trans (hy.2.2.len sig h)) rfl hdg
  exact ⟨mk, vm₁, hnamed, X.noted hW₁, hstep₁⟩
end VINV
