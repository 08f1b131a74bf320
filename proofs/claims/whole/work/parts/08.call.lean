/-! CONTRACTS AND CALLS: a method returns (k = 0) or throws an exception of the kind k -/
def exN (k : Nat) : String := match k with | 1 => "java/lang/IllegalArgumentException" | 2 => "java/lang/IllegalStateException" | _ => "java/lang/IndexOutOfBoundsException"
def oOK (k : Nat) (v : Option Value) (o : Outcome) (t : State) : Prop := (k = 0 ∧ o = .returned v) ∨ (k ≠ 0 ∧ ∃ (x : Addr) (cell : Cell), o = .threw x ∧ t.heap[x]? = some cell ∧ cell.vm.isStatics = false ∧ t.vm.findClass (exN k) = some cell.cls)
/-- the end of a method: its outcome, its memory, what stayed, what came -/
def eOK (D : va_G) (dA : Nat → ClassId) (B mc ms k : Nat) (v : Option Value) (S' : Sx) (st : State) (o : Outcome) (t : State) : Prop := oOK k v o t ∧ mOK D dA B S' t.heap ∧ (∀ q : Nat, q < B → t.heap[q]? = st.heap[q]?) ∧ st.heap.size ≤ t.heap.size ∧ st.WarmedH t.vm ∧ ∃ Lo, st.sameButNew ({ t with vm := st.vm } : State) Lo mc ms ∧ ∀ q ∈ Lo, B ≤ q.base
def cOf (y : MethodName) (θ : tM) : Cond := if tH θ = [] then .code y (tC θ) (tL θ) (tR θ) else .codeWith y (tC θ) (tL θ) (tR θ) (tH θ)
def Mx (l : Launch) (y : MethodName) (θ : tM) (rm : Room) (mc ms : Nat) (D : va_G) (dA : Nat → ClassId) (B : Nat) (S : Sx) (av : List Value) (k : Nat) (v : Option Value) (S' : Sx) : Prop :=
  MetFree l y (headSpec (cOf y θ :: gT) rm) (fun a U => a = av.toArray ∧ mOK D dA B S U.heap ∧ kOK D dA B U ∧ B ≤ U.heap.size) (fun _ _ _ _ _ => True) (fun _ st o t => eOK D dA B mc ms k v S' st o t)
def mQ (Γ : vG) (mc ms k : Nat) (v : Option Value) (S' : Sx) : State → Prop := fun t => ∃ o, t.status = .running ∧ Ended t (gb Γ) o ∧ eOK (gD Γ) (gA Γ) (gB Γ) mc ms k v S' (gs Γ) o t
/-- what a method's texts and tables say at its entry -/
theorem kOK.moved {D : va_G} {dA : Nat → ClassId} {B : Nat} {u U : State} (hW : u.WarmedH U.vm) (hB : B ≤ u.heap.size) (ho : ∀ q : Nat, q < B → U.heap[q]? = u.heap[q]?) (h : kOK D dA B u) : kOK D dA B U := by
  obtain ⟨h1, h2, h3, h4, h5, h6, h7, h8, h9⟩ := h
  exact ⟨va_K.moved hW.alike h1, fun C hC => (h2 C hC).moved hW.alike, fun q hq => by
    obtain ⟨a, ha⟩ := h3 q hq
    exact ⟨a, ha.warm hW⟩, h4.moved hW.alike ho, h5.moved hW.alike ho, fun x hx => va_Nw.warmD hW (h6 x hx), fun q hq => va_Nw.warmC hW (h7 q hq), fun q hq => va_Nw.warmM hW (h8 q hq), fun q hq => (h9 q hq).moved hW.alike⟩
section CFREE
variable {l : Launch} {R : Room} {p : Program} {e : Env} {below : List Frame} {s : State} {sargs : Array Value} {m : MethodId} {meth : Method} {c : Code} {U : State} {Ls : List Loc} {c0 s0 : Nat}
/-- a call at a point of a walk, by the callee's contract: where it returns, where it throws -/
theorem c_out {y : MethodName} {ws : List Cond} {rm : Room} {P : Array Value → State → Prop} {Qx : Array Value → State → Outcome → State → Prop} {fr : Nat → Prop} {mc ms maxL W : Nat}
    (hM : MetFree l y (headSpec ws rm) P (fun _ _ _ _ _ => True) Qx) (hQ : ∀ a st o t, Qx a st o t → st.WarmedH t.vm ∧ ∃ Lo, st.sameButNew ({ t with vm := st.vm } : State) Lo mc ms ∧ ∀ q ∈ Lo, fr q.base)
    (X : Stand p l e R s m sargs below meth c U Ls c0 s0) {g : JFrame} (hg : g.method = m) (hsize : g.locals.size = c.maxLocals) {ig : Instr} {len : Nat} (hdg : decode c.code g.pc = .ok (ig, len))
    (hW : 2 * g.monitorRoom + (g.stack.map fun v => v.category).sum ≤ W) {mk : MethodId} {a : Array Value} (hn : U.methodNamed? y = some mk) {methY : Method} {cY : Code} (hmY : U.vm.method? mk = some methY) (hcY : methY.code = some cY) (hlY : cY.maxLocals = maxL)
    (hini : (Cond.initialized y.cls).before a U = true) (hframes : rm.frames + 1 ≤ R.frames) (hlocals : W + (maxL + 11) + rm.locals ≤ R.locals) (hpre : ∀ w ∈ ws, w.before a U = true) (hrc : c0 + rm.cells ≤ R.cells) (hrs : s0 + rm.slots ≤ R.slots) (hP : P a (U.calling g mk a)) :
    ∃ (o : Outcome) (t : State) (Lo : List Loc), Qx a (U.calling g mk a) o t ∧ (∀ q ∈ Lo, fr q.base) ∧
      Stand p l e R s m sargs below meth c (({ U with heap := t.heap, slotsUsed := t.slotsUsed } : State).setVm t.vm) (Ls ++ Lo) (c0 + mc) (s0 + ms) ∧
      (∀ v, o = .returned v → Steps p.tables e below (doInvoke e (U.setTop g) [] mk a).1 ((({ U with heap := t.heap, slotsUsed := t.slotsUsed } : State).setVm t.vm).setTop { g with pc := g.pc + len, stack := v.toList ++ g.stack })) ∧
      (∀ x, o = .threw x → Steps p.tables e below (doInvoke e (U.setTop g) [] mk a).1 (((({ U with heap := t.heap, slotsUsed := t.slotsUsed } : State).setVm t.vm).setTop g).pushFrame (.throwing x))) := by
  obtain ⟨kY, hkY, -⟩ := className_of_methodNamed hn
  have hinitY : kY.init = .initialized := Cond.initialized_spec (findClass_of_methodNamed hn) hkY hini
  have h : At U g.method c below := by rw [hg]; exact X.here
  have happ : (headSpec ws rm).appliesLoose y e.platform (U.calling g mk a) = true :=
    Spec.appliesLoose_calling (g := g) h hdg hn hkY hinitY
      (X.room_calling (g := g) (R' := (headSpec ws rm).room) hsize hmY hcY hframes (by rw [hlY]; show _ + _ + (headSpec ws rm).room.locals ≤ _; have : (headSpec ws rm).room.locals = rm.locals := rfl; omega) hrc hrs) (atoms_intro hpre)
  obtain ⟨mid, hmid⟩ := h.above
  have hfr : (U.setTop g).frames = (.java g :: mid) ++ below := by rw [State.frames_setTop' g h.top, hmid]; rfl
  obtain ⟨o, s₂, hsteps, -, hend, hq⟩ := Steps.callFree hM p X.admits X.cas X.clock (acts := []) hfr happ hP trivial
  have hq' : Qx a (U.calling g mk a) o s₂ := hq
  rw [State.frames_setTop' g h.top] at hend
  obtain ⟨hW₂, Lo, hsb, hLo⟩ := hQ _ _ _ _ hq'
  obtain ⟨e2, q2, q3, q4, q5, q6⟩ := hsb
  have e3 : s₂ = ({ (U.calling g mk a).setFrames s₂.frames with heap := s₂.heap, slotsUsed := s₂.slotsUsed } : State).setVm s₂.vm := by
    have : s₂ = ({ s₂ with vm := (U.calling g mk a).vm } : State).setVm s₂.vm := rfl
    rw [e2] at this
    exact this
  have hW' : U.WarmedH s₂.vm := hW₂
  obtain ⟨g₀, hg0⟩ := Option.isSome_iff_exists.mp h.top
  obtain ⟨r, hr⟩ := State.topJava?_eq_some.mp hg0
  have hr' : (({ U with heap := s₂.heap, slotsUsed := s₂.slotsUsed } : State).setVm s₂.vm).frames = .java g₀ :: r := hr
  have hsame : U.sameButNew ({ U with heap := s₂.heap, slotsUsed := s₂.slotsUsed } : State) Lo mc ms := by
    refine ⟨?_, q2, q3, q4, q5, q6⟩
    obtain ⟨t, ht, -⟩ := State.frames_cons hr
    show ({ U with heap := s₂.heap, slotsUsed := s₂.slotsUsed } : State) = { U.setFrames U.frames with heap := s₂.heap, slotsUsed := s₂.slotsUsed }
    rw [State.setFrames_self ht]
  refine ⟨o, s₂, Lo, hq', hLo, ⟨X.admits, X.cas, X.clock, X.frames, X.room, X.hears, X.method, X.code, (X.here.setHeapUsed s₂.heap s₂.slotsUsed).setVm hW'.alike, X.tail, State.WarmedH.trans X.warmed hW', X.limits, X.bytes, X.same.trans (hsame.setVm s.vm)⟩, ?_, ?_⟩
  · rintro v rfl
    obtain ⟨c₂, i₂, len₂, hc₂, hd₂, hf₂⟩ := hend
    have hcc : c₂ = c := by
      have h1 : s₂.code? g.method = U.code? g.method := by
        rw [State.code?_eq, State.code?_eq, hW'.alike.method?]
      exact Option.some.inj (hc₂.symm.trans (h1.trans h.code))
    subst hcc
    have hlen : len₂ = len := by rw [hdg] at hd₂; cases hd₂; rfl
    subst hlen
    have hs₂ : s₂ = (({ U with heap := s₂.heap, slotsUsed := s₂.slotsUsed } : State).setVm s₂.vm).setTop { g with pc := g.pc + len₂, stack := v.toList ++ g.stack } := by
      refine e3.trans ?_
      rw [hf₂, State.calling_eq h.top, State.setFrames_setFrames, State.setTop_of_frames _ hr', hr]
      rfl
    rw [← hs₂]
    exact hsteps
  · rintro x rfl
    have hf₂ : s₂.frames = .throwing x :: .java g :: U.frames.tail := hend
    have hs₂ : s₂ = ((({ U with heap := s₂.heap, slotsUsed := s₂.slotsUsed } : State).setVm s₂.vm).setTop g).pushFrame (.throwing x) := by
      refine e3.trans ?_
      rw [hf₂, State.calling_eq h.top, State.setFrames_setFrames, State.pushFrame, State.frames_setTop _ hr', State.setTop_of_frames _ hr', State.setFrames_setFrames, hr]
      rfl
    rw [← hs₂]
    exact hsteps
end CFREE
