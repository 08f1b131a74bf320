/-! AN EXCEPTION IS MADE WITH A TEXT, AND THROWN OUT OF THE METHOD -/
section STHROW
variable {p : Program} {l : Launch} {e : Env} {R : Room} {s : State} {m₀ : MethodId} {args : Array Value} {below : List Frame} {meth : Method} {c : Code} {V : State} {locs : List Loc} {cells slots : Nat}
set_option maxHeartbeats 4000000 in
/-- the constructor's call and the throw, from a fresh object: what the heap is then -/
theorem s_throw (X : Stand p l e R s m₀ args below meth c V locs cells slots) (hexec : p.tables.exec = Jvm.exec) (htr : e.platform.stackTraces = false) {own cls : String} {names : List String} {ic B : Nat}
    (hown : s.vm.findClass own = some m₀.cls) (hcls : Bundle.fit cls = true) (hnames : ∀ n ∈ names, Bundle.fit n = true)
    (h : ∀ a ∈ Bundle.ownAtoms own ic cls names, a.before args s = true) (hlocs : ∀ x ∈ locs, B ≤ x.base) (hzs : zOK "UNASSIGNED_STACK" "[Ljava/lang/StackTraceElement;" B s)
    {a : Addr} {cX : ClassId} {kX : Class} (hfoundX : s.vm.findClass cls = some cX) (hkX : s.vm.classes[cX]? = some kX) (hcell : V.heap[a]? = some (freshCell cX kX)) (hnew : s.heap.size ≤ a)
    {msg : Value} (hmsg : msg.isRef = true)
    {g : JFrame} (hg : g.method = m₀) (hsize : g.locals.size = c.maxLocals) (hlocked : g.locked = none) (hentered : g.entered = []) {rest : List Value} (hstack : g.stack = msg :: .ref a :: .ref a :: rest)
    (hd6 : decode c.code g.pc = .ok (.invokespecial ic, 3)) (hd9 : decode c.code (g.pc + 3) = .ok (.athrow, 1)) (hout : ∀ x ∈ c.exceptionTable.toList, covers x (g.pc + 3) = false)
    (hRframes : names.length + 3 < R.frames) (hRlocals : 2 * g.monitorRoom + ((Value.ref a :: rest).map fun v => v.category).sum + (13 * (names.length + 1) + 42) ≤ R.locals) (hlocks : meth.locks = false) :
    ∃ U : State, Steps p.tables e below (V.setTop g) U ∧ U.status = .running ∧ Ended U below (.threw a) ∧ s.WarmedH U.vm ∧ s.sameButNew ({ U with vm := s.vm } : State) locs cells slots ∧
      U.heap.size = V.heap.size ∧ (∀ q, q ≠ a → U.heap[q]? = V.heap[q]?) ∧ ∃ ce : Cell, U.heap[a]? = some ce ∧ ce.cls = cX ∧ ce.vm.isStatics = false := by
  have howns : e.platform.frameOwnsMonitors = true := by rw [X.admits.platform]
  have hfin : e.platform.finalization = false := by rw [X.admits.platform]
  have hpl : e.platform.magicAccessors = ({} : Platform).magicAccessors := by rw [X.admits.platform]
  have a' : ∀ x, x ∈ Bundle.ownAtoms own ic cls names → x.holds args s none s [] = true := fun x hx => h x hx
  obtain ⟨T, Z0, L, -, Y⟩ := ThrowableC.of_atoms (args := args) howns hfin hpl (fun x hx => h x (by simp [Bundle.ownAtoms, hx]))
  obtain ⟨Z, M, LZ, LM, hnZ⟩ := Init0T.ofS_atoms (args := args) hpl L Y (fun x hx => h x (by simp [Bundle.ownAtoms, hx]))
  obtain ⟨P1, Ps, hlen, L1, hL, hP1m, hlink1, hlink⟩ := Bundle.chainS (args := args) hpl hnZ names cls hcls hnames (fun x hx => h x (by simp [Bundle.ownAtoms, hx]))
  have hfound : s.vm.findClass cls = some P1.m.cls := findClass_of_methodNamed hP1m
  cases Option.some.inj (hfoundX.symm.trans hfound)
  obtain ⟨c1, kX', hc1, hk, hord, -, -, hn6⟩ := Cond.instantiable_spec (a' (.instantiable cls 6) (by simp [Bundle.ownAtoms]))
  cases Option.some.inj (hc1.symm.trans hfound)
  cases Option.some.inj (hkX.symm.trans hk)
  have hsel0 : selectMethod e.platform s.vm P1.m.cls T.fill0 = .method T.fill0 := by
    obtain ⟨c2, r2, m2, q1, q2, q3, q4, -⟩ := Cond.selects_spec (a' (.selects cls Bundle.tFill0 Bundle.tFill0) (by simp [Bundle.ownAtoms]))
    cases Option.some.inj (q1.symm.trans hfound)
    cases Option.some.inj (q2.symm.trans (State.methodFound?_of_named Y.fill0 (by decide)))
    cases Option.some.inj (q3.symm.trans Y.fill0)
    rw [Launch.admits_selectMethod X.admits]; exact q4
  have hselF : selectMethod e.platform s.vm P1.m.cls T.fill = .method T.fill := by
    obtain ⟨c2, r2, m2, q1, q2, q3, q4, -⟩ := Cond.selects_spec (a' (.selects cls Bundle.tFill Bundle.tFill) (by simp [Bundle.ownAtoms]))
    cases Option.some.inj (q1.symm.trans hfound)
    cases Option.some.inj (q2.symm.trans (State.methodFound?_of_named Y.fill (by decide)))
    cases Option.some.inj (q3.symm.trans Y.fill)
    rw [Launch.admits_selectMethod X.admits]; exact q4
  obtain ⟨cellS0, hcS0, hiss⟩ := Y.statics
  obtain ⟨u0, hu0⟩ := Cond.staticRefV Y.unassigned L.unassignedStatic L.statics hcS0 hiss (a' (.isRef (.static Bundle.tN "UNASSIGNED_STACK" Bundle.steD)) (by simp [Bundle.ownAtoms]))
  obtain ⟨sen, hsen⟩ := Cond.staticRefV Y.sentinel L.sentinelStatic L.statics hcS0 hiss (a' (.isRef (.static Bundle.tN "SUPPRESSED_SENTINEL" Bundle.listD)) (by simp [Bundle.ownAtoms]))
  obtain ⟨ci198, i198, fB, hk198, hg198, ha198, hsB, -, hnB, htB, hffB⟩ := Cond.ownField (t := .object "java/lang/Object") Y.found L.cls (by decide +kernel) (a' (.fieldLink Bundle.tN 198 Bundle.tN "backtrace" "Ljava/lang/Object;") (by simp [Bundle.ownAtoms])) (a' (.lays Bundle.tN Bundle.tN "backtrace" "Ljava/lang/Object;") (by simp [Bundle.ownAtoms])) e.platform hpl
  obtain ⟨cellS, hcS', heS, -, hkeep⟩ := X.same.2.2.2.2.2 T.aS cellS0 hcS0
  have hcellS : V.heap[T.aS]? = some cellS := hcS'
  have hout' : ∀ i, (⟨T.aS, i⟩ : Loc) ∉ locs := fun i hmem => by
    obtain ⟨zc, zk, zi, zf, za, zcell, zv, z1, z2, z3, z4, z5, z6, z7, z8, z9, z10, z11, z12⟩ := hzs
    have e1 := Option.some.inj (z2.symm.trans Y.unassigned)
    have e2 : zk = T.kT := by simp only [Prod.mk.injEq] at e1; exact e1.2.1
    rw [e2] at z4
    have e3 : za = T.aS := Option.some.inj (z4.symm.trans L.statics)
    have h9 := hlocs _ hmem
    dsimp only at h9
    omega
  have hknownS : cellS.vm ≠ .unknown := by
    rw [heS]; intro hu
    rw [show cellS0.vm = .unknown from hu] at hiss
    cases hiss
  have hneS : T.aS ≠ a := Nat.ne_of_lt (Nat.lt_of_lt_of_le (Array.getElem?_eq_some_iff.mp hcS0).1 hnew)
  obtain ⟨iM, hffM⟩ := Y.msg
  obtain ⟨tyC, dC, hdC, hdnC⟩ := Cond.laysAt hfound hk Y.cause (a' (.lays cls Bundle.tN "cause" "Ljava/lang/Throwable;") (by simp [Bundle.ownAtoms]))
  obtain ⟨tyS, dS, hdS, hdnS⟩ := Cond.laysAt hfound hk Y.stack (a' (.lays cls Bundle.tN "stackTrace" Bundle.steD) (by simp [Bundle.ownAtoms]))
  obtain ⟨tyP, dP, hdP, hdnP⟩ := Cond.laysAt hfound hk Y.supp (a' (.lays cls Bundle.tN "suppressedExceptions" Bundle.listD) (by simp [Bundle.ownAtoms]))
  obtain ⟨tyM, dM, hdM, hdnM⟩ := Cond.laysAt hfound hk hffM (a' (.lays cls Bundle.tN "detailMessage" "Ljava/lang/String;") (by simp [Bundle.ownAtoms]))
  obtain ⟨tyB, dB, hdB, hdnB⟩ := Cond.laysAt hfound hk hffB (a' (.lays cls Bundle.tN "backtrace" "Ljava/lang/Object;") (by simp [Bundle.ownAtoms]))
  have bC := Cond.laysApart hdB hdC hdnB hdnC (by rw [hnB, Y.causeName]; decide)
  have bS := Cond.laysApart hdB hdS hdnB hdnS (by rw [hnB, Y.stackName]; decide)
  have bP := Cond.laysApart hdB hdP hdnB hdnP (by rw [hnB, Y.suppName]; decide)
  have hskip : SkipFacts T e.platform s (fun u => u) u0 ((preparedCellV T.toThrowableT (freshCell P1.m.cls kX) a u0 sen).withEntry V.cur) :=
    ⟨{ ci198 := ci198, i198 := i198, fBack := fB }, ⟨hk198, hg198, ha198, hsB⟩, by
      have := fresh_default (c := P1.m.cls) tyB
      rw [htB] at this
      simpa [preparedCellV, Cell.setSlot, Cell.withEntry, Array.getElem?_setIfInBounds, bC, bS, bP, bC.symm, bS.symm, bP.symm, defaultValue] using this, fun _ _ => rfl⟩
  obtain ⟨tm, methC, cdC, kC, vm₁, hnC, -, -, -, -, -, -, -, hW₁, st1⟩ := Steps.initColdS (tb := p.tables) (e := e) (below := below) (s := s) (U := V) X.here hexec X.warmed hpl hown (t := Bundle.initS cls) rfl rfl (Bundle.fit_spec hcls).2
    (a' (.methodLink own ic (Bundle.initS cls)) (by simp [Bundle.ownAtoms])) (h (.instanceMethod (Bundle.initS cls)) (by cases names <;> simp [Bundle.ownAtoms, Bundle.chainSAtoms, Bundle.passSAtoms])) (bytes := Bundle.six) (maxL := 2) (h (.code (Bundle.initS cls) Bundle.six 2 none) (by cases names <;> simp [Bundle.ownAtoms, Bundle.chainSAtoms, Bundle.passSAtoms]))
    (f := g) hg (a := a) (msg := msg) (rest := .ref a :: rest) hstack hd6
  cases Option.some.inj (hnC.symm.trans hP1m)
  have X₁ := X.noted hW₁
  obtain ⟨vm₂, X₂, st2⟩ := X₁.ctorMessageOffV hexec (g := { g with stack := .ref a :: rest }) hg hsize T L Z LZ M LM (P1 :: Ps)
    (fun P hP => by rcases List.mem_cons.mp hP with rfl | hP; exact L1; exact hL P hP) ⟨hlink1, hlink⟩ (u0 := u0) (sen := sen) (self := a) hmsg (cell := freshCell P1.m.cls kX) (cellS := cellS)
    hcell (fun _ => by simp) (by simp) rfl rfl hsel0 hselF hcellS hneS hknownS (by rw [hkeep _ (hout' _)]; exact hu0) (by rw [hkeep _ (hout' _)]; exact hsen)
    (Takes.of_laid hk hord tyC (by rw [Y.causeType]; rfl)) (Takes.of_laid hk hord tyS (by rw [Y.stackType]; exact fits_refV_array _ u0)) (Takes.of_laid hk hord tyP (by rw [Y.suppType]; exact fits_refV_object _ sen))
    (Takes.of_laid hk hord tyM (by rw [Y.msgType]; exact fits_refV_object _ ⟨msg, hmsg⟩)) Y.objLocals hskip htr [] hd6
    (by simp only [List.length_cons, hlen]; omega) (by simp only [List.length_cons, hlen]; exact hRlocals)
  obtain ⟨hwalk, hrun, hended, hWU, hsame⟩ := X₂.athrowLeaves hexec (g := { g with stack := .ref a :: rest, pc := g.pc + 3 }) hg hlocked hentered hout (a := a) (rest := rest) rfl hd9 (hlocks := hlocks)
  have hlt : a < ((V.setVm vm₁).setVm vm₂).heap.size := (Array.getElem?_eq_some_iff.mp hcell).1
  have hU := heapAt_setCell_self (s := (V.setVm vm₁).setVm vm₂) (plainBareV T.toThrowableT (freshCell P1.m.cls kX) a u0 sen msg) hlt
  refine ⟨_, st1 _ (fun acts => ?_), hrun, hended, hWU, hsame.weaken (fun y hy hlt' => ?_) (Nat.le_refl _) (Nat.le_refl _), ?_, ?_, _, hU, rfl, rfl⟩
  · rw [doInvoke_state]
    exact st2 _ hwalk
  · rcases List.mem_append.mp hy with h1 | h1
    · exact h1
    · exfalso
      have hb : y.base = a := by
        simp only [List.mem_cons, List.not_mem_nil, or_false] at h1
        rcases h1 with rfl | rfl | rfl | rfl | rfl <;> rfl
      rw [hb] at hlt'
      exact Nat.not_lt.mpr hnew hlt'
  · exact size_setCell _ _ _
  · intro q hq
    exact heapAt_setCell_ne _ (Ne.symm hq)
end STHROW
/-- words of an exception's making: those that live through calls, and what Throwable's two statics give -/
def exW (w : Cond) : Bool := (decide (w ∈ lw_tbl) && goodWord w) || decide (w = .laysStatic nThr "UNASSIGNED_STACK" "[Ljava/lang/StackTraceElement;") || decide (w = .laysStatic nThr "SUPPRESSED_SENTINEL" "Ljava/util/List;") || decide (w = .isRef (.static nThr "UNASSIGNED_STACK" "[Ljava/lang/StackTraceElement;")) || decide (w = .isRef (.static nThr "SUPPRESSED_SENTINEL" "Ljava/util/List;")) || nD.any (fun x => decide (w = .declares x)) || nC.any (fun q => decide (w = .castable q.1 q.2))
theorem exW_use {D : va_G} {dA : Nat → ClassId} {B : Nat} {s : State} {args : Array Value} {w : Cond} (h : exW w = true) (hts : ∀ w ∈ gT, w.before args s = true) (hk : kOK D dA B s) : w.before args s = true := by
  simp only [exW, Bool.or_eq_true, Bool.and_eq_true, decide_eq_true_eq] at h
  rcases h with (((((h | rfl) | rfl) | rfl) | rfl) | h) | h
  · exact hts w (List.mem_filter.mpr h)
  · exact hk.2.2.2.1.lays
  · exact hk.2.2.2.2.1.lays
  · exact hk.2.2.2.1.isr
  · exact hk.2.2.2.2.1.isr
  · obtain ⟨x, hx, e⟩ := List.any_eq_true.mp h
    rw [decide_eq_true_eq] at e
    subst e
    exact va_Nw.use rfl (hk.2.2.2.2.2.1 x hx)
  · obtain ⟨x, hx, e⟩ := List.any_eq_true.mp h
    rw [decide_eq_true_eq] at e
    subst e
    exact va_Nw.use rfl (hk.2.2.2.2.2.2.1 x hx)
def exNames : List String := ["java/lang/RuntimeException", "java/lang/Exception"]
def exOK (own : String) (iC iM k : Nat) : Prop := Cond.classLink own iC (exN k) ∈ gT ∧ Cond.instantiable (exN k) 6 ∈ gT ∧ Cond.initialized (exN k) ∈ gT ∧ (Bundle.ownAtoms own iM (exN k) exNames).all exW = true ∧ Bundle.fit (exN k) = true ∧ k ≠ 0
theorem ex_1 : exOK "MatchPipe" 63 67 1 := ⟨gT_in 631 (by decide +kernel) rfl, gT_in 632 (by decide +kernel) rfl, gT_in 72 (by decide +kernel) rfl, by decide +kernel, by decide +kernel, by decide⟩
theorem ex_2 : exOK "MatchPipe" 326 330 2 := ⟨gT_in 707 (by decide +kernel) rfl, gT_in 708 (by decide +kernel) rfl, gT_in 73 (by decide +kernel) rfl, by decide +kernel, by decide +kernel, by decide⟩
theorem ex_3 : exOK "MatchPipe" 134 138 3 := ⟨gT_in 743 (by decide +kernel) rfl, gT_in 744 (by decide +kernel) rfl, gT_in 74 (by decide +kernel) rfl, by decide +kernel, by decide +kernel, by decide⟩
section VTHROW
variable {Γ : vG} {θ : tM} {S : Sx} {ce sl pc : Nat} {L : List (Nat × Value)} {st : List Value}
theorem v_throw0 {iC iM k pc2 : Nat} {v : Option Value} {own tx : String} {iS : Nat} (hO : tO θ = own) (hx : exOK own iC iM k) (hH : tH θ = []) (hs : (own, iS, tx) ∈ strs) (hd0 : decode (tC θ) pc = .ok (.new iC, 3)) (hd1 : decode (tC θ) (pc + 3) = .ok (.dup, 1)) (hd2 : (decode (tC θ) (pc + 4) = .ok (.ldc iS, 2) ∧ pc2 = pc + 6) ∨ (decode (tC θ) (pc + 4) = .ok (.ldc_w iS, 3) ∧ pc2 = pc + 7)) (hd3 : decode (tC θ) pc2 = .ok (.invokespecial iM, 3)) (hd4 : decode (tC θ) (pc2 + 3) = .ok (.athrow, 1))
    (hfr : 5 < (gR Γ).frames) (hlo : (st.map fun v => v.category).sum + 82 ≤ (gR Γ).locals) (hce : ce + 1 ≤ (gR Γ).cells) (hsl : sl + 6 ≤ (gR Γ).slots) : vV Γ θ (mQ Γ (ce + 1) (sl + 6) k v (nx S)) S ce sl pc L st := by
  subst hO
  intro g H locs ls h hl
  obtain ⟨x1, x2, x3, x4, x5, x6⟩ := hx
  obtain ⟨cX, kX0, hcX, hkX0, -⟩ := Cond.instantiable_spec (g.ts _ x2)
  refine W.newcK g.ex g.by g.ow (g.ts _ x1) (g.ts _ x2) (g.ts _ x3) rfl hd0 hce hsl hcX rfl fun H1 kC hkC e1 z1 o1 => ?_
  have h1 : hOK Γ (nx S) H1 locs := h.push g.hB z1 o1 (h.1.newx z1 o1)
  refine lv_dup g.ex g.by hd1 rfl ?_
  obtain ⟨am, ham⟩ := g.kk.2.2.1 _ hs
  have key : vW Γ H1 locs (ce + 1) (sl + 6) (mQ Γ (ce + 1) (sl + 6) k v (nx S)) (F0 (gm Γ) pc2 ls (.ref am :: .ref H.size :: .ref H.size :: st)) := by
    intro T hT X
    obtain ⟨U, s1, s2, s3, s4, s5, s6, s7, ce9, s8, s9, s10⟩ := s_throw (own := tO θ) (cls := exN k) (names := exNames) (ic := iM) (B := gB Γ) (a := H.size) (cX := cX) (kX := kC) (msg := .ref am) (rest := st) X g.ex g.tr g.ow x5 (by decide +kernel) (fun w hw => exW_use (List.all_eq_true.mp x4 w hw) g.ts g.kk) h.2.2.1 g.kk.2.2.2.1 hcX hkC (by rw [hT]; exact e1) h.2.2.2 rfl (g := F0 (gm Γ) pc2 ls (.ref am :: .ref H.size :: .ref H.size :: st)) rfl (by rw [g.ml]; exact hl.1) rfl rfl rfl (by rw [g.by]; exact hd3) (by rw [g.by]; exact hd4) (fun x hx => by rw [g.et, hH] at hx; cases hx) (by show 2 + 3 < _; omega) (by
        show 2 * 0 + ((Value.ref H.size :: st).map fun v => v.category).sum + (13 * (2 + 1) + 42) ≤ _
        simp only [List.map_cons, List.sum_cons]
        have hc1 : (Value.ref H.size).category = 1 := rfl
        rw [hc1]
        omega) g.lk
    refine ⟨U, s1, .threw H.size, s2, s3, Or.inr ⟨x6, H.size, ce9, rfl, s8, s10, ?_⟩, ⟨?_, ?_⟩, ?_, ?_, s4, locs, s5, h.2.2.1⟩
    · rw [s9, s4.alike.findClass]; exact hcX
    · rw [s6, hT, z1, h.1.1]; rfl
    · intro a kd n hk
      have h2 := h1.1.2 a kd n hk
      have hne : a ≠ H.size := by
        intro e
        subst e
        have e2 : sK (nx S) (sZ S) = none := va_up_self _ _ _
        rw [← h.1.1] at e2
        rw [e2] at hk
        cases hk
      exact ⟨h2.1, h2.2.kept (by show U.heap[a]? = H1[a]?; rw [s7 a hne, hT])⟩
    · intro q hq
      have hq2 : q < H.size := Nat.lt_of_lt_of_le hq (Nat.le_trans g.hB h.2.2.2)
      rw [s7 q (Nat.ne_of_lt hq2), hT]
      exact h1.2.1 q hq
    · rw [s6, hT]; exact h1.2.2.2
  rcases hd2 with ⟨hd2, rfl⟩ | ⟨hd2, rfl⟩
  · exact va_ldcS g.ex g.by g.ow ham hd2 key
  · intro T hT X
    obtain ⟨t, a1, b1⟩ := key T hT X
    exact ⟨t, X.ldcStringW g.ex g.ow (text := tx) (a := am) ham.1 ham.2 (g := F0 (gm Γ) (pc + 3 + 1) ls (.ref H.size :: .ref H.size :: st)) rfl (by rw [g.by]; exact hd2) t a1, b1⟩
end VTHROW
theorem strs_in {q : String × Nat × String} (i : Nat) (h : strs[i]? = some q) : q ∈ strs := List.mem_of_getElem? h
