/-! THE JUDGEMENT: at pc, with locals L, stack st, memory S, the machine comes to Q -/
/-- what stays through a method: program, launch, environment, room, start, method, arguments, frames below, method's data, code; slots, array classes, the first address that is ours -/
abbrev vG : Type := Program × Launch × Env × Room × State × MethodId × Array Value × List Frame × Method × Code × va_G × (Nat → ClassId) × Nat
abbrev gp (Γ : vG) : Program := Γ.1
abbrev gl (Γ : vG) : Launch := Γ.2.1
abbrev ge (Γ : vG) : Env := Γ.2.2.1
abbrev gR (Γ : vG) : Room := Γ.2.2.2.1
abbrev gs (Γ : vG) : State := Γ.2.2.2.2.1
abbrev gm (Γ : vG) : MethodId := Γ.2.2.2.2.2.1
abbrev ga (Γ : vG) : Array Value := Γ.2.2.2.2.2.2.1
abbrev gb (Γ : vG) : List Frame := Γ.2.2.2.2.2.2.2.1
abbrev gme (Γ : vG) : Method := Γ.2.2.2.2.2.2.2.2.1
abbrev gc (Γ : vG) : Code := Γ.2.2.2.2.2.2.2.2.2.1
abbrev gD (Γ : vG) : va_G := Γ.2.2.2.2.2.2.2.2.2.2.1
abbrev gA (Γ : vG) : Nat → ClassId := Γ.2.2.2.2.2.2.2.2.2.2.2.1
abbrev gB (Γ : vG) : Nat := Γ.2.2.2.2.2.2.2.2.2.2.2.2
/-- a method's text: bytes, class, locals, name, answer, handlers -/
abbrev tM : Type := ByteArray × String × Nat × String × Option FieldType × List (Nat × Nat × Nat × Nat)
abbrev tC (θ : tM) : ByteArray := θ.1
abbrev tO (θ : tM) : String := θ.2.1
abbrev tL (θ : tM) : Nat := θ.2.2.1
abbrev tN' (θ : tM) : String := θ.2.2.2.1
abbrev tR (θ : tM) : Option FieldType := θ.2.2.2.2.1
abbrev tH (θ : tM) : List (Nat × Nat × Nat × Nat) := θ.2.2.2.2.2
/-- what is known of the tables beside the words: classes, array classes, what arrays can be made, texts, Throwable's two statics -/
def strs : List (String × Nat × String) := [("MatchPipe", 65, "a width is 1 to 32"), ("MatchPipe", 328, "it is laid"), ("MatchPipe", 331, "there is no room for one more"), ("MatchPipe", 342, "no such field"), ("MatchPipe", 346, "no such state"), ("MatchPipe", 348, "that can't come next"), ("MatchPipe", 132, "no such kind of doing"), ("MatchPipe", 136, "no such action"), ("MatchPipe", 143, "no such field, array or datum"), ("MatchPipe", 148, "both keys are one field"), ("MatchPipe", 158, "no such actions"), ("MatchPipe", 164, "keys can't be matched so"), ("MatchPipe", 344, "no such table"), ("MatchPipe", 201, "no such relation"), ("MatchPipe", 214, "it can't be laid"), ("MatchPipe", 333, "it is not laid"), ("MatchPipe", 335, "40 are in line"), ("MatchPipe", 273, "0 to 100 cycles are run"), ("MatchPipe", 337, "an operation is in a stage")]
abbrev nThr : String := "java/lang/Throwable"
/-- a static of Throwable's that holds null or a reference, in a cell that was there before ours -/
def zOK (n d : String) (B : Nat) (U : State) : Prop := ∃ (c : ClassId) (k : Class) (i : Nat) (f : Field) (a : Nat) (cell : Cell) (v : Value), U.vm.findClass nThr = some c ∧ U.fieldFound? nThr n d = some (c, k, i, f) ∧ f.isStatic = true ∧ k.statics = some a ∧ U.heap[a]? = some cell ∧ cell.vm.isStatics = true ∧ cell.cls = c ∧ f.slot < cell.slots.size ∧ k.staticTypes[f.slot]? = some f.type ∧ cell.slots[f.slot]? = some v ∧ (v = .null ∨ ∃ t, v = .ref t) ∧ a < B
theorem zOK.moved {n d : String} {B : Nat} {u U : State} (hvm : u.vm.Alike U.vm) (ho : ∀ q : Nat, q < B → U.heap[q]? = u.heap[q]?) (h : zOK n d B u) : zOK n d B U := by
  obtain ⟨c, k, i, f, a, cell, v, h1, h2, h3, h4, h5, h6, h7, h8, h9, h10, h11, h12⟩ := h
  obtain ⟨k', hi', he⟩ := State.fieldFound?_setVm hvm h2
  exact ⟨c, k', i, f, a, cell, v, by rw [hvm.findClass]; exact h1, hi', h3, by rw [he]; exact h4, by rw [ho a h12]; exact h5, h6, h7, h8, by rw [he]; exact h9, h10, h11, h12⟩
theorem zOK.lays {n d : String} {B : Nat} {U : State} {args : Array Value} (h : zOK n d B U) : (Cond.laysStatic nThr n d).before args U = true := by
  obtain ⟨c, k, i, f, a, cell, v, h1, h2, h3, h4, h5, h6, h7, h8, h9, h10, h11, h12⟩ := h
  simp [Cond.before, Cond.holds, Cond.value, h1, h2, h3, h4, h5, h6, h7, h8, h9]
theorem zOK.isr {n d : String} {B : Nat} {U : State} {args : Array Value} (h : zOK n d B U) : (Cond.isRef (.static nThr n d)).before args U = true := by
  obtain ⟨c, k, i, f, a, cell, v, h1, h2, h3, h4, h5, h6, h7, h8, h9, h10, h11, h12⟩ := h
  have he : (Term.static nThr n d).eval args U none [] U = some v := by
    simp [Term.eval, State.fieldNamed?, h2, h3, h4, h5, h6, h10]
  simp only [Cond.before, Cond.holds, Cond.value, he]
  rcases h11 with rfl | ⟨t, rfl⟩ <;> rfl
theorem zOK.of {n d : String} {U : State} {args : Array Value} (hl : (Cond.laysStatic nThr n d).before args U = true) (hr : (Cond.isRef (.static nThr n d)).before args U = true) : zOK n d U.heap.size U := by
  obtain ⟨c, k, i, f, a, cell, hc, hi, hst, ha, hcell, hs, hcls, hlt, hty⟩ := Cond.laysStatic_spec hl
  have he : (Term.static nThr n d).eval args U none [] U = cell.slots[f.slot]? := by
    simp [Term.eval, State.fieldNamed?, hi, hst, ha, hcell, hs]
  have hv : cell.slots[f.slot]? = some cell.slots[f.slot] := Array.getElem?_eq_getElem hlt
  refine ⟨c, k, i, f, a, cell, cell.slots[f.slot], hc, hi, hst, ha, hcell, hs, hcls, hlt, hty, hv, ?_, (Array.getElem?_eq_some_iff.mp hcell).1⟩
  simp only [Cond.before, Cond.holds, Cond.value, he, hv] at hr
  generalize cell.slots[f.slot] = w at hr
  cases w <;> simp at hr <;> simp
/-- words that live through calls by laws of their own -/
def nD : List MethodName := [⟨"java/lang/RuntimeException", "<init>", "()V"⟩, ⟨"java/lang/RuntimeException", "<init>", "(Ljava/lang/String;)V"⟩, ⟨"java/lang/Exception", "<init>", "()V"⟩, ⟨"java/lang/Exception", "<init>", "(Ljava/lang/String;)V"⟩, ⟨"java/lang/Throwable", "<init>", "()V"⟩, ⟨"java/lang/Throwable", "<init>", "(Ljava/lang/String;)V"⟩]
def nC : List (String × String) := [("java/lang/IllegalArgumentException", "java/lang/IllegalArgumentException"), ("java/lang/IllegalStateException", "java/lang/IllegalStateException"), ("java/lang/IndexOutOfBoundsException", "java/lang/IndexOutOfBoundsException")]
def nN : List (String × Nat × MethodName × String) := [("MatchPipe$Program", 39, ⟨"MatchPipe$State", "<init>", "()V"⟩, "MatchPipe"), ("MatchPipe$Program", 40, ⟨"MatchPipe$Action", "<init>", "()V"⟩, "MatchPipe"), ("MatchPipe$Table", 17, ⟨"MatchPipe$Entry", "<init>", "()V"⟩, "MatchPipe"), ("MatchPipe$Program", 42, ⟨"MatchPipe$Step", "<init>", "()V"⟩, "MatchPipe"), ("MatchPipe$Line", 20, ⟨"MatchPipe$Layout", "<init>", "()V"⟩, "MatchPipe"), ("MatchPipe$Line", 44, ⟨"MatchPipe$Operation", "<init>", "()V"⟩, "MatchPipe"), ("MatchPipe$Operation", 11, ⟨"MatchPipe$Entry", "<init>", "()V"⟩, "MatchPipe"), ("MatchPipe$Operation", 20, ⟨"MatchPipe$Bits", "<init>", "()V"⟩, "MatchPipe"), ("MatchPipe$Line", 45, ⟨"MatchPipe$Header", "<init>", "()V"⟩, "MatchPipe"), ("MatchPipe", 28, ⟨"MatchPipe$Entry", "<init>", "()V"⟩, "MatchPipe"), ("MatchPipe", 35, ⟨"MatchPipe$Bits", "<init>", "()V"⟩, "MatchPipe"), ("MatchPipe$Layout", 76, ⟨"MatchPipe", "hasBit", "(II)Z"⟩, "MatchPipe"), ("MatchPipe$Program", 87, ⟨"MatchPipe", "hasBit", "(II)Z"⟩, "MatchPipe"), ("MatchPipe$Header", 77, ⟨"MatchPipe", "hasBit", "(II)Z"⟩, "MatchPipe"), ("MatchPipe$Table", 63, ⟨"MatchPipe", "hasBit", "(II)Z"⟩, "MatchPipe")]
def nX : List (String × String) := [("java/lang/IllegalArgumentException", "java/lang/IllegalStateException"), ("java/lang/IllegalArgumentException", "java/lang/IndexOutOfBoundsException"), ("java/lang/IllegalStateException", "java/lang/IllegalArgumentException"), ("java/lang/IllegalStateException", "java/lang/IndexOutOfBoundsException"), ("java/lang/IndexOutOfBoundsException", "java/lang/IllegalArgumentException"), ("java/lang/IndexOutOfBoundsException", "java/lang/IllegalStateException")]
def kOK (D : va_G) (dA : Nat → ClassId) (B : Nat) (U : State) : Prop := va_K D classes (tyL dA) U ∧ (∀ C ∈ [nR2, nR3, nR4, nR5, nR6, nR9, nR11], va_AO C U) ∧ (∀ q ∈ strs, ∃ a, vk_R q.1 q.2.1 q.2.2 a U) ∧ zOK "UNASSIGNED_STACK" "[Ljava/lang/StackTraceElement;" B U ∧ zOK "SUPPRESSED_SENTINEL" "Ljava/util/List;" B U ∧ (∀ x ∈ nD, va_Nw (.declares x) U) ∧ (∀ q ∈ nC, va_Nw (.castable q.1 q.2) U) ∧ (∀ q ∈ nN, va_Nw (.methodLinkNest q.1 q.2.1 q.2.2.1 q.2.2.2) U) ∧ (∀ q ∈ nX, va_Nc q.1 q.2 U)
def gOK (Γ : vG) (θ : tM) : Prop := (gp Γ).tables.exec = Jvm.exec ∧ (gc Γ).code = tC θ ∧ (gc Γ).maxLocals = tL θ ∧ (gs Γ).vm.findClass (tO θ) = some (gm Γ).cls ∧ (∀ w ∈ gT, w.before (ga Γ) (gs Γ) = true) ∧ kOK (gD Γ) (gA Γ) (gB Γ) (gs Γ) ∧ (gme Γ).locks = false ∧ (gme Γ).name = tN' θ ∧ (gme Γ).sig.returnType = tR θ ∧ (gc Γ).exceptionTable.toList = tableOf (tH θ) ∧ (ge Γ).platform.stackTraces = false ∧ gB Γ ≤ (gs Γ).heap.size
theorem gOK.ex {Γ : vG} {θ : tM} (h : gOK Γ θ) : (gp Γ).tables.exec = Jvm.exec := h.1
theorem gOK.by {Γ : vG} {θ : tM} (h : gOK Γ θ) : (gc Γ).code = tC θ := h.2.1
theorem gOK.ml {Γ : vG} {θ : tM} (h : gOK Γ θ) : (gc Γ).maxLocals = tL θ := h.2.2.1
theorem gOK.ow {Γ : vG} {θ : tM} (h : gOK Γ θ) : (gs Γ).vm.findClass (tO θ) = some (gm Γ).cls := h.2.2.2.1
theorem gOK.ts {Γ : vG} {θ : tM} (h : gOK Γ θ) : ∀ w ∈ gT, w.before (ga Γ) (gs Γ) = true := h.2.2.2.2.1
theorem gOK.kk {Γ : vG} {θ : tM} (h : gOK Γ θ) : kOK (gD Γ) (gA Γ) (gB Γ) (gs Γ) := h.2.2.2.2.2.1
theorem gOK.lk {Γ : vG} {θ : tM} (h : gOK Γ θ) : (gme Γ).locks = false := h.2.2.2.2.2.2.1
theorem gOK.nm {Γ : vG} {θ : tM} (h : gOK Γ θ) : (gme Γ).name = tN' θ := h.2.2.2.2.2.2.2.1
theorem gOK.rt {Γ : vG} {θ : tM} (h : gOK Γ θ) : (gme Γ).sig.returnType = tR θ := h.2.2.2.2.2.2.2.2.1
theorem gOK.et {Γ : vG} {θ : tM} (h : gOK Γ θ) : (gc Γ).exceptionTable.toList = tableOf (tH θ) := h.2.2.2.2.2.2.2.2.2.1
theorem gOK.tr {Γ : vG} {θ : tM} (h : gOK Γ θ) : (ge Γ).platform.stackTraces = false := h.2.2.2.2.2.2.2.2.2.2.1
theorem gOK.hB {Γ : vG} {θ : tM} (h : gOK Γ θ) : gB Γ ≤ (gs Γ).heap.size := h.2.2.2.2.2.2.2.2.2.2.2
abbrev vW (Γ : vG) (H : Heap) (locs : List Loc) (ce sl : Nat) (Q : State → Prop) (g : JFrame) : Prop := W (gp Γ) (gl Γ) (ge Γ) (gR Γ) (gs Γ) (gm Γ) (ga Γ) (gb Γ) (gme Γ) (gc Γ) H locs ce sl Q g
/-- the heap at a point of the walk -/
def hOK (Γ : vG) (S : Sx) (H : Heap) (locs : List Loc) : Prop := mOK (gD Γ) (gA Γ) (gB Γ) S H ∧ (∀ q : Nat, q < gB Γ → H[q]? = (gs Γ).heap[q]?) ∧ (∀ q ∈ locs, gB Γ ≤ q.base) ∧ (gs Γ).heap.size ≤ H.size
def vV (Γ : vG) (θ : tM) (Q : State → Prop) (S : Sx) (ce sl pc : Nat) (L : List (Nat × Value)) (st : List Value) : Prop :=
  gOK Γ θ → ∀ (H : Heap) (locs : List Loc) (ls : Array Slot), hOK Γ S H locs → lv_has ls (tL θ) L → vW Γ H locs ce sl Q (F0 (gm Γ) pc ls st)
section VROWS
variable {Γ : vG} {θ : tM} {Q : State → Prop} {S : Sx} {ce sl pc : Nat} {L : List (Nat × Value)} {st : List Value}
theorem v_iconst {n : Int} {v : Int32} (hd : decode (tC θ) pc = .ok (.iconst n, 1)) (hv : Int32.ofInt n = v) (k : vV Γ θ Q S ce sl (pc + 1) L (.int v :: st)) : vV Γ θ Q S ce sl pc L (st) :=
  fun g H locs ls h hl => lv_iconst g.ex g.by hd hv (k g H locs ls h hl)
theorem v_bipush {n : Int} {v : Int32} (hd : decode (tC θ) pc = .ok (.bipush n, 2)) (hv : (Int8.ofInt n).toInt32 = v) (k : vV Γ θ Q S ce sl (pc + 2) L (.int v :: st)) : vV Γ θ Q S ce sl pc L (st) :=
  fun g H locs ls h hl => lv_bipush g.ex g.by hd hv (k g H locs ls h hl)
theorem v_sipush {n : Int} {v : Int32} (hd : decode (tC θ) pc = .ok (.sipush n, 3)) (hv : (Int16.ofInt n).toInt32 = v) (k : vV Γ θ Q S ce sl (pc + 3) L (.int v :: st)) : vV Γ θ Q S ce sl pc L (st) :=
  fun g H locs ls h hl => lv_sipush g.ex g.by hd hv (k g H locs ls h hl)
theorem v_lconst {n : Fin 2} {v : Int64} (hd : decode (tC θ) pc = .ok (.lconst n, 1)) (hv : Int64.ofNat (n : Nat) = v) (k : vV Γ θ Q S ce sl (pc + 1) L (.long v :: st)) : vV Γ θ Q S ce sl pc L (st) :=
  fun g H locs ls h hl => lv_lconst g.ex g.by hd hv (k g H locs ls h hl)
theorem v_null (hd : decode (tC θ) pc = .ok (.aconst_null, 1)) (k : vV Γ θ Q S ce sl (pc + 1) L (.null :: st)) : vV Γ θ Q S ce sl pc L (st) :=
  fun g H locs ls h hl => lv_null g.ex g.by hd (k g H locs ls h hl)
/-- a local, by its place in the list -/
theorem v_iload_n {k : Fin 4} {i : Nat} {x : Int32} (hd : decode (tC θ) pc = .ok (.iload_n k, 1)) (j : Nat) (hi : (k : Nat) = i) (hj : L[j]? = some (i, .int x)) (kk : vV Γ θ Q S ce sl (pc + 1) L (.int x :: st)) : vV Γ θ Q S ce sl pc L st :=
  fun g H locs ls h hl => lv_iload_n g.ex g.by hd hi (lv_at hl j hj) (kk g H locs ls h hl)
theorem v_iload {i : Nat} {x : Int32} (hd : decode (tC θ) pc = .ok (.iload i, 2)) (j : Nat) (hj : L[j]? = some (i, .int x)) (kk : vV Γ θ Q S ce sl (pc + 2) L (.int x :: st)) : vV Γ θ Q S ce sl pc L st :=
  fun g H locs ls h hl => lv_iload g.ex g.by hd (lv_at hl j hj) (kk g H locs ls h hl)
theorem v_lload_n {k : Fin 4} {i : Nat} {x : Int64} (hd : decode (tC θ) pc = .ok (.lload_n k, 1)) (j : Nat) (hi : (k : Nat) = i) (hj : L[j]? = some (i, .long x)) (kk : vV Γ θ Q S ce sl (pc + 1) L (.long x :: st)) : vV Γ θ Q S ce sl pc L st :=
  fun g H locs ls h hl => lv_lload_n g.ex g.by hd hi (lv_at hl j hj) (kk g H locs ls h hl)
theorem v_lload {i : Nat} {x : Int64} (hd : decode (tC θ) pc = .ok (.lload i, 2)) (j : Nat) (hj : L[j]? = some (i, .long x)) (kk : vV Γ θ Q S ce sl (pc + 2) L (.long x :: st)) : vV Γ θ Q S ce sl pc L st :=
  fun g H locs ls h hl => lv_lload g.ex g.by hd (lv_at hl j hj) (kk g H locs ls h hl)
theorem v_aload_n {k : Fin 4} {i : Nat} {x : Nat} (hd : decode (tC θ) pc = .ok (.aload_n k, 1)) (j : Nat) (hi : (k : Nat) = i) (hj : L[j]? = some (i, .ref x)) (kk : vV Γ θ Q S ce sl (pc + 1) L (.ref x :: st)) : vV Γ θ Q S ce sl pc L st :=
  fun g H locs ls h hl => lv_aload_n g.ex g.by hd hi (lv_at hl j hj) (kk g H locs ls h hl)
theorem v_aload {i : Nat} {x : Nat} (hd : decode (tC θ) pc = .ok (.aload i, 2)) (j : Nat) (hj : L[j]? = some (i, .ref x)) (kk : vV Γ θ Q S ce sl (pc + 2) L (.ref x :: st)) : vV Γ θ Q S ce sl pc L st :=
  fun g H locs ls h hl => lv_aload g.ex g.by hd (lv_at hl j hj) (kk g H locs ls h hl)
theorem v_aload_nq {k : Fin 4} {i : Nat} {x : Option Nat} (hd : decode (tC θ) pc = .ok (.aload_n k, 1)) (j : Nat) (hi : (k : Nat) = i) (hj : L[j]? = some (i, va_rf x)) (kk : vV Γ θ Q S ce sl (pc + 1) L (va_rf x :: st)) : vV Γ θ Q S ce sl pc L st := by
  cases x with
  | none => exact fun g H locs ls h hl => lv_aload_nN g.ex g.by hd hi (lv_at hl j hj) (kk g H locs ls h hl)
  | some x => exact fun g H locs ls h hl => lv_aload_n g.ex g.by hd hi (lv_at hl j hj) (kk g H locs ls h hl)
theorem v_aloadq {i : Nat} {x : Option Nat} (hd : decode (tC θ) pc = .ok (.aload i, 2)) (j : Nat) (hj : L[j]? = some (i, va_rf x)) (kk : vV Γ θ Q S ce sl (pc + 2) L (va_rf x :: st)) : vV Γ θ Q S ce sl pc L st := by
  cases x with
  | none => exact fun g H locs ls h hl => lv_aloadN g.ex g.by hd (lv_at hl j hj) (kk g H locs ls h hl)
  | some x => exact fun g H locs ls h hl => lv_aload g.ex g.by hd (lv_at hl j hj) (kk g H locs ls h hl)
theorem v_istore_n {k : Fin 4} {i : Nat} {x : Int32} (L' : List (Nat × Value)) (hd : decode (tC θ) pc = .ok (.istore_n k, 1)) (hi : (k : Nat) = i) (hn : i < tL θ) (hl' : (i, Value.int x) :: L.filter (fun q => !(q.1 == i) && !(q.1 + 1 == i && q.2.category == 2)) = L') (kk : vV Γ θ Q S ce sl (pc + 1) L' st) : vV Γ θ Q S ce sl pc L (.int x :: st) :=
  fun g H locs ls h hl => lv_istore_n g.ex g.by hd hi hl hn hl' (fun ls h2 => kk g H locs ls h h2)
theorem v_istore {i : Nat} {x : Int32} (L' : List (Nat × Value)) (hd : decode (tC θ) pc = .ok (.istore i, 2)) (hn : i < tL θ) (hl' : (i, Value.int x) :: L.filter (fun q => !(q.1 == i) && !(q.1 + 1 == i && q.2.category == 2)) = L') (kk : vV Γ θ Q S ce sl (pc + 2) L' st) : vV Γ θ Q S ce sl pc L (.int x :: st) :=
  fun g H locs ls h hl => lv_istore g.ex g.by hd hl hn hl' (fun ls h2 => kk g H locs ls h h2)
theorem v_lstore_n {k : Fin 4} {i : Nat} {x : Int64} (L' : List (Nat × Value)) (hd : decode (tC θ) pc = .ok (.lstore_n k, 1)) (hi : (k : Nat) = i) (hn : i + 1 < tL θ) (hl' : (i, Value.long x) :: L.filter (fun q => !(q.1 == i) && (!(q.1 == i + 1) && !(q.1 + 1 == i && q.2.category == 2))) = L') (kk : vV Γ θ Q S ce sl (pc + 1) L' st) : vV Γ θ Q S ce sl pc L (.long x :: st) :=
  fun g H locs ls h hl => lv_lstore_n g.ex g.by hd hi hl hn hl' (fun ls h2 => kk g H locs ls h h2)
theorem v_lstore {i : Nat} {x : Int64} (L' : List (Nat × Value)) (hd : decode (tC θ) pc = .ok (.lstore i, 2)) (hn : i + 1 < tL θ) (hl' : (i, Value.long x) :: L.filter (fun q => !(q.1 == i) && (!(q.1 == i + 1) && !(q.1 + 1 == i && q.2.category == 2))) = L') (kk : vV Γ θ Q S ce sl (pc + 2) L' st) : vV Γ θ Q S ce sl pc L (.long x :: st) :=
  fun g H locs ls h hl => lv_lstore g.ex g.by hd hl hn hl' (fun ls h2 => kk g H locs ls h h2)
theorem v_astore_n {k : Fin 4} {i : Nat} {x : Nat} (L' : List (Nat × Value)) (hd : decode (tC θ) pc = .ok (.astore_n k, 1)) (hi : (k : Nat) = i) (hn : i < tL θ) (hl' : (i, Value.ref x) :: L.filter (fun q => !(q.1 == i) && !(q.1 + 1 == i && q.2.category == 2)) = L') (kk : vV Γ θ Q S ce sl (pc + 1) L' st) : vV Γ θ Q S ce sl pc L (.ref x :: st) :=
  fun g H locs ls h hl => lv_astore_n g.ex g.by hd hi hl hn hl' (fun ls h2 => kk g H locs ls h h2)
theorem v_astore {i : Nat} {x : Nat} (L' : List (Nat × Value)) (hd : decode (tC θ) pc = .ok (.astore i, 2)) (hn : i < tL θ) (hl' : (i, Value.ref x) :: L.filter (fun q => !(q.1 == i) && !(q.1 + 1 == i && q.2.category == 2)) = L') (kk : vV Γ θ Q S ce sl (pc + 2) L' st) : vV Γ θ Q S ce sl pc L (.ref x :: st) :=
  fun g H locs ls h hl => lv_astore g.ex g.by hd hl hn hl' (fun ls h2 => kk g H locs ls h h2)
theorem v_astore_nq {k : Fin 4} {i : Nat} {x : Option Nat} (L' : List (Nat × Value)) (hd : decode (tC θ) pc = .ok (.astore_n k, 1)) (hi : (k : Nat) = i) (hn : i < tL θ) (hl' : (i, va_rf x) :: L.filter (fun q => !(q.1 == i) && !(q.1 + 1 == i && q.2.category == 2)) = L') (kk : vV Γ θ Q S ce sl (pc + 1) L' st) : vV Γ θ Q S ce sl pc L (va_rf x :: st) := by
  cases x with
  | none => exact fun g H locs ls h hl => lv_astore_nN g.ex g.by hd hi hl hn hl' (fun ls h2 => kk g H locs ls h h2)
  | some x => exact fun g H locs ls h hl => lv_astore_n g.ex g.by hd hi hl hn hl' (fun ls h2 => kk g H locs ls h h2)
theorem v_astoreq {i : Nat} {x : Option Nat} (L' : List (Nat × Value)) (hd : decode (tC θ) pc = .ok (.astore i, 2)) (hn : i < tL θ) (hl' : (i, va_rf x) :: L.filter (fun q => !(q.1 == i) && !(q.1 + 1 == i && q.2.category == 2)) = L') (kk : vV Γ θ Q S ce sl (pc + 2) L' st) : vV Γ θ Q S ce sl pc L (va_rf x :: st) := by
  cases x with
  | none => exact fun g H locs ls h hl => lv_astoreN g.ex g.by hd hl hn hl' (fun ls h2 => kk g H locs ls h h2)
  | some x => exact fun g H locs ls h hl => lv_astore g.ex g.by hd hl hn hl' (fun ls h2 => kk g H locs ls h h2)
theorem v_iinc {i j : Nat} {n : Int} {x v : Int32} (L' : List (Nat × Value)) (hd : decode (tC θ) pc = .ok (.iinc i n, 3)) (hj : L[j]? = some (i, .int x)) (hv : x + Int32.ofInt n = v) (hn : i < tL θ) (hl' : (i, Value.int v) :: L.filter (fun q => !(q.1 == i) && !(q.1 + 1 == i && q.2.category == 2)) = L') (kk : vV Γ θ Q S ce sl (pc + 3) L' st) : vV Γ θ Q S ce sl pc L st :=
  fun g H locs ls h hl => lv_iinc g.ex g.by hd hl hj hv hn hl' (fun ls h2 => kk g H locs ls h h2)
theorem v_iadd {x y : Int32} (hd : decode (tC θ) pc = .ok (.iadd, 1)) (k : vV Γ θ Q S ce sl (pc + 1) L (.int (x + y) :: st)) : vV Γ θ Q S ce sl pc L (.int y :: .int x :: st) :=
  fun g H locs ls h hl => lv_iadd g.ex g.by hd (k g H locs ls h hl)
theorem v_isub {x y : Int32} (hd : decode (tC θ) pc = .ok (.isub, 1)) (k : vV Γ θ Q S ce sl (pc + 1) L (.int (x - y) :: st)) : vV Γ θ Q S ce sl pc L (.int y :: .int x :: st) :=
  fun g H locs ls h hl => lv_isub g.ex g.by hd (k g H locs ls h hl)
theorem v_imul {x y : Int32} (hd : decode (tC θ) pc = .ok (.imul, 1)) (k : vV Γ θ Q S ce sl (pc + 1) L (.int (x * y) :: st)) : vV Γ θ Q S ce sl pc L (.int y :: .int x :: st) :=
  fun g H locs ls h hl => lv_imul g.ex g.by hd (k g H locs ls h hl)
theorem v_iand {x y : Int32} (hd : decode (tC θ) pc = .ok (.iand, 1)) (k : vV Γ θ Q S ce sl (pc + 1) L (.int (x &&& y) :: st)) : vV Γ θ Q S ce sl pc L (.int y :: .int x :: st) :=
  fun g H locs ls h hl => lv_iand g.ex g.by hd (k g H locs ls h hl)
theorem v_ior {x y : Int32} (hd : decode (tC θ) pc = .ok (.ior, 1)) (k : vV Γ θ Q S ce sl (pc + 1) L (.int (x ||| y) :: st)) : vV Γ θ Q S ce sl pc L (.int y :: .int x :: st) :=
  fun g H locs ls h hl => lv_ior g.ex g.by hd (k g H locs ls h hl)
theorem v_ixor {x y : Int32} (hd : decode (tC θ) pc = .ok (.ixor, 1)) (k : vV Γ θ Q S ce sl (pc + 1) L (.int (x ^^^ y) :: st)) : vV Γ θ Q S ce sl pc L (.int y :: .int x :: st) :=
  fun g H locs ls h hl => lv_ixor g.ex g.by hd (k g H locs ls h hl)
theorem v_ishl {x y : Int32} (hd : decode (tC θ) pc = .ok (.ishl, 1)) (k : vV Γ θ Q S ce sl (pc + 1) L (.int (x <<< (y &&& 31)) :: st)) : vV Γ θ Q S ce sl pc L (.int y :: .int x :: st) :=
  fun g H locs ls h hl => lv_ishl g.ex g.by hd (k g H locs ls h hl)
theorem v_ishr {x y : Int32} (hd : decode (tC θ) pc = .ok (.ishr, 1)) (k : vV Γ θ Q S ce sl (pc + 1) L (.int (x >>> (y &&& 31)) :: st)) : vV Γ θ Q S ce sl pc L (.int y :: .int x :: st) :=
  fun g H locs ls h hl => lv_ishr g.ex g.by hd (k g H locs ls h hl)
theorem v_idiv {x y : Int32} (hd : decode (tC θ) pc = .ok (.idiv, 1)) (hn : ¬ y = 0) (k : vV Γ θ Q S ce sl (pc + 1) L (.int (x / y) :: st)) : vV Γ θ Q S ce sl pc L (.int y :: .int x :: st) :=
  fun g H locs ls h hl => lv_idiv g.ex g.by hd hn (k g H locs ls h hl)
theorem v_irem {x y : Int32} (hd : decode (tC θ) pc = .ok (.irem, 1)) (hn : ¬ y = 0) (k : vV Γ θ Q S ce sl (pc + 1) L (.int (x - x / y * y) :: st)) : vV Γ θ Q S ce sl pc L (.int y :: .int x :: st) :=
  fun g H locs ls h hl => lv_irem g.ex g.by hd hn (k g H locs ls h hl)
theorem v_ineg {x : Int32} (hd : decode (tC θ) pc = .ok (.ineg, 1)) (k : vV Γ θ Q S ce sl (pc + 1) L (.int (-x) :: st)) : vV Γ θ Q S ce sl pc L (.int x :: st) :=
  fun g H locs ls h hl => lv_ineg g.ex g.by hd (k g H locs ls h hl)
theorem v_ladd {x y : Int64} (hd : decode (tC θ) pc = .ok (.ladd, 1)) (k : vV Γ θ Q S ce sl (pc + 1) L (.long (x + y) :: st)) : vV Γ θ Q S ce sl pc L (.long y :: .long x :: st) :=
  fun g H locs ls h hl => lv_ladd g.ex g.by hd (k g H locs ls h hl)
theorem v_lsub {x y : Int64} (hd : decode (tC θ) pc = .ok (.lsub, 1)) (k : vV Γ θ Q S ce sl (pc + 1) L (.long (x - y) :: st)) : vV Γ θ Q S ce sl pc L (.long y :: .long x :: st) :=
  fun g H locs ls h hl => lv_lsub g.ex g.by hd (k g H locs ls h hl)
theorem v_land {x y : Int64} (hd : decode (tC θ) pc = .ok (.land, 1)) (k : vV Γ θ Q S ce sl (pc + 1) L (.long (x &&& y) :: st)) : vV Γ θ Q S ce sl pc L (.long y :: .long x :: st) :=
  fun g H locs ls h hl => lv_land g.ex g.by hd (k g H locs ls h hl)
theorem v_lor {x y : Int64} (hd : decode (tC θ) pc = .ok (.lor, 1)) (k : vV Γ θ Q S ce sl (pc + 1) L (.long (x ||| y) :: st)) : vV Γ θ Q S ce sl pc L (.long y :: .long x :: st) :=
  fun g H locs ls h hl => lv_lor g.ex g.by hd (k g H locs ls h hl)
theorem v_lxor {x y : Int64} (hd : decode (tC θ) pc = .ok (.lxor, 1)) (k : vV Γ θ Q S ce sl (pc + 1) L (.long (x ^^^ y) :: st)) : vV Γ θ Q S ce sl pc L (.long y :: .long x :: st) :=
  fun g H locs ls h hl => lv_lxor g.ex g.by hd (k g H locs ls h hl)
def iushr (x y : Int32) : Int32 := (x.toUInt32 >>> (y.toUInt32 &&& Int32.toUInt32 31)).toInt32
def lushr (x : Int64) (y : Int32) : Int64 := (x.toUInt64 >>> (y.toInt64.toUInt64 &&& Int64.toUInt64 63)).toInt64
def lshl (x : Int64) (y : Int32) : Int64 := x <<< (y.toInt64 &&& 63)
theorem v_iushr {x y : Int32} (hd : decode (tC θ) pc = .ok (.iushr, 1)) (k : vV Γ θ Q S ce sl (pc + 1) L (.int (iushr x y) :: st)) : vV Γ θ Q S ce sl pc L (.int y :: .int x :: st) :=
  fun g H locs ls h hl => lv_iushr g.ex g.by hd rfl (k g H locs ls h hl)
theorem v_lushr {x : Int64} {y : Int32} (hd : decode (tC θ) pc = .ok (.lushr, 1)) (k : vV Γ θ Q S ce sl (pc + 1) L (.long (lushr x y) :: st)) : vV Γ θ Q S ce sl pc L (.int y :: .long x :: st) :=
  fun g H locs ls h hl => lv_lushr g.ex g.by hd rfl (k g H locs ls h hl)
theorem v_lshl {x : Int64} {y : Int32} (hd : decode (tC θ) pc = .ok (.lshl, 1)) (k : vV Γ θ Q S ce sl (pc + 1) L (.long (lshl x y) :: st)) : vV Γ θ Q S ce sl pc L (.int y :: .long x :: st) :=
  fun g H locs ls h hl => lv_lshl g.ex g.by hd rfl (k g H locs ls h hl)
theorem v_i2l {x : Int32} (hd : decode (tC θ) pc = .ok (.i2l, 1)) (k : vV Γ θ Q S ce sl (pc + 1) L (.long x.toInt64 :: st)) : vV Γ θ Q S ce sl pc L (.int x :: st) :=
  fun g H locs ls h hl => lv_i2l g.ex g.by hd rfl (k g H locs ls h hl)
theorem v_l2i {x : Int64} (hd : decode (tC θ) pc = .ok (.l2i, 1)) (k : vV Γ θ Q S ce sl (pc + 1) L (.int x.toInt32 :: st)) : vV Γ θ Q S ce sl pc L (.long x :: st) :=
  fun g H locs ls h hl => lv_l2i g.ex g.by hd rfl (k g H locs ls h hl)
theorem v_lcmp {x y : Int64} (hd : decode (tC θ) pc = .ok (.lcmp, 1)) (k : vV Γ θ Q S ce sl (pc + 1) L (.int (lg_cmp x y) :: st)) : vV Γ θ Q S ce sl pc L (.long y :: .long x :: st) :=
  fun g H locs ls h hl => W.lcmp g.ex g.by hd (k g H locs ls h hl)
theorem v_dup {va : Value} (hd : decode (tC θ) pc = .ok (.dup, 1)) (hva : va.category = 1) (k : vV Γ θ Q S ce sl (pc + 1) L (va :: va :: st)) : vV Γ θ Q S ce sl pc L (va :: st) :=
  fun g H locs ls h hl => lv_dup g.ex g.by hd hva (k g H locs ls h hl)
theorem v_pop {va : Value} (hd : decode (tC θ) pc = .ok (.pop, 1)) (hva : va.category = 1) (k : vV Γ θ Q S ce sl (pc + 1) L (st)) : vV Γ θ Q S ce sl pc L (va :: st) :=
  fun g H locs ls h hl => lv_pop g.ex g.by hd hva (k g H locs ls h hl)
theorem v_dup_x1 {va vb : Value} (hd : decode (tC θ) pc = .ok (.dup_x1, 1)) (hva : va.category = 1) (hvb : vb.category = 1) (k : vV Γ θ Q S ce sl (pc + 1) L (va :: vb :: va :: st)) : vV Γ θ Q S ce sl pc L (va :: vb :: st) :=
  fun g H locs ls h hl => lv_dup_x1 g.ex g.by hd hva hvb (k g H locs ls h hl)
theorem v_dup2_11 {va vb : Value} (hd : decode (tC θ) pc = .ok (.dup2, 1)) (hva : va.category = 1) (hvb : vb.category = 1) (k : vV Γ θ Q S ce sl (pc + 1) L (va :: vb :: va :: vb :: st)) : vV Γ θ Q S ce sl pc L (va :: vb :: st) :=
  fun g H locs ls h hl => lv_dup2_11 g.ex g.by hd hva hvb (k g H locs ls h hl)
theorem v_if_eq {x : Int32} {off : Int} (tgt : Nat) (hd : decode (tC θ) pc = .ok (.ifCond .eq off, 3)) (ht : (pc : Int) + off = (tgt : Int)) (kt : x = 0 → vV Γ θ Q S ce sl tgt L st) (kf : ¬ x = 0 → vV Γ θ Q S ce sl (pc + 3) L st) : vV Γ θ Q S ce sl pc L (.int x :: st) :=
  fun g H locs ls h hl => lv_if_eq g.ex g.by hd ht (fun q => kt q g H locs ls h hl) (fun q => kf q g H locs ls h hl)
theorem v_if_ne {x : Int32} {off : Int} (tgt : Nat) (hd : decode (tC θ) pc = .ok (.ifCond .ne off, 3)) (ht : (pc : Int) + off = (tgt : Int)) (kt : ¬ x = 0 → vV Γ θ Q S ce sl tgt L st) (kf : x = 0 → vV Γ θ Q S ce sl (pc + 3) L st) : vV Γ θ Q S ce sl pc L (.int x :: st) :=
  fun g H locs ls h hl => lv_if_ne g.ex g.by hd ht (fun q => kt q g H locs ls h hl) (fun q => kf q g H locs ls h hl)
theorem v_if_lt {x : Int32} {off : Int} (tgt : Nat) (hd : decode (tC θ) pc = .ok (.ifCond .lt off, 3)) (ht : (pc : Int) + off = (tgt : Int)) (kt : x < 0 → vV Γ θ Q S ce sl tgt L st) (kf : ¬ x < 0 → vV Γ θ Q S ce sl (pc + 3) L st) : vV Γ θ Q S ce sl pc L (.int x :: st) :=
  fun g H locs ls h hl => lv_if_lt g.ex g.by hd ht (fun q => kt q g H locs ls h hl) (fun q => kf q g H locs ls h hl)
theorem v_if_ge {x : Int32} {off : Int} (tgt : Nat) (hd : decode (tC θ) pc = .ok (.ifCond .ge off, 3)) (ht : (pc : Int) + off = (tgt : Int)) (kt : 0 ≤ x → vV Γ θ Q S ce sl tgt L st) (kf : ¬ 0 ≤ x → vV Γ θ Q S ce sl (pc + 3) L st) : vV Γ θ Q S ce sl pc L (.int x :: st) :=
  fun g H locs ls h hl => lv_if_ge g.ex g.by hd ht (fun q => kt q g H locs ls h hl) (fun q => kf q g H locs ls h hl)
theorem v_if_gt {x : Int32} {off : Int} (tgt : Nat) (hd : decode (tC θ) pc = .ok (.ifCond .gt off, 3)) (ht : (pc : Int) + off = (tgt : Int)) (kt : 0 < x → vV Γ θ Q S ce sl tgt L st) (kf : ¬ 0 < x → vV Γ θ Q S ce sl (pc + 3) L st) : vV Γ θ Q S ce sl pc L (.int x :: st) :=
  fun g H locs ls h hl => lv_if_gt g.ex g.by hd ht (fun q => kt q g H locs ls h hl) (fun q => kf q g H locs ls h hl)
theorem v_if_le {x : Int32} {off : Int} (tgt : Nat) (hd : decode (tC θ) pc = .ok (.ifCond .le off, 3)) (ht : (pc : Int) + off = (tgt : Int)) (kt : x ≤ 0 → vV Γ θ Q S ce sl tgt L st) (kf : ¬ x ≤ 0 → vV Γ θ Q S ce sl (pc + 3) L st) : vV Γ θ Q S ce sl pc L (.int x :: st) :=
  fun g H locs ls h hl => lv_if_le g.ex g.by hd ht (fun q => kt q g H locs ls h hl) (fun q => kf q g H locs ls h hl)
theorem v_icmp_eq {x y : Int32} {off : Int} (tgt : Nat) (hd : decode (tC θ) pc = .ok (.if_icmp .eq off, 3)) (ht : (pc : Int) + off = (tgt : Int)) (kt : x = y → vV Γ θ Q S ce sl tgt L st) (kf : ¬ x = y → vV Γ θ Q S ce sl (pc + 3) L st) : vV Γ θ Q S ce sl pc L (.int y :: .int x :: st) :=
  fun g H locs ls h hl => lv_icmp_eq g.ex g.by hd ht (fun q => kt q g H locs ls h hl) (fun q => kf q g H locs ls h hl)
theorem v_icmp_ne {x y : Int32} {off : Int} (tgt : Nat) (hd : decode (tC θ) pc = .ok (.if_icmp .ne off, 3)) (ht : (pc : Int) + off = (tgt : Int)) (kt : ¬ x = y → vV Γ θ Q S ce sl tgt L st) (kf : x = y → vV Γ θ Q S ce sl (pc + 3) L st) : vV Γ θ Q S ce sl pc L (.int y :: .int x :: st) :=
  fun g H locs ls h hl => lv_icmp_ne g.ex g.by hd ht (fun q => kt q g H locs ls h hl) (fun q => kf q g H locs ls h hl)
theorem v_icmp_lt {x y : Int32} {off : Int} (tgt : Nat) (hd : decode (tC θ) pc = .ok (.if_icmp .lt off, 3)) (ht : (pc : Int) + off = (tgt : Int)) (kt : x < y → vV Γ θ Q S ce sl tgt L st) (kf : ¬ x < y → vV Γ θ Q S ce sl (pc + 3) L st) : vV Γ θ Q S ce sl pc L (.int y :: .int x :: st) :=
  fun g H locs ls h hl => lv_icmp_lt g.ex g.by hd ht (fun q => kt q g H locs ls h hl) (fun q => kf q g H locs ls h hl)
theorem v_icmp_ge {x y : Int32} {off : Int} (tgt : Nat) (hd : decode (tC θ) pc = .ok (.if_icmp .ge off, 3)) (ht : (pc : Int) + off = (tgt : Int)) (kt : y ≤ x → vV Γ θ Q S ce sl tgt L st) (kf : ¬ y ≤ x → vV Γ θ Q S ce sl (pc + 3) L st) : vV Γ θ Q S ce sl pc L (.int y :: .int x :: st) :=
  fun g H locs ls h hl => lv_icmp_ge g.ex g.by hd ht (fun q => kt q g H locs ls h hl) (fun q => kf q g H locs ls h hl)
theorem v_icmp_gt {x y : Int32} {off : Int} (tgt : Nat) (hd : decode (tC θ) pc = .ok (.if_icmp .gt off, 3)) (ht : (pc : Int) + off = (tgt : Int)) (kt : y < x → vV Γ θ Q S ce sl tgt L st) (kf : ¬ y < x → vV Γ θ Q S ce sl (pc + 3) L st) : vV Γ θ Q S ce sl pc L (.int y :: .int x :: st) :=
  fun g H locs ls h hl => lv_icmp_gt g.ex g.by hd ht (fun q => kt q g H locs ls h hl) (fun q => kf q g H locs ls h hl)
theorem v_icmp_le {x y : Int32} {off : Int} (tgt : Nat) (hd : decode (tC θ) pc = .ok (.if_icmp .le off, 3)) (ht : (pc : Int) + off = (tgt : Int)) (kt : x ≤ y → vV Γ θ Q S ce sl tgt L st) (kf : ¬ x ≤ y → vV Γ θ Q S ce sl (pc + 3) L st) : vV Γ θ Q S ce sl pc L (.int y :: .int x :: st) :=
  fun g H locs ls h hl => lv_icmp_le g.ex g.by hd ht (fun q => kt q g H locs ls h hl) (fun q => kf q g H locs ls h hl)
theorem v_goto {off : Int} (tgt : Nat) (hd : decode (tC θ) pc = .ok (.goto off, 3)) (ht : (pc : Int) + off = (tgt : Int)) (k : vV Γ θ Q S ce sl tgt L st) : vV Γ θ Q S ce sl pc L st :=
  fun g H locs ls h hl => lv_goto g.ex g.by hd ht (k g H locs ls h hl)
theorem v_ifnull {x : Option Nat} {off : Int} (tgt : Nat) (hd : decode (tC θ) pc = .ok (.ifnull off, 3)) (ht : (pc : Int) + off = (tgt : Int)) (kt : x = none → vV Γ θ Q S ce sl tgt L st) (kf : ∀ a, x = some a → vV Γ θ Q S ce sl (pc + 3) L st) : vV Γ θ Q S ce sl pc L (va_rf x :: st) := by
  cases x with
  | none => exact fun g H locs ls h hl => lv_ifnullN g.ex g.by hd ht (kt rfl g H locs ls h hl)
  | some x => exact fun g H locs ls h hl => lv_ifnull g.ex g.by hd (kf x rfl g H locs ls h hl)
theorem v_ifnonnull {x : Option Nat} {off : Int} (tgt : Nat) (hd : decode (tC θ) pc = .ok (.ifnonnull off, 3)) (ht : (pc : Int) + off = (tgt : Int)) (kt : ∀ a, x = some a → vV Γ θ Q S ce sl tgt L st) (kf : x = none → vV Γ θ Q S ce sl (pc + 3) L st) : vV Γ θ Q S ce sl pc L (va_rf x :: st) := by
  cases x with
  | none => exact fun g H locs ls h hl => lv_ifnonnullN g.ex g.by hd (kf rfl g H locs ls h hl)
  | some x => exact fun g H locs ls h hl => lv_ifnonnull g.ex g.by hd ht (kt x rfl g H locs ls h hl)
/-- tableswitch: beside its places, at one of them -/
theorem v_tblOut {dflt lo hi : Int} {offs : Array Int} {len : Nat} {x : Int32} (tgt : Nat) (hd : decode (tC θ) pc = .ok (.tableswitch dflt lo hi offs, len)) (h9 : x.toInt < lo ∨ hi < x.toInt) (ht : (pc : Int) + dflt = (tgt : Int)) (k : vV Γ θ Q S ce sl tgt L st) : vV Γ θ Q S ce sl pc L (.int x :: st) :=
  fun g H locs ls h hl => lv_tableOut g.ex g.by hd h9 ht (k g H locs ls h hl)
theorem v_tblIn {dflt lo hi : Int} {offs : Array Int} {len : Nat} {x : Int32} {off : Int} (tgt : Nat) (hd : decode (tC θ) pc = .ok (.tableswitch dflt lo hi offs, len)) (h1 : ¬ x.toInt < lo) (h2 : ¬ hi < x.toInt) (ho : offs[(x.toInt - lo).toNat]? = some off) (ht : (pc : Int) + off = (tgt : Int)) (k : vV Γ θ Q S ce sl tgt L st) : vV Γ θ Q S ce sl pc L (.int x :: st) :=
  fun g H locs ls h hl => lv_tableIn g.ex g.by hd h1 h2 ho ht (k g H locs ls h hl)
theorem v_ldc {idx : Nat} {v : Int32} (hc : Cond.constant (tO θ) idx v ∈ gT) (hd : decode (tC θ) pc = .ok (.ldc idx, 2)) (k : vV Γ θ Q S ce sl (pc + 2) L (.int v :: st)) : vV Γ θ Q S ce sl pc L st :=
  fun g H locs ls h hl => lv_ldc g.ex g.by g.ow (g.ts _ hc) hd (k g H locs ls h hl)
theorem v_ldcw {idx : Nat} {v : Int32} (hc : Cond.constant (tO θ) idx v ∈ gT) (hd : decode (tC θ) pc = .ok (.ldc_w idx, 3)) (k : vV Γ θ Q S ce sl (pc + 3) L (.int v :: st)) : vV Γ θ Q S ce sl pc L st :=
  fun g H locs ls h hl => lv_ldcw g.ex g.by g.ow (g.ts _ hc) hd (k g H locs ls h hl)
theorem v_ldc2 {idx : Nat} {v : Int64} (hc : Cond.constantLong (tO θ) idx v ∈ gT) (hd : decode (tC θ) pc = .ok (.ldc2_w idx, 3)) (k : vV Γ θ Q S ce sl (pc + 3) L (.long v :: st)) : vV Γ θ Q S ce sl pc L st :=
  fun g H locs ls h hl => lv_ldc2 g.ex g.by g.ow (g.ts _ hc) hd (k g H locs ls h hl)
/-- fewer locals, or in another order -/
theorem v_sub (L' : List (Nat × Value)) (ks : List Nat) (hs : lv_pick L ks = L') (k : vV Γ θ Q S ce sl pc L' st) : vV Γ θ Q S ce sl pc L st :=
  fun g H locs ls h hl => k g H locs ls h (lv_sub hl ks hs)
theorem v_wide {ce2 sl2 : Nat} (h1 : ce ≤ ce2) (h2 : sl ≤ sl2) (k : vV Γ θ Q S ce2 sl2 pc L st) : vV Γ θ Q S ce sl pc L st :=
  fun g H locs ls h hl => W.widen h1 h2 (k g H locs ls h hl)
end VROWS
