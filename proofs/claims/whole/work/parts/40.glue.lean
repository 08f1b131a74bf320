/-! THE CLAIM OUT OF ONE PURE SENTENCE: the law's function answers 1 on every script (the skeleton's rows, turned to the judgement vV) -/
def S_0 (Z : Nat) : Sx := (fun _ => none, fun _ _ => 0, fun _ _ => none, fun _ _ => 0, Z)
/-- WHAT IS LEFT: no machine is in it -/
def pure_law : Prop := ∀ (Ln : Nat) (xs : Nat → Int32) (Z : Nat), Ln ≤ 3072 → ∃ S' : Sx, fLw_law Ln xs (S_0 Z) = some (1, S')
def lw_P (b : Addr) (xs : List Int32) (args : Array Value) (s : State) : Prop := args = #[.ref b] ∧ s.IntsAt b xs ∧ xs.length ≤ 3072 ∧ (Jvm.Cond.and given_1 narrow_1).before args s = true
def lw_Q (_ : Array Value) (s : State) (o : Outcome) (t : State) : Prop := o = .returned (some (.int 1)) ∧ Framed s o t [] 601024 7293034
theorem lw_arrP {s : State} {args : Array Value} {ty : FieldType} (h : (Cond.arrayClass ty).before args s = true) (hn : ∀ C, ty ≠ .object C) : ∃ cA : ClassId, ArrOfT s cA ty ∧ va_RA s cA ty := by
  obtain ⟨cA, kA, comp, f1, f2, f3⟩ := Cond.arrayClass_spec h
  refine ⟨cA, fun N z => ⟨(fun k h => by cases h), kA, f2, comp, f3⟩, ?_⟩
  cases ty with
  | object C => exact absurd rfl (hn C)
  | _ => exact f1
theorem lw_arrX {s : State} {C : String} (h : va_AO C s) : ∃ cA : ClassId, ArrOfT s cA (.object C) ∧ va_RA s cA (.object C) := by
  obtain ⟨comp, cA, kA, f1, f2, f3, f4, f5⟩ := Cond.arrayOver_spec h
  exact ⟨cA, fun N z => ⟨(fun k h => by cases h), kA, f3, comp, f4⟩, kA, comp, f3, f4, f1, f5⟩
theorem gT_sub {w : Cond} (h : w ∈ gT) : w ∈ lw_tbl := (List.mem_filter.mp h).1
/-- words that every class can be made by -/
theorem cls_inst : ∀ (k : Nat) (q : vw_C), classes[k]? = some q → Cond.instantiable q.1 q.2.2 ∈ lw_tbl
  | 0, _, h => by cases h; decide +kernel
  | 1, _, h => by cases h; decide +kernel
  | 2, _, h => by cases h; decide +kernel
  | 3, _, h => by cases h; decide +kernel
  | 4, _, h => by cases h; decide +kernel
  | 5, _, h => by cases h; decide +kernel
  | 6, _, h => by cases h; decide +kernel
  | 7, _, h => by cases h; decide +kernel
  | 8, _, h => by cases h; decide +kernel
  | 9, _, h => by cases h; decide +kernel
  | 10, _, h => by cases h; decide +kernel
  | 11, _, h => by cases h; decide +kernel
  | 12, _, h => by cases h; decide +kernel
  | k + 13, _, h => by simp [classes] at h
theorem ao_in : ∀ C ∈ [nR2, nR3, nR4, nR5, nR6, nR9, nR11], Cond.arrayOver (.object C) ∈ lw_tbl := by decide +kernel
theorem str_in : ∀ q ∈ strs, Cond.stringRef q.1 q.2.1 q.2.2 ∈ lw_tbl := by decide +kernel
theorem nD_in : ∀ y ∈ nD, Cond.declares y ∈ lw_tbl := by decide +kernel
theorem nC_in : ∀ q ∈ nC, Cond.castable q.1 q.2 ∈ lw_tbl := by decide +kernel
theorem nN_in : ∀ q ∈ nN, Cond.methodLinkNest q.1 q.2.1 q.2.2.1 q.2.2.2 ∈ lw_tbl := by decide +kernel
theorem nX_in : ∀ q ∈ nX, Cond.not (.castable q.1 q.2) ∈ flatC (Jvm.Cond.and given_1 narrow_1) := by decide +kernel
theorem z1_in : Cond.isRef (.static nThr "UNASSIGNED_STACK" "[Ljava/lang/StackTraceElement;") ∈ flatC (Jvm.Cond.and given_1 narrow_1) := by decide +kernel
theorem z2_in : Cond.isRef (.static nThr "SUPPRESSED_SENTINEL" "Ljava/util/List;") ∈ flatC (Jvm.Cond.and given_1 narrow_1) := by decide +kernel
theorem y1_in : Cond.laysStatic nThr "UNASSIGNED_STACK" "[Ljava/lang/StackTraceElement;" ∈ lw_tbl := by decide +kernel
theorem y2_in : Cond.laysStatic nThr "SUPPRESSED_SENTINEL" "Ljava/util/List;" ∈ lw_tbl := by decide +kernel
theorem lw_kOK {s : State} {args : Array Value} (hts : ∀ w ∈ lw_tbl, w.before args s = true) (hgv : (Jvm.Cond.and given_1 narrow_1).before args s = true) : ∃ (D : va_G) (dA : Nat → ClassId), kOK D dA s.heap.size s := by
  have hs := flat_of_before _ hgv
  have hc : ∀ k : Nat, ∃ p : ClassId × (Nat → Nat), ∀ q : vw_C, classes[k]? = some q → u_Kn s q.1 q.2.1 q.2.2 p.1 p.2 := by
    intro k
    cases hk : classes[k]? with
    | none => exact ⟨(0, fun _ => 0), fun q h => by cases h⟩
    | some q =>
      obtain ⟨ty, c1, c2, c3, c4, c5, c6⟩ := clF_all k q hk
      obtain ⟨cC, iS, h⟩ := u_known (C := q.1) (T := q.2.1) (N := q.2.2) (n := q.2.2) hts (fun w hw => gT_sub (c1 w hw)) (hts _ (cls_inst k q hk))
      exact ⟨(cC, iS), fun q' h' => by cases h'; exact h⟩
  have hao : ∀ C ∈ [nR2, nR3, nR4, nR5, nR6, nR9, nR11], va_AO C s := fun C hC => va_AO.of (hts _ (ao_in C hC))
  obtain ⟨aI0, hI⟩ := lw_arrP (hts _ (gT_sub wArI)) (fun C h => by cases h)
  obtain ⟨aZ0, hZ⟩ := lw_arrP (hts _ (gT_sub wArZ)) (fun C h => by cases h)
  obtain ⟨aJ0, hJ⟩ := lw_arrP (hts _ (gT_sub wArJ)) (fun C h => by cases h)
  obtain ⟨a2, h2⟩ := lw_arrX (hao nR2 (by simp))
  obtain ⟨a3, h3⟩ := lw_arrX (hao nR3 (by simp))
  obtain ⟨a4, h4⟩ := lw_arrX (hao nR4 (by simp))
  obtain ⟨a5, h5⟩ := lw_arrX (hao nR5 (by simp))
  obtain ⟨a6, h6⟩ := lw_arrX (hao nR6 (by simp))
  obtain ⟨a9, h9⟩ := lw_arrX (hao nR9 (by simp))
  obtain ⟨a11, h11⟩ := lw_arrX (hao nR11 (by simp))
  refine ⟨(fun k => (Classical.choose (hc k)).1, fun k => (Classical.choose (hc k)).2), fun k => match k with | 100 => aI0 | 101 => aZ0 | 102 => aJ0 | 202 => a2 | 203 => a3 | 204 => a4 | 205 => a5 | 206 => a6 | 209 => a9 | 211 => a11 | _ => 0, ⟨fun k q h => Classical.choose_spec (hc k) q h, ?_⟩, hao, ?_, zOK.of (hts _ y1_in) (hs _ z1_in), zOK.of (hts _ y2_in) (hs _ z2_in), fun x hx => va_Nw.of rfl (hts _ (nD_in x hx)), fun q hq => va_Nw.of rfl (hts _ (nC_in q hq)), fun q hq => va_Nw.of rfl (hts _ (nN_in q hq)), fun q hq => va_Nc.of (hs _ (nX_in q hq))⟩
  · intro k q hq
    match k, hq with
    | 0, hq => cases hq; exact hI
    | 1, hq => cases hq; exact hZ
    | 2, hq => cases hq; exact hJ
    | 3, hq => cases hq; exact h2
    | 4, hq => cases hq; exact h3
    | 5, hq => cases hq; exact h4
    | 6, hq => cases hq; exact h5
    | 7, hq => cases hq; exact h6
    | 8, hq => cases hq; exact h9
    | 9, hq => cases hq; exact h11
    | k + 10, hq => simp [tyL] at hq
  · intro q hq
    have hr := hts _ (str_in q hq)
    have hcur : ∃ cur, s.vm.findClass q.1 = some cur := by
      have h1 := hr
      simp only [Cond.before, Cond.holds, Cond.value] at h1
      cases hc : s.vm.findClass q.1 with
      | none => simp [hc] at h1
      | some cur => exact ⟨cur, rfl⟩
    obtain ⟨cur, hcur⟩ := hcur
    obtain ⟨k, cf, i, a, hk, hcf, hcp, -, hr2, hev⟩ := Cond.stringRef_spec hcur hr
    exact ⟨a, vk_R.of hr hev⟩
set_option maxHeartbeats 4000000 in
theorem lw_walk (hpure : pure_law) (l : Launch) (hfl : l.flags = flags0) (b : Addr) (xs : List Int32) : MetFree l x (headSpec (Jvm.Cond.code x code maxLocals ret :: tables_1) room_1) (lw_P b xs) (fun _ _ _ _ _ => True) lw_Q := by
  refine MetFree.of_bodyS (code := code) (maxLocals := maxLocals) (ret := ret) (by decide) ?_ ?_
  · intro args s m h hn
    obtain ⟨meth, c, h1, h2, h3, h4, h5, h6, -, -⟩ := Cond.code_spec hn (atoms_spec (ws := Jvm.Cond.code x code maxLocals ret :: tables_1) h _ List.mem_cons_self)
    exact ⟨meth, c, h1, h2, h3, h4, h5, h6⟩
  · intro p e s m args below meth c s₁ B hml0 hP _
    obtain ⟨rfl, hx, hbd, hgv⟩ := hP
    obtain ⟨scr, harrAt, hlist, hof, hsmall⟩ := hx
    obtain ⟨hcb, hkn, -, -⟩ := State.arrayAt?_spec harrAt
    have hown : s.vm.findClass "MatchPipeLaw" = some m.cls := findClass_of_methodNamed B.named
    have hts0 : ∀ c ∈ (Jvm.Cond.code x code maxLocals ret :: tables_1), c.before #[Value.ref b] s = true := atoms_spec (ws := Jvm.Cond.code x code maxLocals ret :: tables_1) B.pre
    have hts : ∀ w ∈ lw_tbl, w.before #[Value.ref b] s = true := k2_hts_sels lw_privs (fun w hw => hts0 w (List.mem_cons_of_mem _ hw)) lw_privs_ok
    have hml : c.maxLocals = 7 := B.maxLocals_eq (hts0 _ List.mem_cons_self)
    have X₀ : Stand p l e room_1 s m #[Value.ref b] below meth c s₁ [] 0 0 := Stand.of_body B
    have hh0 : s₁.heap = s.heap := by rw [B.state]; rfl
    have hsz : scr.slots.size = xs.length := by rw [← Array.length_toList, hlist, List.length_map]
    have hval : ∀ j : Nat, j < xs.length → scr.slots[j]? = some (.int (xs.getD j 0)) := fun j hj => by
      rw [← Array.getElem?_toList, hlist]
      simp [hj]
    have hbl : b < s.heap.size := (Array.getElem?_eq_some_iff.mp hcb).1
    have hX : va_X b xs.length (fun j => xs.getD j 0) s s.heap := ⟨scr, hcb, hof, hkn, hsz, hval⟩
    obtain ⟨D, dA, hk⟩ := lw_kOK hts hgv
    have het : c.exceptionTable.toList = tableOf [] := by
      obtain ⟨meth', c', hm', hc', -, -, -, -, he', -⟩ := Cond.code_spec B.named (hts0 _ List.mem_cons_self)
      cases B.method.symm.trans hm'
      cases X₀.code.symm.trans hc'
      have h2 : c.exceptionTable.size = 0 := by simpa [Array.isEmpty] using he'
      exact List.eq_nil_of_length_eq_zero (by simpa using h2)
    have hG : gOK (p, l, e, room_1, s, m, #[Value.ref b], below, meth, c, D, dA, s.heap.size) tLw_law := ⟨B.exec, B.bytes, hml, hown, fun w hw => hts w (gT_sub hw), hk, B.notSynchronized, (name_of_methodNamed B.named B.method).1, B.returns, het, Launch.traces_off hfl B.admits, Nat.le_refl _⟩
    obtain ⟨S', hS'⟩ := hpure xs.length (fun j => xs.getD j 0) s.heap.size hbd
    have hE := lv_entry [Value.ref b] (n := 7) (Nat.le_of_ble_eq_true rfl)
    have K : vW (p, l, e, room_1, s, m, #[Value.ref b], below, meth, c, D, dA, s.heap.size) s₁.heap [] 0 0 (mQ (p, l, e, room_1, s, m, #[Value.ref b], below, meth, c, D, dA, s.heap.size) 9208 70275 0 (some (.int 1)) S') (entryFrame m ([Value.ref b] : List Value).toArray 7) := by
      rw [hh0, lg_entry_eq]
      exact wLw_law (Γ := (p, l, e, room_1, s, m, #[Value.ref b], below, meth, c, D, dA, s.heap.size)) rfl hfl ⟨hX, hbl⟩ (S_0 s.heap.size) hS' hG s.heap [] _ ⟨⟨rfl, fun a kd n h => by cases h⟩, fun _ _ => rfl, fun q h => (by cases h), Nat.le_refl _⟩ hE
    obtain ⟨t, a1, o, b1, b2, ho, -, -, -, hWt, Lo, hsb, hLo⟩ := K s₁ rfl X₀
    refine ⟨t, o, a1, b1, b2, ?_⟩
    rcases ho with ⟨-, ho⟩ | ⟨h9, -⟩
    · refine ⟨ho, ⟨_, ho⟩, hWt, (hsb.weaken (fun y hy hlt => ?_) (by decide) (by decide))⟩
      exact absurd hlt (Nat.not_lt.mpr (hLo y hy))
    · exact absurd rfl h9
theorem lw_pre_spec {args : Array Value} {s : State} (h : (Jvm.Cond.and given_1 narrow_1).before args s = true) (hr : rest_1_c.before args s = true) : ∃ (b : Addr) (xs : List Int32), lw_P b xs args s := by
  have hs := flat_of_before _ h
  have hq := flat_of_before _ hr
  have hc : (Cond.count 1).before args s = true := hs _ (by decide +kernel)
  have harr : (Cond.arrayOf (.arg 0) .int).before args s = true := hs _ (by decide +kernel)
  have hle : (Cond.le (.length (.arg 0)) (.int 3072)).before args s = true := hs _ (by decide +kernel)
  have hlen : (Cond.isInt (.length (.arg 0))).before args s = true := hq _ (by decide +kernel)
  have hall : (Cond.all (.arg 0) (.isInt (.elem (.arg 0) (.index 0)))).before args s = true := hq _ (by decide +kernel)
  obtain ⟨b, xs, hb, hx⟩ := State.ints_of_pre rfl harr hlen hall
  have hsm : xs.length < 2 ^ 31 := hx.choose_spec.2.2.2
  have hev : (Term.length (.arg 0)).eval args s none [] s = some (.int xs.length.toInt32) := hx.length_eval hb
  have hv := Cond.le_ints hev (show (Term.int 3072).eval args s none [] s = some (.int 3072) from rfl)
  have hd : xs.length.toInt32 ≤ 3072 := by
    simpa [Cond.before, Cond.holds, hv] using hle
  have hN : xs.length ≤ 3072 := (Int32.ofNat_le_ofNat hsm (by decide)).mp (show Int32.ofNat xs.length ≤ Int32.ofNat 3072 from hd)
  exact ⟨b, xs, Cond.one_arg hc (show args[0]? = some (.ref b) from hb), hx, hN, h⟩
theorem lw_comes (hpure : pure_law) (l : Launch) (hfl : l.flags = flags0) : Comes l x (Jvm.Cond.code x code maxLocals ret :: tables_1) room_1 (fun tb e args s => Calls_1 tb e args s ∧ rest_1 tb e args s ∧ Pre_1 tb e args s)
    (fun _ _ args s o t => lw_Q args s o t) := by
  intro p e ha hc hk s m args below hf hfit hheap happ hpre
  obtain ⟨b, xs, hP⟩ := lw_pre_spec hpre.2.2 hpre.2.1
  obtain ⟨k, o, h1, h2, h3, hQ⟩ := lw_walk hpure l hfl b xs p e ha hc hk s m args below hf ((Spec.applies_iff_loose hf).mp happ).1 hP trivial
  exact ⟨k, o, h1, h2, h3, hQ⟩
theorem lw_frame {s t : State} {o : Outcome} {args : Array Value} (h : Framed s o t [] 601024 7293034) :
    Framed s o t (fieldLocs frame_1_writes args s ++ arrayLocs frame_1_arrays args s ++ staticLocs frame_1_statics s) 601024 7293034 := h
theorem lw_limb (hpure : pure_law) (L : Cond) (hL : ∀ (args : Array Value) (s t : State), L.after args s (.returned (some (.int 1))) t = true) :
    ArmFor flags0 classFile x code maxLocals ret World_1 tables_1 room_1 Calls_1 rest_1 Pre_1
      (fun tb e a s o t => postC L tb e a s o t ∧ Framed s o t (fieldLocs frame_1_writes a s ++ arrayLocs frame_1_arrays a s ++ staticLocs frame_1_statics s) 601024 7293034) := by
  intro l hfl _ _ p e ha hc hk s m args below hf hfit hheap happ hpre
  obtain ⟨k, o, h1, h2, h3, rfl, hF⟩ := lw_comes hpure l hfl p e ha hc hk s m args below hf hfit hheap happ hpre
  exact ⟨k, _, h1, h2, h3, hL args s _, lw_frame hF⟩
/-- the claim, once the pure sentence is proved (its hypothesis is still to be paid) -/
theorem i_vc_open (hpure : pure_law) : Claimed_1_1 ∧ Claimed_1_2 := ⟨lw_limb hpure limb_1_1 (fun args s t => by simp [limb_1_1, Cond.after, Cond.holds, Cond.value]), lw_limb hpure limb_1_2 (fun args s t => Cond.after_iff.mpr (by
  first | (rw [show limb_1_2 = Cond.eq .result (.int 1) from rfl, Cond.eq_ints (x := 1) (y := 1) rfl rfl]; simp; done) | (simp [limb_1_2, Cond.value, Term.eval]; done)))⟩
