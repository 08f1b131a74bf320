/-! RETURNS; A CONTRACT OUT OF A WALK; CALLS AT THE JUDGEMENT -/
theorem w_mono {p : Program} {l : Launch} {e : Env} {R : Room} {s : State} {m : MethodId} {args : Array Value} {below : List Frame} {meth : Method} {c : Code} {H : Heap} {locs : List Loc} {cells slots : Nat} {Q Q' : State → Prop} {g : JFrame} (k : W p l e R s m args below meth c H locs cells slots Q g) (f : ∀ t, Q t → Q' t) : W p l e R s m args below meth c H locs cells slots Q' g := by
  intro T hT X
  obtain ⟨t, a, b⟩ := k T hT X
  exact ⟨t, a, f t b⟩
theorem mq_of {Γ : vG} {S : Sx} {H : Heap} {locs : List Loc} {ce sl : Nat} {v : Option Value} (h : hOK Γ S H locs) : ∀ t, MQ (gb Γ) (fun _ _ o t => o = .returned v ∧ t.heap = H) (ga Γ) (gs Γ) ce sl (fun q => gB Γ ≤ q) t → mQ Γ ce sl 0 v S t := by
  rintro t ⟨o, h1, h2, ⟨h3, h4⟩, Lo, ⟨-, h6, h7⟩, h8⟩
  exact ⟨o, h1, h2, Or.inl ⟨rfl, h3⟩, by rw [h4]; exact h.1, fun q hq => by rw [h4]; exact h.2.1 q hq, by rw [h4]; exact h.2.2.2, h6, Lo, h7, h8⟩
section VRET
variable {Γ : vG} {θ : tM} {S : Sx} {ce sl pc : Nat} {L : List (Nat × Value)}
theorem v_iret {v : Int32} (hr : tR θ = some .int) (hd : decode (tC θ) pc = .ok (.ireturn, 1)) : vV Γ θ (mQ Γ ce sl 0 (some (.int v)) S) S ce sl pc L [.int v] :=
  fun g H locs ls h hl => w_mono (W.iret g.ex g.by (g.rt.trans hr) (fun t ht _ => ⟨rfl, ht⟩) h.2.2.1 hd (hlocks := g.lk)) (mq_of h)
theorem v_zret {v : Int32} (hr : tR θ = some .boolean) (hv : v = 0 ∨ v = 1) (hd : decode (tC θ) pc = .ok (.ireturn, 1)) : vV Γ θ (mQ Γ ce sl 0 (some (.int v)) S) S ce sl pc L [.int v] :=
  fun g H locs ls h hl => w_mono (W.zret g.ex g.by (g.rt.trans hr) (by rcases hv with rfl | rfl <;> rfl) (fun t ht _ => ⟨rfl, ht⟩) h.2.2.1 hd (hlocks := g.lk)) (mq_of h)
theorem v_lret {v : Int64} (hr : tR θ = some .long) (hd : decode (tC θ) pc = .ok (.lreturn, 1)) : vV Γ θ (mQ Γ ce sl 0 (some (.long v)) S) S ce sl pc L [.long v] :=
  fun g H locs ls h hl => w_mono (W.lret g.ex g.by (g.rt.trans hr) (fun t ht _ => ⟨rfl, ht⟩) h.2.2.1 hd (hlocks := g.lk)) (mq_of h)
theorem v_vret (hr : tR θ = none) (hd : decode (tC θ) pc = .ok (.return_, 1)) : vV Γ θ (mQ Γ ce sl 0 none S) S ce sl pc L [] :=
  fun g H locs ls h hl => w_mono (W.vret g.ex g.by (g.rt.trans hr) (fun t ht _ => ⟨rfl, ht⟩) h.2.2.1 hd (hlocks := g.lk)) (mq_of h)
theorem v_aret {C : String} {r : Option Nat} (hr : tR θ = some (.object C)) (hd : decode (tC θ) pc = .ok (.areturn, 1)) : vV Γ θ (mQ Γ ce sl 0 (some (va_rf r)) S) S ce sl pc L [va_rf r] :=
  fun g H locs ls h hl => w_mono (W.aret g.ex g.by (g.rt.trans hr) (Or.inl ⟨_, rfl⟩) (va_rf_or r) (fun t ht _ => ⟨rfl, ht⟩) h.2.2.1 hd (hlocks := g.lk)) (mq_of h)
end VRET
/-- a contract, out of the walk of the method's body -/
theorem mx_of {l : Launch} {y : MethodName} {θ : tM} {rm : Room} {mc ms : Nat} {D : va_G} {dA : Nat → ClassId} {B : Nat} {S : Sx} {av : List Value} {k : Nat} {v : Option Value} {S' : Sx} (hl : l.flags = pinnedFlags ++ [noTraceFlag]) (hy : plainName y.cls = true) (hyc : y.cls = tO θ) (hyn : y.name = tN' θ) (hav : (lg_sl av).length ≤ tL θ)
    (body : ∀ Γ : vG, gl Γ = l → gR Γ = rm → gD Γ = D → gA Γ = dA → gB Γ = B → vV Γ θ (mQ Γ mc ms k v S') S 0 0 0 (lv_args 0 av) []) : Mx l y θ rm mc ms D dA B S av k v S' := by
  refine MetFree.of_bodyS (code := tC θ) (maxLocals := tL θ) (ret := tR θ) hy ?_ ?_
  · intro args s m h hn
    have hc := atoms_spec (ws := cOf y θ :: gT) h _ List.mem_cons_self
    unfold cOf at hc
    split at hc
    · obtain ⟨meth, c, h1, h2, h3, h4, h5, h6, -, -⟩ := Cond.code_spec hn hc
      exact ⟨meth, c, h1, h2, h3, h4, h5, h6⟩
    · obtain ⟨m9, meth, c, hn9, h1, h2, h3, h4, -, h5, h6, -⟩ := Cond.codeWith_spec hc
      cases hn.symm.trans hn9
      exact ⟨meth, c, h1, h2, h3, h4, h5, h6⟩
  · intro p e s m args below meth c s₁ Bd hml hP _
    obtain ⟨rfl, hm, hk, hB⟩ := hP
    have hh0 : s₁.heap = s.heap := by rw [Bd.state]; rfl
    have hts : ∀ w ∈ cOf y θ :: gT, w.before av.toArray s = true := atoms_spec (ws := cOf y θ :: gT) Bd.pre
    have X₀ : Stand p l e rm s m av.toArray below meth c s₁ [] 0 0 := Stand.of_body Bd
    have het : c.exceptionTable.toList = tableOf (tH θ) := by
      have hc := hts _ List.mem_cons_self
      unfold cOf at hc
      split at hc
      · rename_i h0
        obtain ⟨meth', c', hm', hc', -, -, -, -, he', -⟩ := Cond.code_spec Bd.named hc
        cases Bd.method.symm.trans hm'
        cases X₀.code.symm.trans hc'
        rw [h0]
        have h2 : c.exceptionTable.size = 0 := by simpa [Array.isEmpty] using he'
        exact List.eq_nil_of_length_eq_zero (by simpa using h2)
      · obtain ⟨m9, meth', c', hn9, h1, h2, h3, h4, h7, h5, h6, -⟩ := Cond.codeWith_spec hc
        cases Bd.named.symm.trans hn9
        cases Bd.method.symm.trans h1
        cases X₀.code.symm.trans h2
        first | exact h7 | (rw [← h7, table_eq])
    have hG : gOK (p, l, e, rm, s, m, av.toArray, below, meth, c, D, dA, B) θ := ⟨Bd.exec, Bd.bytes, hml, by rw [← hyc]; exact findClass_of_methodNamed Bd.named, fun w hw => hts w (List.mem_cons_of_mem _ hw), hk, Bd.notSynchronized, by rw [← hyn]; exact (name_of_methodNamed Bd.named Bd.method).1, Bd.returns, het, Launch.traces_off hl Bd.admits, hB⟩
    have hE := lv_entry av (n := tL θ) hav
    have K : vW (p, l, e, rm, s, m, av.toArray, below, meth, c, D, dA, B) s₁.heap [] 0 0 (mQ (p, l, e, rm, s, m, av.toArray, below, meth, c, D, dA, B) mc ms k v S') (entryFrame m av.toArray (tL θ)) := by
      rw [hh0, lg_entry_eq]
      exact body (p, l, e, rm, s, m, av.toArray, below, meth, c, D, dA, B) rfl rfl rfl rfl rfl hG s.heap [] _ ⟨hm, fun _ _ => rfl, fun q h => (by cases h), Nat.le_refl _⟩ hE
    obtain ⟨t, a1, o, b1, b2, b3⟩ := K s₁ rfl X₀
    exact ⟨t, o, a1, b1, b2, b3⟩
