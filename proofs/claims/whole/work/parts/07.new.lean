/-! CELLS THAT COME; Object.<init>; System.arraycopy -/
section VNEW
variable {Γ : vG} {θ : tM} {Q : State → Prop} {S : Sx} {ce sl pc : Nat} {L : List (Nat × Value)} {st : List Value}
theorem hOK.push {S' : Sx} {H H1 : Heap} {locs : List Loc} (h : hOK Γ S H locs) (hB : gB Γ ≤ (gs Γ).heap.size) (hz : H1.size = H.size + 1) (ho : ∀ q : Nat, q < H.size → H1[q]? = H[q]?) (hm : mOK (gD Γ) (gA Γ) (gB Γ) S' H1) : hOK Γ S' H1 locs := by
  obtain ⟨h1, h2, h3, h4⟩ := h
  refine ⟨hm, fun q hq => ?_, h3, by omega⟩
  rw [ho q (by omega)]
  exact h2 q hq
/-- 'own#idx' names a class that can be made -/
def okC (own : String) (idx kd : Nat) : Prop := ∃ q : vw_C, classes[kd]? = some q ∧ Cond.classLink own idx q.1 ∈ gT ∧ Cond.instantiable q.1 q.2.2 ∈ gT ∧ Cond.initialized q.1 ∈ gT
theorem v_new {idx kd n : Nat} (hc : okC (tO θ) idx kd) (hn : sN kd = n) (hce : ce + 1 ≤ (gR Γ).cells) (hsl : sl + n ≤ (gR Γ).slots) (hd : decode (tC θ) pc = .ok (.new idx, 3)) (kk : vV Γ θ Q (nw S kd n) (ce + 1) (sl + n) (pc + 3) L (.ref (sZ S) :: st)) : vV Γ θ Q S ce sl pc L st := by
  intro g H locs ls h hl
  obtain ⟨q, hq, k1, k2, k3⟩ := hc
  obtain ⟨ty, c1, c2, c3, c4, c5, c6⟩ := clF_all kd q hq
  subst hn
  rw [← c4] at hsl
  have hKn := g.kk.1.1 kd q hq
  have hcs : sZ S = H.size := h.1.1.symm
  refine W.newcK g.ex g.by g.ow (g.ts _ k1) (g.ts _ k2) (g.ts _ k3) rfl hd hce hsl hKn.2.1 rfl fun H1 kC hkC e1 z1 o1 => ?_
  have hm : mOK (gD Γ) (gA Γ) (gB Γ) (nw S kd (sN kd)) H1 := by
    refine h.1.newc (by rw [hcs]; exact Nat.le_trans g.hB h.2.2.2) z1 o1 ?_
    rw [cE_obj c5]
    refine ⟨q, hq, (u_born ty g.ts c1 hKn hkC e1 c2).to (fun j hj => ?_)⟩
    have hj' : j < sN kd := by rw [← c4]; exact hj
    show defaultValue (ty j) = (flds kd (fun _ => 0) (fun _ => none)).getD j .null
    rw [List.getD_eq_getElem?_getD, flds_get _ _ hj']
    have h0 := c6 j hj
    by_cases h1 : sTy kd j = 1
    · rw [if_pos h1]
      have h2 := h0.2.2.2 h1
      cases hty : ty j <;> rw [hty] at h2 <;> first | rfl | (simp [FieldType.isReference] at h2)
    · rw [if_neg h1]
      have h3 : sTy kd j = 0 ∨ sTy kd j = 2 := by
        rcases (show sTy kd j = 0 ∨ sTy kd j = 2 ∨ (sTy kd j ≠ 0 ∧ sTy kd j ≠ 2) by omega) with h | h | h
        · exact Or.inl h
        · exact Or.inr h
        · exfalso
          have hall : ∀ l ∈ slots_l, ∀ t ∈ l, t = 0 ∨ t = 1 ∨ t = 2 := by decide +kernel
          have hlen : j < (slots_l.getD kd []).length := hj'
          have hkd : kd < slots_l.length := by
            rcases Nat.lt_or_ge kd slots_l.length with h9 | h9
            · exact h9
            · rw [List.getD_eq_getElem?_getD, List.getElem?_eq_none h9] at hlen
              simp at hlen
          have e2 : slots_l.getD kd [] = slots_l[kd] := by rw [List.getD_eq_getElem?_getD, List.getElem?_eq_getElem hkd]; rfl
          have e3 : sTy kd j = (slots_l.getD kd [])[j] := by
            unfold sTy
            rw [List.getD_eq_getElem?_getD, List.getElem?_eq_getElem hlen]; rfl
          have h7 := hall _ (List.getElem_mem hkd) ((slots_l.getD kd [])[j]) (by rw [← e2]; exact List.getElem_mem hlen)
          rw [← e3] at h7
          omega
      rcases h3 with h3 | h3
      · rw [h0.2.1 h3]; rfl
      · rw [h0.2.2.1 h3]; rfl
  rw [← hcs, c4]
  exact kk g H1 locs ls (h.push g.hB z1 o1 hm) hl
/-- newarray of ints, booleans, longs -/
theorem v_newa {kd n t0 : Nat} {at0 : ArrayType} {j : Int32} (hc : Cond.arrayClass (newarray.typeOf at0) ∈ gT) (ht : (tyL (gA Γ))[t0]? = some (gA Γ kd, newarray.typeOf at0)) (hE : ∀ cA : ClassId, cA = gA Γ kd → cE (gA Γ) kd n (fun _ => 0) (fun _ => none) (fun _ => 0) = .inl (cA, n, if at0 = .long then .inr (.inl (fun _ => 0)) else .inl (fun _ => 0))) (hat0 : at0 = .int ∨ at0 = .boolean ∨ at0 = .long) (hj0 : ¬ j < 0) (hj : j.toNatClampNeg = n) (hb : n * 8 ≤ 536870912) (hce : ce + 1 ≤ (gR Γ).cells) (hsl : sl + n ≤ (gR Γ).slots) (hd : decode (tC θ) pc = .ok (.newarray at0, 2)) (kk : vV Γ θ Q (nw S kd n) (ce + 1) (sl + n) (pc + 2) L (.ref (sZ S) :: st)) : vV Γ θ Q S ce sl pc L (.int j :: st) := by
  intro g H locs ls h hl
  have hcs : sZ S = H.size := h.1.1.symm
  have hbb : n * componentBytes (newarray.typeOf at0) ≤ 536870912 := by
    rcases hat0 with rfl | rfl | rfl
    · have : componentBytes (newarray.typeOf .int) = 4 := rfl
      rw [this]; omega
    · have : componentBytes (newarray.typeOf .boolean) = 1 := rfl
      rw [this]; omega
    · have : componentBytes (newarray.typeOf .long) = 8 := rfl
      rw [this]; omega
  refine va_newaK g.ex g.by (g.ts _ hc) rfl hd rfl hj0 hj hbb hce hsl rfl fun H1 cA e1 z1 o1 hAr hNm => ?_
  have hcA : cA = gA Γ kd := by
    have h2 := (g.kk.1.2 t0 _ ht).2
    have h3 : (gs Γ).vm.findClass ("[" ++ (newarray.typeOf at0).toString) = some (gA Γ kd) := by
      rcases hat0 with rfl | rfl | rfl <;> exact h2
    exact Option.some.inj (hNm.symm.trans h3)
  have hm : mOK (gD Γ) (gA Γ) (gB Γ) (nw S kd n) H1 := by
    refine h.1.newc (by rw [hcs]; exact Nat.le_trans g.hB h.2.2.2) z1 o1 ?_
    rw [hE cA hcA]
    show H1[H.size]? = some (vp_cell cA _)
    rw [e1]
    rcases hat0 with rfl | rfl | rfl <;> rfl
  rw [← hcs]
  exact kk g H1 locs ls (h.push g.hB z1 o1 hm) hl
theorem v_newI {n : Nat} {j : Int32} (hc : Cond.arrayClass .int ∈ gT) (hj0 : ¬ j < 0) (hj : j.toNatClampNeg = n) (hb : n * 8 ≤ 536870912) (hce : ce + 1 ≤ (gR Γ).cells) (hsl : sl + n ≤ (gR Γ).slots) (hd : decode (tC θ) pc = .ok (.newarray .int, 2)) (kk : vV Γ θ Q (nw S 100 n) (ce + 1) (sl + n) (pc + 2) L (.ref (sZ S) :: st)) : vV Γ θ Q S ce sl pc L (.int j :: st) :=
  v_newa (t0 := 0) (at0 := .int) hc rfl (fun cA e => by rw [e]; rfl) (Or.inl rfl) hj0 hj hb hce hsl hd kk
theorem v_newZ {n : Nat} {j : Int32} (hc : Cond.arrayClass .boolean ∈ gT) (hj0 : ¬ j < 0) (hj : j.toNatClampNeg = n) (hb : n * 8 ≤ 536870912) (hce : ce + 1 ≤ (gR Γ).cells) (hsl : sl + n ≤ (gR Γ).slots) (hd : decode (tC θ) pc = .ok (.newarray .boolean, 2)) (kk : vV Γ θ Q (nw S 101 n) (ce + 1) (sl + n) (pc + 2) L (.ref (sZ S) :: st)) : vV Γ θ Q S ce sl pc L (.int j :: st) :=
  v_newa (t0 := 1) (at0 := .boolean) hc rfl (fun cA e => by rw [e]; rfl) (Or.inr (Or.inl rfl)) hj0 hj hb hce hsl hd kk
theorem v_newJ {n : Nat} {j : Int32} (hc : Cond.arrayClass .long ∈ gT) (hj0 : ¬ j < 0) (hj : j.toNatClampNeg = n) (hb : n * 8 ≤ 536870912) (hce : ce + 1 ≤ (gR Γ).cells) (hsl : sl + n ≤ (gR Γ).slots) (hd : decode (tC θ) pc = .ok (.newarray .long, 2)) (kk : vV Γ θ Q (nw S 102 n) (ce + 1) (sl + n) (pc + 2) L (.ref (sZ S) :: st)) : vV Γ θ Q S ce sl pc L (.int j :: st) :=
  v_newa (t0 := 2) (at0 := .long) hc rfl (fun cA e => by rw [e]; rfl) (Or.inr (Or.inr rfl)) hj0 hj hb hce hsl hd kk
theorem v_newX {idx kd n t0 : Nat} {j : Int32} {q : vw_C} (ht : tyP kd = some t0) (hq : classes[kd]? = some q) (hc : Cond.classLink (tO θ) idx q.1 ∈ gT) (hj0 : ¬ j < 0) (hj : j.toNatClampNeg = n) (hb : n * 4 ≤ 536870912) (hce : ce + 1 ≤ (gR Γ).cells) (hsl : sl + n ≤ (gR Γ).slots) (hd : decode (tC θ) pc = .ok (.anewarray idx, 3)) (kk : vV Γ θ Q (nw S (200 + kd) n) (ce + 1) (sl + n) (pc + 3) L (.ref (sZ S) :: st)) : vV Γ θ Q S ce sl pc L (.int j :: st) := by
  intro g H locs ls h hl
  have hcs : sZ S = H.size := h.1.1.symm
  obtain ⟨q', hq', htl, hin⟩ := tyP_ok ht (gA Γ)
  cases hq.symm.trans hq'
  have hover := g.kk.2.1 q.1 hin
  subst hj
  refine W.anew g.ex g.by g.ow (g.ts _ hc) (va_AO.use hover) rfl hd rfl hj0 hb hce hsl fun cA kA comp f1 f2 f3 f4 => ?_
  generalize hH1 : H.push ({ cls := cA, slots := Array.replicate j.toNatClampNeg .null, vm := .none } : Cell) = H1
  have z1 : H1.size = H.size + 1 := by rw [← hH1, Array.size_push]
  have e1 : H1[H.size]? = some (arrV cA j.toNatClampNeg (fun _ => .null)) := by rw [← hH1, Array.getElem?_push_size, ← arrV_new]
  have o1 : ∀ q : Nat, q < H.size → H1[q]? = H[q]? := fun q hq => by rw [← hH1, Array.getElem?_push, if_neg (Nat.ne_of_lt hq)]
  have hcA : cA = gA Γ (200 + kd) := by
    obtain ⟨kA', comp', k1, k2, k3, k4⟩ := (g.kk.1.2 t0 _ htl).2
    exact Option.some.inj (f1.symm.trans k4)
  have hm : mOK (gD Γ) (gA Γ) (gB Γ) (nw S (200 + kd) j.toNatClampNeg) H1 := by
    refine h.1.newc (by rw [hcs]; exact Nat.le_trans g.hB h.2.2.2) z1 o1 ?_
    rw [cE_ref]
    show H1[H.size]? = some (vp_cell _ _)
    rw [vp_cell_q, e1, hcA]
    rfl
  show vW Γ H1 locs (ce + 1) (sl + j.toNatClampNeg) Q (F0 (gm Γ) (pc + 3) ls (.ref H.size :: st))
  rw [← hcs]
  exact kk g H1 locs ls (h.push g.hB z1 o1 hm) hl
/-- Object's constructor -/
theorem v_obj {idx a : Nat} (h1 : Cond.methodLink (tO θ) idx Lib.objectInit ∈ gT) (h2 : Cond.instanceMethod Lib.objectInit ∈ gT) (h3 : Cond.code Lib.objectInit ⟨#[0xb1]⟩ 1 none ∈ gT) (hfr : 1 ≤ (gR Γ).frames) (hlo : (st.map fun v => v.category).sum + 12 ≤ (gR Γ).locals) (hd : decode (tC θ) pc = .ok (.invokespecial idx, 3)) (kk : vV Γ θ Q S ce sl (pc + 3) L st) : vV Γ θ Q S ce sl pc L (.ref a :: st) := by
  intro g H locs ls h hl
  refine W.objInit g.ex g.by g.ow (g.ts _ h1) (g.ts _ h2) (g.ts _ h3) rfl (by rw [g.ml]; exact hl.1) rfl hd hfr (by show 2 * 0 + _ + 12 ≤ _; omega) ?_
  exact kk g H locs ls h hl
end VNEW
