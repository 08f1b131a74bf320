theorem oF_Ac_9 : okF "MatchPipe$Action" 9 3 0 1 := ⟨_, rfl, by decide, gT_in 149 (by decide +kernel) rfl, rfl⟩
theorem oF_Ac_15 : okF "MatchPipe$Action" 15 3 1 1 := ⟨_, rfl, by decide, gT_in 151 (by decide +kernel) rfl, rfl⟩
theorem oF_Ac_18 : okF "MatchPipe$Action" 18 3 2 1 := ⟨_, rfl, by decide, gT_in 153 (by decide +kernel) rfl, rfl⟩
theorem oF_Ac_21 : okF "MatchPipe$Action" 21 3 3 1 := ⟨_, rfl, by decide, gT_in 155 (by decide +kernel) rfl, rfl⟩
theorem oF_Ac_24 : okF "MatchPipe$Action" 24 3 4 0 := ⟨_, rfl, by decide, gT_in 157 (by decide +kernel) rfl, rfl⟩
theorem oF_St_15 : okF "MatchPipe$State" 15 2 1 1 := ⟨_, rfl, by decide, gT_in 113 (by decide +kernel) rfl, rfl⟩
theorem oF_St_18 : okF "MatchPipe$State" 18 2 2 1 := ⟨_, rfl, by decide, gT_in 114 (by decide +kernel) rfl, rfl⟩
theorem oF_St_21 : okF "MatchPipe$State" 21 2 3 1 := ⟨_, rfl, by decide, gT_in 115 (by decide +kernel) rfl, rfl⟩
theorem oF_St_24 : okF "MatchPipe$State" 24 2 4 0 := ⟨_, rfl, by decide, gT_in 116 (by decide +kernel) rfl, rfl⟩
theorem oF_St_28 : okF "MatchPipe$State" 28 2 5 0 := ⟨_, rfl, by decide, gT_in 119 (by decide +kernel) rfl, rfl⟩
theorem oF_St_31 : okF "MatchPipe$State" 31 2 6 0 := ⟨_, rfl, by decide, gT_in 121 (by decide +kernel) rfl, rfl⟩
theorem oF_St_34 : okF "MatchPipe$State" 34 2 7 0 := ⟨_, rfl, by decide, gT_in 123 (by decide +kernel) rfl, rfl⟩
/-! java/util/Arrays.fill([II)V -/
def yJA_fill : MethodName := ⟨"java/util/Arrays", "fill", "([II)V"⟩
def tJA_fill : tM := (prog_24_method_103_code, "java/util/Arrays", 4, "fill", none, [])
def rJA_fill : Room := { frames := 0, cells := 0, slots := 0, locals := 0 }
theorem kJA_fill : cOf yJA_fill tJA_fill ∈ gT := gT_in 463 (by decide +kernel) rfl
theorem iJA_fill : Cond.initialized yJA_fill.cls ∈ gT := gT_in 67 (by decide +kernel) rfl
theorem mJA_fill : okM yJA_fill 2 := ⟨by decide, by decide, by unfold nPar; decide +kernel⟩
theorem sJA_fill : Cond.static yJA_fill ∈ gT := gT_in 462 (by decide +kernel) rfl
def fJA_fill_5  : Nat → Nat → Int32 → Int32 → Int32 → Sx → Option (Sx)
  | 0, _, _, _, _, _ => none
  | n + 1, x0, x1, x2, x3, S =>
    if x3 ≤ x2 then
    (some S)
    else
    ((qI S x0 x2 x1).bind fun S1 =>
    fJA_fill_5 n x0 x1 (x2 + 1) x3 S1)
set_option maxRecDepth 100000 in
set_option maxHeartbeats 4000000 in
theorem wJA_fill_5 {Γ : vG} (hR : gR Γ = rJA_fill) (hl : (gl Γ).flags = pinnedFlags ++ [noTraceFlag]) {X : Sx}  : ∀ (n : Nat) (x0 : Nat) (x1 : Int32) (x2 : Int32) (x3 : Int32) (S : Sx), fJA_fill_5  n x0 x1 x2 x3 S = some X → vV Γ tJA_fill (mQ Γ 0 0 0 none X) S 0 0 5 [(0, .ref x0), (1, .int x1), (2, .int x2), (3, .int x3)] [] := by
  intro n
  induction n with
  | zero => intro x0 x1 x2 x3 S h; rw [fJA_fill_5] at h; cases h
  | succ n ih =>
    intro x0 x1 x2 x3 S h
    rw [fJA_fill_5] at h
    refine v_iload_n (pc := 5) (show decode (tC tJA_fill) 5 = .ok (.iload_n 2, 1) by decide +kernel) 2 rfl rfl ?_
    refine v_iload_n (pc := 6) (show decode (tC tJA_fill) 6 = .ok (.iload_n 3, 1) by decide +kernel) 3 rfl rfl ?_
    refine v_icmp_ge (pc := 7) 20 (show decode (tC tJA_fill) 7 = .ok (.if_icmp .ge 13, 3) by decide +kernel) (by decide) (fun c => ?_) (fun c => ?_)
    · replace h := ite_t c h
      obtain rfl := Option.some.inj h
      refine v_wide (ce2 := 0) (sl2 := 0) (by decide) (by decide) ?_
      exact v_vret (pc := 20) rfl (show decode (tC tJA_fill) 20 = .ok (.return_, 1) by decide +kernel)
    · replace h := ite_f c h
      refine v_aload_n (pc := 10) (show decode (tC tJA_fill) 10 = .ok (.aload_n 0, 1) by decide +kernel) 0 rfl rfl ?_
      refine v_iload_n (pc := 11) (show decode (tC tJA_fill) 11 = .ok (.iload_n 2, 1) by decide +kernel) 2 rfl rfl ?_
      refine v_iload_n (pc := 12) (show decode (tC tJA_fill) 12 = .ok (.iload_n 1, 1) by decide +kernel) 1 rfl rfl ?_
      obtain ⟨S1, e2, h⟩ := ob h
      refine v_iast (pc := 13) e2 (show decode (tC tJA_fill) 13 = .ok (.iastore, 1) by decide +kernel) ?_
      refine v_iinc (pc := 14) (j := 2) [(2, .int (x2 + 1)), (0, .ref x0), (1, .int x1), (3, .int x3)] (show decode (tC tJA_fill) 14 = .ok (.iinc 2 1, 3) by decide +kernel) rfl rfl (by decide) rfl ?_
      refine v_goto (pc := 17) 5 (show decode (tC tJA_fill) 17 = .ok (.goto (-12), 3) by decide +kernel) (by decide) ?_
      refine v_sub [(0, .ref x0), (1, .int x1), (2, .int (x2 + 1)), (3, .int x3)] [1, 2, 0, 3] rfl ?_
      exact ih x0 x1 (x2 + 1) x3 S1 h
def fJA_fill (x0 : Nat) (x1 : Int32) (S : Sx) : Option (Sx) :=
    (lnI S x0).bind fun v1 =>
    fJA_fill_5  fuel x0 x1 0 v1 S
set_option maxRecDepth 100000 in
set_option maxHeartbeats 4000000 in
theorem wJA_fill {Γ : vG} (hR : gR Γ = rJA_fill) (hl : (gl Γ).flags = pinnedFlags ++ [noTraceFlag]) (x0 : Nat) (x1 : Int32) (S : Sx) {X : Sx} (h : fJA_fill x0 x1 S = some X) : vV Γ tJA_fill (mQ Γ 0 0 0 none X) S 0 0 0 [(0, .ref x0), (1, .int x1)] [] := by
  unfold fJA_fill at h
  refine v_iconst (pc := 0) (v := 0) (show decode (tC tJA_fill) 0 = .ok (.iconst 0, 1) by decide +kernel) (by decide) ?_
  refine v_istore_n (pc := 1) [(2, .int 0), (0, .ref x0), (1, .int x1)] (show decode (tC tJA_fill) 1 = .ok (.istore_n 2, 1) by decide +kernel) rfl (by decide) rfl ?_
  refine v_aload_n (pc := 2) (show decode (tC tJA_fill) 2 = .ok (.aload_n 0, 1) by decide +kernel) 1 rfl rfl ?_
  obtain ⟨v1, e2, h⟩ := ob h
  refine v_alen (pc := 3) e2 (show decode (tC tJA_fill) 3 = .ok (.arraylength, 1) by decide +kernel) ?_
  refine v_istore_n (pc := 4) [(3, .int v1), (2, .int 0), (0, .ref x0), (1, .int x1)] (show decode (tC tJA_fill) 4 = .ok (.istore_n 3, 1) by decide +kernel) rfl (by decide) rfl ?_
  refine v_sub [(0, .ref x0), (1, .int x1), (2, .int 0), (3, .int v1)] [2, 3, 1, 0] rfl ?_
  exact wJA_fill_5 hR hl  fuel x0 x1 0 v1 S h
theorem cJA_fill {l : Launch} (hl : l.flags = pinnedFlags ++ [noTraceFlag]) {D : va_G} {dA : Nat → ClassId} {B : Nat} {x0 : Nat} {x1 : Int32} {S : Sx} {X : Sx} (h : fJA_fill x0 x1 S = some X) : Mx l yJA_fill tJA_fill rJA_fill 0 0 D dA B S [.ref x0, .int x1] 0 none X :=
  mx_of hl (by decide) rfl rfl (Nat.le_of_ble_eq_true rfl) (fun Γ e1 e2 e3 e4 e5 => by subst e1; subst e3; subst e4; subst e5; exact wJA_fill e2 hl x0 x1 S h)
/-! MatchPipe$State.begin(II)V -/
def ySt_begin : MethodName := ⟨"MatchPipe$State", "begin", "(II)V"⟩
def tSt_begin : tM := (prog_10_method_2_code, "MatchPipe$State", 3, "begin", none, [])
def rSt_begin : Room := { frames := 0, cells := 0, slots := 0, locals := 0 }
theorem kSt_begin : cOf ySt_begin tSt_begin ∈ gT := gT_in 762 (by decide +kernel) rfl
theorem iSt_begin : Cond.initialized ySt_begin.cls ∈ gT := gT_in 58 (by decide +kernel) rfl
theorem mSt_begin : okM ySt_begin 2 := ⟨by decide, by decide, by unfold nPar; decide +kernel⟩
theorem nSt_begin : Cond.instanceMethod ySt_begin ∈ gT := gT_in 760 (by decide +kernel) rfl
theorem lSt_begin : Cond.selects "MatchPipe$State" ySt_begin ySt_begin ∈ gT := gT_in 761 (by decide +kernel) rfl
def fSt_begin (x0 : Nat) (x1 : Int32) (x2 : Int32) (S : Sx) : Option (Sx) :=
    (pI S 2 4 x0 x1).bind fun S1 =>
    (pI S1 2 5 x0 x2).bind fun S3 =>
    (pI S3 2 6 x0 0).bind fun S5 =>
    (pI S5 2 7 x0 (-1)).bind fun S7 =>
    some S7
set_option maxRecDepth 100000 in
set_option maxHeartbeats 4000000 in
theorem wSt_begin {Γ : vG} (hR : gR Γ = rSt_begin) (hl : (gl Γ).flags = pinnedFlags ++ [noTraceFlag]) (x0 : Nat) (x1 : Int32) (x2 : Int32) (S : Sx) {X : Sx} (h : fSt_begin x0 x1 x2 S = some X) : vV Γ tSt_begin (mQ Γ 0 0 0 none X) S 0 0 0 [(0, .ref x0), (1, .int x1), (2, .int x2)] [] := by
  unfold fSt_begin at h
  refine v_aload_n (pc := 0) (show decode (tC tSt_begin) 0 = .ok (.aload_n 0, 1) by decide +kernel) 0 rfl rfl ?_
  refine v_iload_n (pc := 1) (show decode (tC tSt_begin) 1 = .ok (.iload_n 1, 1) by decide +kernel) 1 rfl rfl ?_
  obtain ⟨S1, e2, h⟩ := ob h
  refine v_putI (pc := 2) oF_St_24 (fin_ok (kd := 2) (k := 4) (by decide +kernel)) e2 (show decode (tC tSt_begin) 2 = .ok (.putfield 24, 3) by decide +kernel) ?_
  refine v_aload_n (pc := 5) (show decode (tC tSt_begin) 5 = .ok (.aload_n 0, 1) by decide +kernel) 0 rfl rfl ?_
  refine v_iload_n (pc := 6) (show decode (tC tSt_begin) 6 = .ok (.iload_n 2, 1) by decide +kernel) 2 rfl rfl ?_
  obtain ⟨S3, e4, h⟩ := ob h
  refine v_putI (pc := 7) oF_St_28 (fin_ok (kd := 2) (k := 5) (by decide +kernel)) e4 (show decode (tC tSt_begin) 7 = .ok (.putfield 28, 3) by decide +kernel) ?_
  refine v_aload_n (pc := 10) (show decode (tC tSt_begin) 10 = .ok (.aload_n 0, 1) by decide +kernel) 0 rfl rfl ?_
  refine v_iconst (pc := 11) (v := 0) (show decode (tC tSt_begin) 11 = .ok (.iconst 0, 1) by decide +kernel) (by decide) ?_
  obtain ⟨S5, e6, h⟩ := ob h
  refine v_putI (pc := 12) oF_St_31 (fin_ok (kd := 2) (k := 6) (by decide +kernel)) e6 (show decode (tC tSt_begin) 12 = .ok (.putfield 31, 3) by decide +kernel) ?_
  refine v_aload_n (pc := 15) (show decode (tC tSt_begin) 15 = .ok (.aload_n 0, 1) by decide +kernel) 0 rfl rfl ?_
  refine v_iconst (pc := 16) (v := (-1)) (show decode (tC tSt_begin) 16 = .ok (.iconst (-1), 1) by decide +kernel) (by decide) ?_
  obtain ⟨S7, e8, h⟩ := ob h
  refine v_putI (pc := 17) oF_St_34 (fin_ok (kd := 2) (k := 7) (by decide +kernel)) e8 (show decode (tC tSt_begin) 17 = .ok (.putfield 34, 3) by decide +kernel) ?_
  obtain rfl := Option.some.inj h
  refine v_wide (ce2 := 0) (sl2 := 0) (by decide) (by decide) ?_
  exact v_vret (pc := 20) rfl (show decode (tC tSt_begin) 20 = .ok (.return_, 1) by decide +kernel)
theorem cSt_begin {l : Launch} (hl : l.flags = pinnedFlags ++ [noTraceFlag]) {D : va_G} {dA : Nat → ClassId} {B : Nat} {x0 : Nat} {x1 : Int32} {x2 : Int32} {S : Sx} {X : Sx} (h : fSt_begin x0 x1 x2 S = some X) : Mx l ySt_begin tSt_begin rSt_begin 0 0 D dA B S [.ref x0, .int x1, .int x2] 0 none X :=
  mx_of hl (by decide) rfl rfl (Nat.le_of_ble_eq_true rfl) (fun Γ e1 e2 e3 e4 e5 => by subst e1; subst e3; subst e4; subst e5; exact wSt_begin e2 hl x0 x1 x2 S h)
/-! MatchPipe$State.addCase(III)V -/
def ySt_addCase : MethodName := ⟨"MatchPipe$State", "addCase", "(III)V"⟩
def tSt_addCase : tM := (prog_10_method_3_code, "MatchPipe$State", 4, "addCase", none, [])
def rSt_addCase : Room := { frames := 0, cells := 0, slots := 0, locals := 0 }
theorem kSt_addCase : cOf ySt_addCase tSt_addCase ∈ gT := gT_in 779 (by decide +kernel) rfl
theorem iSt_addCase : Cond.initialized ySt_addCase.cls ∈ gT := gT_in 58 (by decide +kernel) rfl
theorem mSt_addCase : okM ySt_addCase 3 := ⟨by decide, by decide, by unfold nPar; decide +kernel⟩
theorem nSt_addCase : Cond.instanceMethod ySt_addCase ∈ gT := gT_in 777 (by decide +kernel) rfl
theorem lSt_addCase : Cond.selects "MatchPipe$State" ySt_addCase ySt_addCase ∈ gT := gT_in 778 (by decide +kernel) rfl
def fSt_addCase (x0 : Nat) (x1 : Int32) (x2 : Int32) (x3 : Int32) (S : Sx) : Option (Sx) :=
    (gX S 2 1 x0).bind fun v1 =>
    (gI S 2 6 x0).bind fun v3 =>
    (qI S v1 v3 x1).bind fun S5 =>
    (gX S5 2 2 x0).bind fun v7 =>
    (gI S5 2 6 x0).bind fun v9 =>
    (qI S5 v7 v9 x2).bind fun S11 =>
    (gX S11 2 3 x0).bind fun v13 =>
    (gI S11 2 6 x0).bind fun v15 =>
    (qI S11 v13 v15 x3).bind fun S17 =>
    (gI S17 2 6 x0).bind fun v19 =>
    (pI S17 2 6 x0 (v19 + 1)).bind fun S21 =>
    some S21
set_option maxRecDepth 100000 in
set_option maxHeartbeats 4000000 in
theorem wSt_addCase {Γ : vG} (hR : gR Γ = rSt_addCase) (hl : (gl Γ).flags = pinnedFlags ++ [noTraceFlag]) (x0 : Nat) (x1 : Int32) (x2 : Int32) (x3 : Int32) (S : Sx) {X : Sx} (h : fSt_addCase x0 x1 x2 x3 S = some X) : vV Γ tSt_addCase (mQ Γ 0 0 0 none X) S 0 0 0 [(0, .ref x0), (1, .int x1), (2, .int x2), (3, .int x3)] [] := by
  unfold fSt_addCase at h
  refine v_aload_n (pc := 0) (show decode (tC tSt_addCase) 0 = .ok (.aload_n 0, 1) by decide +kernel) 0 rfl rfl ?_
  obtain ⟨v1, e2, h⟩ := ob h
  refine v_getX (pc := 1) oF_St_15 e2 (show decode (tC tSt_addCase) 1 = .ok (.getfield 15, 3) by decide +kernel) ?_
  refine v_aload_n (pc := 4) (show decode (tC tSt_addCase) 4 = .ok (.aload_n 0, 1) by decide +kernel) 0 rfl rfl ?_
  obtain ⟨v3, e4, h⟩ := ob h
  refine v_getI (pc := 5) oF_St_31 (by decide) e4 (show decode (tC tSt_addCase) 5 = .ok (.getfield 31, 3) by decide +kernel) ?_
  refine v_iload_n (pc := 8) (show decode (tC tSt_addCase) 8 = .ok (.iload_n 1, 1) by decide +kernel) 1 rfl rfl ?_
  obtain ⟨S5, e6, h⟩ := ob h
  refine v_iast (pc := 9) e6 (show decode (tC tSt_addCase) 9 = .ok (.iastore, 1) by decide +kernel) ?_
  refine v_aload_n (pc := 10) (show decode (tC tSt_addCase) 10 = .ok (.aload_n 0, 1) by decide +kernel) 0 rfl rfl ?_
  obtain ⟨v7, e8, h⟩ := ob h
  refine v_getX (pc := 11) oF_St_18 e8 (show decode (tC tSt_addCase) 11 = .ok (.getfield 18, 3) by decide +kernel) ?_
  refine v_aload_n (pc := 14) (show decode (tC tSt_addCase) 14 = .ok (.aload_n 0, 1) by decide +kernel) 0 rfl rfl ?_
  obtain ⟨v9, e10, h⟩ := ob h
  refine v_getI (pc := 15) oF_St_31 (by decide) e10 (show decode (tC tSt_addCase) 15 = .ok (.getfield 31, 3) by decide +kernel) ?_
  refine v_iload_n (pc := 18) (show decode (tC tSt_addCase) 18 = .ok (.iload_n 2, 1) by decide +kernel) 2 rfl rfl ?_
  obtain ⟨S11, e12, h⟩ := ob h
  refine v_iast (pc := 19) e12 (show decode (tC tSt_addCase) 19 = .ok (.iastore, 1) by decide +kernel) ?_
  refine v_aload_n (pc := 20) (show decode (tC tSt_addCase) 20 = .ok (.aload_n 0, 1) by decide +kernel) 0 rfl rfl ?_
  obtain ⟨v13, e14, h⟩ := ob h
  refine v_getX (pc := 21) oF_St_21 e14 (show decode (tC tSt_addCase) 21 = .ok (.getfield 21, 3) by decide +kernel) ?_
  refine v_aload_n (pc := 24) (show decode (tC tSt_addCase) 24 = .ok (.aload_n 0, 1) by decide +kernel) 0 rfl rfl ?_
  obtain ⟨v15, e16, h⟩ := ob h
  refine v_getI (pc := 25) oF_St_31 (by decide) e16 (show decode (tC tSt_addCase) 25 = .ok (.getfield 31, 3) by decide +kernel) ?_
  refine v_iload_n (pc := 28) (show decode (tC tSt_addCase) 28 = .ok (.iload_n 3, 1) by decide +kernel) 3 rfl rfl ?_
  obtain ⟨S17, e18, h⟩ := ob h
  refine v_iast (pc := 29) e18 (show decode (tC tSt_addCase) 29 = .ok (.iastore, 1) by decide +kernel) ?_
  refine v_aload_n (pc := 30) (show decode (tC tSt_addCase) 30 = .ok (.aload_n 0, 1) by decide +kernel) 0 rfl rfl ?_
  refine v_dup (pc := 31) (show decode (tC tSt_addCase) 31 = .ok (.dup, 1) by decide +kernel) rfl ?_
  obtain ⟨v19, e20, h⟩ := ob h
  refine v_getI (pc := 32) oF_St_31 (by decide) e20 (show decode (tC tSt_addCase) 32 = .ok (.getfield 31, 3) by decide +kernel) ?_
  refine v_iconst (pc := 35) (v := 1) (show decode (tC tSt_addCase) 35 = .ok (.iconst 1, 1) by decide +kernel) (by decide) ?_
  refine v_iadd (pc := 36) (show decode (tC tSt_addCase) 36 = .ok (.iadd, 1) by decide +kernel) ?_
  obtain ⟨S21, e22, h⟩ := ob h
  refine v_putI (pc := 37) oF_St_31 (fin_ok (kd := 2) (k := 6) (by decide +kernel)) e22 (show decode (tC tSt_addCase) 37 = .ok (.putfield 31, 3) by decide +kernel) ?_
  obtain rfl := Option.some.inj h
  refine v_wide (ce2 := 0) (sl2 := 0) (by decide) (by decide) ?_
  exact v_vret (pc := 40) rfl (show decode (tC tSt_addCase) 40 = .ok (.return_, 1) by decide +kernel)
theorem cSt_addCase {l : Launch} (hl : l.flags = pinnedFlags ++ [noTraceFlag]) {D : va_G} {dA : Nat → ClassId} {B : Nat} {x0 : Nat} {x1 : Int32} {x2 : Int32} {x3 : Int32} {S : Sx} {X : Sx} (h : fSt_addCase x0 x1 x2 x3 S = some X) : Mx l ySt_addCase tSt_addCase rSt_addCase 0 0 D dA B S [.ref x0, .int x1, .int x2, .int x3] 0 none X :=
  mx_of hl (by decide) rfl rfl (Nat.le_of_ble_eq_true rfl) (fun Γ e1 e2 e3 e4 e5 => by subst e1; subst e3; subst e4; subst e5; exact wSt_addCase e2 hl x0 x1 x2 x3 S h)
/-! MatchPipe$Action.addDoing(IIII)V -/
def yAc_addDoing : MethodName := ⟨"MatchPipe$Action", "addDoing", "(IIII)V"⟩
def tAc_addDoing : tM := (prog_2_method_2_code, "MatchPipe$Action", 5, "addDoing", none, [])
def rAc_addDoing : Room := { frames := 0, cells := 0, slots := 0, locals := 0 }
theorem kAc_addDoing : cOf yAc_addDoing tAc_addDoing ∈ gT := gT_in 818 (by decide +kernel) rfl
theorem iAc_addDoing : Cond.initialized yAc_addDoing.cls ∈ gT := gT_in 59 (by decide +kernel) rfl
theorem mAc_addDoing : okM yAc_addDoing 4 := ⟨by decide, by decide, by unfold nPar; decide +kernel⟩
theorem nAc_addDoing : Cond.instanceMethod yAc_addDoing ∈ gT := gT_in 816 (by decide +kernel) rfl
theorem lAc_addDoing : Cond.selects "MatchPipe$Action" yAc_addDoing yAc_addDoing ∈ gT := gT_in 817 (by decide +kernel) rfl
def fAc_addDoing (x0 : Nat) (x1 : Int32) (x2 : Int32) (x3 : Int32) (x4 : Int32) (S : Sx) : Option (Sx) :=
    (gX S 3 0 x0).bind fun v1 =>
    (gI S 3 4 x0).bind fun v3 =>
    (qI S v1 v3 x1).bind fun S5 =>
    (gX S5 3 1 x0).bind fun v7 =>
    (gI S5 3 4 x0).bind fun v9 =>
    (qI S5 v7 v9 x2).bind fun S11 =>
    (gX S11 3 2 x0).bind fun v13 =>
    (gI S11 3 4 x0).bind fun v15 =>
    (qI S11 v13 v15 x3).bind fun S17 =>
    (gX S17 3 3 x0).bind fun v19 =>
    (gI S17 3 4 x0).bind fun v21 =>
    (qI S17 v19 v21 x4).bind fun S23 =>
    (gI S23 3 4 x0).bind fun v25 =>
    (pI S23 3 4 x0 (v25 + 1)).bind fun S27 =>
    some S27
set_option maxRecDepth 100000 in
set_option maxHeartbeats 4000000 in
theorem wAc_addDoing {Γ : vG} (hR : gR Γ = rAc_addDoing) (hl : (gl Γ).flags = pinnedFlags ++ [noTraceFlag]) (x0 : Nat) (x1 : Int32) (x2 : Int32) (x3 : Int32) (x4 : Int32) (S : Sx) {X : Sx} (h : fAc_addDoing x0 x1 x2 x3 x4 S = some X) : vV Γ tAc_addDoing (mQ Γ 0 0 0 none X) S 0 0 0 [(0, .ref x0), (1, .int x1), (2, .int x2), (3, .int x3), (4, .int x4)] [] := by
  unfold fAc_addDoing at h
  refine v_aload_n (pc := 0) (show decode (tC tAc_addDoing) 0 = .ok (.aload_n 0, 1) by decide +kernel) 0 rfl rfl ?_
  obtain ⟨v1, e2, h⟩ := ob h
  refine v_getX (pc := 1) oF_Ac_9 e2 (show decode (tC tAc_addDoing) 1 = .ok (.getfield 9, 3) by decide +kernel) ?_
  refine v_aload_n (pc := 4) (show decode (tC tAc_addDoing) 4 = .ok (.aload_n 0, 1) by decide +kernel) 0 rfl rfl ?_
  obtain ⟨v3, e4, h⟩ := ob h
  refine v_getI (pc := 5) oF_Ac_24 (by decide) e4 (show decode (tC tAc_addDoing) 5 = .ok (.getfield 24, 3) by decide +kernel) ?_
  refine v_iload_n (pc := 8) (show decode (tC tAc_addDoing) 8 = .ok (.iload_n 1, 1) by decide +kernel) 1 rfl rfl ?_
  obtain ⟨S5, e6, h⟩ := ob h
  refine v_iast (pc := 9) e6 (show decode (tC tAc_addDoing) 9 = .ok (.iastore, 1) by decide +kernel) ?_
  refine v_aload_n (pc := 10) (show decode (tC tAc_addDoing) 10 = .ok (.aload_n 0, 1) by decide +kernel) 0 rfl rfl ?_
  obtain ⟨v7, e8, h⟩ := ob h
  refine v_getX (pc := 11) oF_Ac_15 e8 (show decode (tC tAc_addDoing) 11 = .ok (.getfield 15, 3) by decide +kernel) ?_
  refine v_aload_n (pc := 14) (show decode (tC tAc_addDoing) 14 = .ok (.aload_n 0, 1) by decide +kernel) 0 rfl rfl ?_
  obtain ⟨v9, e10, h⟩ := ob h
  refine v_getI (pc := 15) oF_Ac_24 (by decide) e10 (show decode (tC tAc_addDoing) 15 = .ok (.getfield 24, 3) by decide +kernel) ?_
  refine v_iload_n (pc := 18) (show decode (tC tAc_addDoing) 18 = .ok (.iload_n 2, 1) by decide +kernel) 2 rfl rfl ?_
  obtain ⟨S11, e12, h⟩ := ob h
  refine v_iast (pc := 19) e12 (show decode (tC tAc_addDoing) 19 = .ok (.iastore, 1) by decide +kernel) ?_
  refine v_aload_n (pc := 20) (show decode (tC tAc_addDoing) 20 = .ok (.aload_n 0, 1) by decide +kernel) 0 rfl rfl ?_
  obtain ⟨v13, e14, h⟩ := ob h
  refine v_getX (pc := 21) oF_Ac_18 e14 (show decode (tC tAc_addDoing) 21 = .ok (.getfield 18, 3) by decide +kernel) ?_
  refine v_aload_n (pc := 24) (show decode (tC tAc_addDoing) 24 = .ok (.aload_n 0, 1) by decide +kernel) 0 rfl rfl ?_
  obtain ⟨v15, e16, h⟩ := ob h
  refine v_getI (pc := 25) oF_Ac_24 (by decide) e16 (show decode (tC tAc_addDoing) 25 = .ok (.getfield 24, 3) by decide +kernel) ?_
  refine v_iload_n (pc := 28) (show decode (tC tAc_addDoing) 28 = .ok (.iload_n 3, 1) by decide +kernel) 3 rfl rfl ?_
  obtain ⟨S17, e18, h⟩ := ob h
  refine v_iast (pc := 29) e18 (show decode (tC tAc_addDoing) 29 = .ok (.iastore, 1) by decide +kernel) ?_
  refine v_aload_n (pc := 30) (show decode (tC tAc_addDoing) 30 = .ok (.aload_n 0, 1) by decide +kernel) 0 rfl rfl ?_
  obtain ⟨v19, e20, h⟩ := ob h
  refine v_getX (pc := 31) oF_Ac_21 e20 (show decode (tC tAc_addDoing) 31 = .ok (.getfield 21, 3) by decide +kernel) ?_
  refine v_aload_n (pc := 34) (show decode (tC tAc_addDoing) 34 = .ok (.aload_n 0, 1) by decide +kernel) 0 rfl rfl ?_
  obtain ⟨v21, e22, h⟩ := ob h
  refine v_getI (pc := 35) oF_Ac_24 (by decide) e22 (show decode (tC tAc_addDoing) 35 = .ok (.getfield 24, 3) by decide +kernel) ?_
  refine v_iload (pc := 38) (show decode (tC tAc_addDoing) 38 = .ok (.iload 4, 2) by decide +kernel) 4 rfl ?_
  obtain ⟨S23, e24, h⟩ := ob h
  refine v_iast (pc := 40) e24 (show decode (tC tAc_addDoing) 40 = .ok (.iastore, 1) by decide +kernel) ?_
  refine v_aload_n (pc := 41) (show decode (tC tAc_addDoing) 41 = .ok (.aload_n 0, 1) by decide +kernel) 0 rfl rfl ?_
  refine v_dup (pc := 42) (show decode (tC tAc_addDoing) 42 = .ok (.dup, 1) by decide +kernel) rfl ?_
  obtain ⟨v25, e26, h⟩ := ob h
  refine v_getI (pc := 43) oF_Ac_24 (by decide) e26 (show decode (tC tAc_addDoing) 43 = .ok (.getfield 24, 3) by decide +kernel) ?_
  refine v_iconst (pc := 46) (v := 1) (show decode (tC tAc_addDoing) 46 = .ok (.iconst 1, 1) by decide +kernel) (by decide) ?_
  refine v_iadd (pc := 47) (show decode (tC tAc_addDoing) 47 = .ok (.iadd, 1) by decide +kernel) ?_
  obtain ⟨S27, e28, h⟩ := ob h
  refine v_putI (pc := 48) oF_Ac_24 (fin_ok (kd := 3) (k := 4) (by decide +kernel)) e28 (show decode (tC tAc_addDoing) 48 = .ok (.putfield 24, 3) by decide +kernel) ?_
  obtain rfl := Option.some.inj h
  refine v_wide (ce2 := 0) (sl2 := 0) (by decide) (by decide) ?_
  exact v_vret (pc := 51) rfl (show decode (tC tAc_addDoing) 51 = .ok (.return_, 1) by decide +kernel)
theorem cAc_addDoing {l : Launch} (hl : l.flags = pinnedFlags ++ [noTraceFlag]) {D : va_G} {dA : Nat → ClassId} {B : Nat} {x0 : Nat} {x1 : Int32} {x2 : Int32} {x3 : Int32} {x4 : Int32} {S : Sx} {X : Sx} (h : fAc_addDoing x0 x1 x2 x3 x4 S = some X) : Mx l yAc_addDoing tAc_addDoing rAc_addDoing 0 0 D dA B S [.ref x0, .int x1, .int x2, .int x3, .int x4] 0 none X :=
  mx_of hl (by decide) rfl rfl (Nat.le_of_ble_eq_true rfl) (fun Γ e1 e2 e3 e4 e5 => by subst e1; subst e3; subst e4; subst e5; exact wAc_addDoing e2 hl x0 x1 x2 x3 x4 S h)
/-! MatchPipe$State.waysOn()I -/
def ySt_waysOn : MethodName := ⟨"MatchPipe$State", "waysOn", "()I"⟩
def tSt_waysOn : tM := (prog_10_method_6_code, "MatchPipe$State", 3, "waysOn", some .int, [])
def rSt_waysOn : Room := { frames := 0, cells := 0, slots := 0, locals := 0 }
theorem kSt_waysOn : cOf ySt_waysOn tSt_waysOn ∈ gT := gT_in 918 (by decide +kernel) rfl
theorem iSt_waysOn : Cond.initialized ySt_waysOn.cls ∈ gT := gT_in 58 (by decide +kernel) rfl
theorem mSt_waysOn : okM ySt_waysOn 0 := ⟨by decide, by decide, by unfold nPar; decide +kernel⟩
theorem nSt_waysOn : Cond.instanceMethod ySt_waysOn ∈ gT := gT_in 916 (by decide +kernel) rfl
theorem lSt_waysOn : Cond.selects "MatchPipe$State" ySt_waysOn ySt_waysOn ∈ gT := gT_in 917 (by decide +kernel) rfl
def fSt_waysOn_30  : Nat → Nat → Int32 → Int32 → Sx → Option (Int32 × Sx)
  | 0, _, _, _, _ => none
  | n + 1, x0, x1, x2, S =>
    (gI S 2 6 x0).bind fun v1 =>
    if v1 ≤ x2 then
    (some (x1, S))
    else
    ((gX S 2 3 x0).bind fun v3 =>
    (aI S v3 x2).bind fun v5 =>
    if v5 < 0 then
    (fSt_waysOn_30 n x0 (x1 ||| 0) (x2 + 1) S)
    else
    ((gX S 2 3 x0).bind fun v7 =>
    (aI S v7 x2).bind fun v9 =>
    fSt_waysOn_30 n x0 (x1 ||| (1 <<< (v9 &&& 31))) (x2 + 1) S))
set_option maxRecDepth 100000 in
set_option maxHeartbeats 4000000 in
theorem wSt_waysOn_30 {Γ : vG} (hR : gR Γ = rSt_waysOn) (hl : (gl Γ).flags = pinnedFlags ++ [noTraceFlag]) {X : Int32 × Sx}  : ∀ (n : Nat) (x0 : Nat) (x1 : Int32) (x2 : Int32) (S : Sx), fSt_waysOn_30  n x0 x1 x2 S = some X → vV Γ tSt_waysOn (mQ Γ 0 0 0 (some (.int X.1)) X.2) S 0 0 30 [(0, .ref x0), (1, .int x1), (2, .int x2)] [] := by
  intro n
  induction n with
  | zero => intro x0 x1 x2 S h; rw [fSt_waysOn_30] at h; cases h
  | succ n ih =>
    intro x0 x1 x2 S h
    rw [fSt_waysOn_30] at h
    refine v_iload_n (pc := 30) (show decode (tC tSt_waysOn) 30 = .ok (.iload_n 2, 1) by decide +kernel) 2 rfl rfl ?_
    refine v_aload_n (pc := 31) (show decode (tC tSt_waysOn) 31 = .ok (.aload_n 0, 1) by decide +kernel) 0 rfl rfl ?_
    obtain ⟨v1, e2, h⟩ := ob h
    refine v_getI (pc := 32) oF_St_31 (by decide) e2 (show decode (tC tSt_waysOn) 32 = .ok (.getfield 31, 3) by decide +kernel) ?_
    refine v_icmp_ge (pc := 35) 68 (show decode (tC tSt_waysOn) 35 = .ok (.if_icmp .ge 33, 3) by decide +kernel) (by decide) (fun c => ?_) (fun c => ?_)
    · replace h := ite_t c h
      refine v_iload_n (pc := 68) (show decode (tC tSt_waysOn) 68 = .ok (.iload_n 1, 1) by decide +kernel) 1 rfl rfl ?_
      obtain rfl := Option.some.inj h
      refine v_wide (ce2 := 0) (sl2 := 0) (by decide) (by decide) ?_
      exact v_iret (pc := 69) rfl (show decode (tC tSt_waysOn) 69 = .ok (.ireturn, 1) by decide +kernel)
    · replace h := ite_f c h
      refine v_iload_n (pc := 38) (show decode (tC tSt_waysOn) 38 = .ok (.iload_n 1, 1) by decide +kernel) 1 rfl rfl ?_
      refine v_aload_n (pc := 39) (show decode (tC tSt_waysOn) 39 = .ok (.aload_n 0, 1) by decide +kernel) 0 rfl rfl ?_
      obtain ⟨v3, e4, h⟩ := ob h
      refine v_getX (pc := 40) oF_St_21 e4 (show decode (tC tSt_waysOn) 40 = .ok (.getfield 21, 3) by decide +kernel) ?_
      refine v_iload_n (pc := 43) (show decode (tC tSt_waysOn) 43 = .ok (.iload_n 2, 1) by decide +kernel) 2 rfl rfl ?_
      obtain ⟨v5, e6, h⟩ := ob h
      refine v_iald (pc := 44) e6 (show decode (tC tSt_waysOn) 44 = .ok (.iaload, 1) by decide +kernel) ?_
      refine v_if_lt (pc := 45) 59 (show decode (tC tSt_waysOn) 45 = .ok (.ifCond .lt 14, 3) by decide +kernel) (by decide) (fun c => ?_) (fun c => ?_)
      · replace h := ite_t c h
        refine v_iconst (pc := 59) (v := 0) (show decode (tC tSt_waysOn) 59 = .ok (.iconst 0, 1) by decide +kernel) (by decide) ?_
        refine v_ior (pc := 60) (show decode (tC tSt_waysOn) 60 = .ok (.ior, 1) by decide +kernel) ?_
        refine v_istore_n (pc := 61) [(1, .int (x1 ||| 0)), (0, .ref x0), (2, .int x2)] (show decode (tC tSt_waysOn) 61 = .ok (.istore_n 1, 1) by decide +kernel) rfl (by decide) rfl ?_
        refine v_iinc (pc := 62) (j := 2) [(2, .int (x2 + 1)), (1, .int (x1 ||| 0)), (0, .ref x0)] (show decode (tC tSt_waysOn) 62 = .ok (.iinc 2 1, 3) by decide +kernel) rfl rfl (by decide) rfl ?_
        refine v_goto (pc := 65) 30 (show decode (tC tSt_waysOn) 65 = .ok (.goto (-35), 3) by decide +kernel) (by decide) ?_
        refine v_sub [(0, .ref x0), (1, .int (x1 ||| 0)), (2, .int (x2 + 1))] [2, 1, 0] rfl ?_
        exact ih x0 (x1 ||| 0) (x2 + 1) S h
      · replace h := ite_f c h
        refine v_iconst (pc := 48) (v := 1) (show decode (tC tSt_waysOn) 48 = .ok (.iconst 1, 1) by decide +kernel) (by decide) ?_
        refine v_aload_n (pc := 49) (show decode (tC tSt_waysOn) 49 = .ok (.aload_n 0, 1) by decide +kernel) 0 rfl rfl ?_
        obtain ⟨v7, e8, h⟩ := ob h
        refine v_getX (pc := 50) oF_St_21 e8 (show decode (tC tSt_waysOn) 50 = .ok (.getfield 21, 3) by decide +kernel) ?_
        refine v_iload_n (pc := 53) (show decode (tC tSt_waysOn) 53 = .ok (.iload_n 2, 1) by decide +kernel) 2 rfl rfl ?_
        obtain ⟨v9, e10, h⟩ := ob h
        refine v_iald (pc := 54) e10 (show decode (tC tSt_waysOn) 54 = .ok (.iaload, 1) by decide +kernel) ?_
        refine v_ishl (pc := 55) (show decode (tC tSt_waysOn) 55 = .ok (.ishl, 1) by decide +kernel) ?_
        refine v_goto (pc := 56) 60 (show decode (tC tSt_waysOn) 56 = .ok (.goto 4, 3) by decide +kernel) (by decide) ?_
        refine v_ior (pc := 60) (show decode (tC tSt_waysOn) 60 = .ok (.ior, 1) by decide +kernel) ?_
        refine v_istore_n (pc := 61) [(1, .int (x1 ||| (1 <<< (v9 &&& 31)))), (0, .ref x0), (2, .int x2)] (show decode (tC tSt_waysOn) 61 = .ok (.istore_n 1, 1) by decide +kernel) rfl (by decide) rfl ?_
        refine v_iinc (pc := 62) (j := 2) [(2, .int (x2 + 1)), (1, .int (x1 ||| (1 <<< (v9 &&& 31)))), (0, .ref x0)] (show decode (tC tSt_waysOn) 62 = .ok (.iinc 2 1, 3) by decide +kernel) rfl rfl (by decide) rfl ?_
        refine v_goto (pc := 65) 30 (show decode (tC tSt_waysOn) 65 = .ok (.goto (-35), 3) by decide +kernel) (by decide) ?_
        refine v_sub [(0, .ref x0), (1, .int (x1 ||| (1 <<< (v9 &&& 31)))), (2, .int (x2 + 1))] [2, 1, 0] rfl ?_
        exact ih x0 (x1 ||| (1 <<< (v9 &&& 31))) (x2 + 1) S h
def fSt_waysOn_17  (x0 : Nat) (z0 : Int32) (S : Sx) : Option (Int32 × Sx) :=
    (gI S 2 5 x0).bind fun v1 =>
    if v1 = (-1) then
    (some (z0, S))
    else
    (fSt_waysOn_30  fuel x0 z0 0 S)
set_option maxRecDepth 100000 in
set_option maxHeartbeats 4000000 in
theorem wSt_waysOn_17 {Γ : vG} (hR : gR Γ = rSt_waysOn) (hl : (gl Γ).flags = pinnedFlags ++ [noTraceFlag]) {X : Int32 × Sx}  : ∀ (x0 : Nat) (z0 : Int32) (S : Sx), fSt_waysOn_17  x0 z0 S = some X → vV Γ tSt_waysOn (mQ Γ 0 0 0 (some (.int X.1)) X.2) S 0 0 17 [(0, .ref x0)] [.int z0] := by
  intro x0 z0 S h
  unfold fSt_waysOn_17 at h
  refine v_istore_n (pc := 17) [(1, .int z0), (0, .ref x0)] (show decode (tC tSt_waysOn) 17 = .ok (.istore_n 1, 1) by decide +kernel) rfl (by decide) rfl ?_
  refine v_aload_n (pc := 18) (show decode (tC tSt_waysOn) 18 = .ok (.aload_n 0, 1) by decide +kernel) 1 rfl rfl ?_
  obtain ⟨v1, e2, h⟩ := ob h
  refine v_getI (pc := 19) oF_St_28 (by decide) e2 (show decode (tC tSt_waysOn) 19 = .ok (.getfield 28, 3) by decide +kernel) ?_
  refine v_iconst (pc := 22) (v := (-1)) (show decode (tC tSt_waysOn) 22 = .ok (.iconst (-1), 1) by decide +kernel) (by decide) ?_
  refine v_icmp_ne (pc := 23) 28 (show decode (tC tSt_waysOn) 23 = .ok (.if_icmp .ne 5, 3) by decide +kernel) (by decide) (fun c => ?_) (fun c => ?_)
  · replace h := ite_f c h
    refine v_iconst (pc := 28) (v := 0) (show decode (tC tSt_waysOn) 28 = .ok (.iconst 0, 1) by decide +kernel) (by decide) ?_
    refine v_istore_n (pc := 29) [(2, .int 0), (1, .int z0), (0, .ref x0)] (show decode (tC tSt_waysOn) 29 = .ok (.istore_n 2, 1) by decide +kernel) rfl (by decide) rfl ?_
    refine v_sub [(0, .ref x0), (1, .int z0), (2, .int 0)] [2, 1, 0] rfl ?_
    exact wSt_waysOn_30 hR hl  fuel x0 z0 0 S h
  · replace h := ite_t c h
    refine v_iload_n (pc := 26) (show decode (tC tSt_waysOn) 26 = .ok (.iload_n 1, 1) by decide +kernel) 0 rfl rfl ?_
    obtain rfl := Option.some.inj h
    refine v_wide (ce2 := 0) (sl2 := 0) (by decide) (by decide) ?_
    exact v_iret (pc := 27) rfl (show decode (tC tSt_waysOn) 27 = .ok (.ireturn, 1) by decide +kernel)
def fSt_waysOn (x0 : Nat) (S : Sx) : Option (Int32 × Sx) :=
    (gI S 2 7 x0).bind fun v1 =>
    if v1 < 0 then
    (fSt_waysOn_17  x0 0 S)
    else
    ((gI S 2 7 x0).bind fun v3 =>
    fSt_waysOn_17  x0 (1 <<< (v3 &&& 31)) S)
set_option maxRecDepth 100000 in
set_option maxHeartbeats 4000000 in
theorem wSt_waysOn {Γ : vG} (hR : gR Γ = rSt_waysOn) (hl : (gl Γ).flags = pinnedFlags ++ [noTraceFlag]) (x0 : Nat) (S : Sx) {X : Int32 × Sx} (h : fSt_waysOn x0 S = some X) : vV Γ tSt_waysOn (mQ Γ 0 0 0 (some (.int X.1)) X.2) S 0 0 0 [(0, .ref x0)] [] := by
  unfold fSt_waysOn at h
  refine v_aload_n (pc := 0) (show decode (tC tSt_waysOn) 0 = .ok (.aload_n 0, 1) by decide +kernel) 0 rfl rfl ?_
  obtain ⟨v1, e2, h⟩ := ob h
  refine v_getI (pc := 1) oF_St_34 (by decide) e2 (show decode (tC tSt_waysOn) 1 = .ok (.getfield 34, 3) by decide +kernel) ?_
  refine v_if_lt (pc := 4) 16 (show decode (tC tSt_waysOn) 4 = .ok (.ifCond .lt 12, 3) by decide +kernel) (by decide) (fun c => ?_) (fun c => ?_)
  · replace h := ite_t c h
    refine v_iconst (pc := 16) (v := 0) (show decode (tC tSt_waysOn) 16 = .ok (.iconst 0, 1) by decide +kernel) (by decide) ?_
    exact wSt_waysOn_17 hR hl  x0 0 S h
  · replace h := ite_f c h
    refine v_iconst (pc := 7) (v := 1) (show decode (tC tSt_waysOn) 7 = .ok (.iconst 1, 1) by decide +kernel) (by decide) ?_
    refine v_aload_n (pc := 8) (show decode (tC tSt_waysOn) 8 = .ok (.aload_n 0, 1) by decide +kernel) 0 rfl rfl ?_
    obtain ⟨v3, e4, h⟩ := ob h
    refine v_getI (pc := 9) oF_St_34 (by decide) e4 (show decode (tC tSt_waysOn) 9 = .ok (.getfield 34, 3) by decide +kernel) ?_
    refine v_ishl (pc := 12) (show decode (tC tSt_waysOn) 12 = .ok (.ishl, 1) by decide +kernel) ?_
    refine v_goto (pc := 13) 17 (show decode (tC tSt_waysOn) 13 = .ok (.goto 4, 3) by decide +kernel) (by decide) ?_
    exact wSt_waysOn_17 hR hl  x0 (1 <<< (v3 &&& 31)) S h
theorem cSt_waysOn {l : Launch} (hl : l.flags = pinnedFlags ++ [noTraceFlag]) {D : va_G} {dA : Nat → ClassId} {B : Nat} {x0 : Nat} {S : Sx} {X : Int32 × Sx} (h : fSt_waysOn x0 S = some X) : Mx l ySt_waysOn tSt_waysOn rSt_waysOn 0 0 D dA B S [.ref x0] 0 (some (.int X.1)) X.2 :=
  mx_of hl (by decide) rfl rfl (Nat.le_of_ble_eq_true rfl) (fun Γ e1 e2 e3 e4 e5 => by subst e1; subst e3; subst e4; subst e5; exact wSt_waysOn e2 hl x0 S h)
/-! MatchPipe$State.tellsOfBeyond(I)Z -/
def ySt_tellsOfBeyond : MethodName := ⟨"MatchPipe$State", "tellsOfBeyond", "(I)Z"⟩
def tSt_tellsOfBeyond : tM := (prog_10_method_5_code, "MatchPipe$State", 3, "tellsOfBeyond", some .boolean, [])
def rSt_tellsOfBeyond : Room := { frames := 0, cells := 0, slots := 0, locals := 0 }
theorem kSt_tellsOfBeyond : cOf ySt_tellsOfBeyond tSt_tellsOfBeyond ∈ gT := gT_in 905 (by decide +kernel) rfl
theorem iSt_tellsOfBeyond : Cond.initialized ySt_tellsOfBeyond.cls ∈ gT := gT_in 58 (by decide +kernel) rfl
theorem mSt_tellsOfBeyond : okM ySt_tellsOfBeyond 1 := ⟨by decide, by decide, by unfold nPar; decide +kernel⟩
theorem nSt_tellsOfBeyond : Cond.instanceMethod ySt_tellsOfBeyond ∈ gT := gT_in 903 (by decide +kernel) rfl
theorem lSt_tellsOfBeyond : Cond.selects "MatchPipe$State" ySt_tellsOfBeyond ySt_tellsOfBeyond ∈ gT := gT_in 904 (by decide +kernel) rfl
def fSt_tellsOfBeyond_2  : Nat → Nat → Int32 → Int32 → Sx → Option (Int32 × Sx)
  | 0, _, _, _, _ => none
  | n + 1, x0, x1, x2, S =>
    (gI S 2 6 x0).bind fun v1 =>
    if v1 ≤ x2 then
    ((gI S 2 7 x0).bind fun v3 =>
    if v3 < x1 then
    (some (0, S))
    else
    (some (1, S)))
    else
    ((gX S 2 3 x0).bind fun v5 =>
    (aI S v5 x2).bind fun v7 =>
    if v7 < x1 then
    (fSt_tellsOfBeyond_2 n x0 x1 (x2 + 1) S)
    else
    (some (1, S)))
set_option maxRecDepth 100000 in
set_option maxHeartbeats 4000000 in
theorem wSt_tellsOfBeyond_2 {Γ : vG} (hR : gR Γ = rSt_tellsOfBeyond) (hl : (gl Γ).flags = pinnedFlags ++ [noTraceFlag]) {X : Int32 × Sx}  : ∀ (n : Nat) (x0 : Nat) (x1 : Int32) (x2 : Int32) (S : Sx), fSt_tellsOfBeyond_2  n x0 x1 x2 S = some X → vV Γ tSt_tellsOfBeyond (mQ Γ 0 0 0 (some (.int X.1)) X.2) S 0 0 2 [(0, .ref x0), (1, .int x1), (2, .int x2)] [] := by
  intro n
  induction n with
  | zero => intro x0 x1 x2 S h; rw [fSt_tellsOfBeyond_2] at h; cases h
  | succ n ih =>
    intro x0 x1 x2 S h
    rw [fSt_tellsOfBeyond_2] at h
    refine v_iload_n (pc := 2) (show decode (tC tSt_tellsOfBeyond) 2 = .ok (.iload_n 2, 1) by decide +kernel) 2 rfl rfl ?_
    refine v_aload_n (pc := 3) (show decode (tC tSt_tellsOfBeyond) 3 = .ok (.aload_n 0, 1) by decide +kernel) 0 rfl rfl ?_
    obtain ⟨v1, e2, h⟩ := ob h
    refine v_getI (pc := 4) oF_St_31 (by decide) e2 (show decode (tC tSt_tellsOfBeyond) 4 = .ok (.getfield 31, 3) by decide +kernel) ?_
    refine v_icmp_ge (pc := 7) 28 (show decode (tC tSt_tellsOfBeyond) 7 = .ok (.if_icmp .ge 21, 3) by decide +kernel) (by decide) (fun c => ?_) (fun c => ?_)
    · replace h := ite_t c h
      refine v_aload_n (pc := 28) (show decode (tC tSt_tellsOfBeyond) 28 = .ok (.aload_n 0, 1) by decide +kernel) 0 rfl rfl ?_
      obtain ⟨v3, e4, h⟩ := ob h
      refine v_getI (pc := 29) oF_St_34 (by decide) e4 (show decode (tC tSt_tellsOfBeyond) 29 = .ok (.getfield 34, 3) by decide +kernel) ?_
      refine v_iload_n (pc := 32) (show decode (tC tSt_tellsOfBeyond) 32 = .ok (.iload_n 1, 1) by decide +kernel) 1 rfl rfl ?_
      refine v_icmp_lt (pc := 33) 40 (show decode (tC tSt_tellsOfBeyond) 33 = .ok (.if_icmp .lt 7, 3) by decide +kernel) (by decide) (fun c => ?_) (fun c => ?_)
      · replace h := ite_t c h
        refine v_iconst (pc := 40) (v := 0) (show decode (tC tSt_tellsOfBeyond) 40 = .ok (.iconst 0, 1) by decide +kernel) (by decide) ?_
        obtain rfl := Option.some.inj h
        refine v_wide (ce2 := 0) (sl2 := 0) (by decide) (by decide) ?_
        exact v_zret (pc := 41) rfl (Or.inl rfl) (show decode (tC tSt_tellsOfBeyond) 41 = .ok (.ireturn, 1) by decide +kernel)
      · replace h := ite_f c h
        refine v_iconst (pc := 36) (v := 1) (show decode (tC tSt_tellsOfBeyond) 36 = .ok (.iconst 1, 1) by decide +kernel) (by decide) ?_
        refine v_goto (pc := 37) 41 (show decode (tC tSt_tellsOfBeyond) 37 = .ok (.goto 4, 3) by decide +kernel) (by decide) ?_
        obtain rfl := Option.some.inj h
        refine v_wide (ce2 := 0) (sl2 := 0) (by decide) (by decide) ?_
        exact v_zret (pc := 41) rfl (Or.inr rfl) (show decode (tC tSt_tellsOfBeyond) 41 = .ok (.ireturn, 1) by decide +kernel)
    · replace h := ite_f c h
      refine v_aload_n (pc := 10) (show decode (tC tSt_tellsOfBeyond) 10 = .ok (.aload_n 0, 1) by decide +kernel) 0 rfl rfl ?_
      obtain ⟨v5, e6, h⟩ := ob h
      refine v_getX (pc := 11) oF_St_21 e6 (show decode (tC tSt_tellsOfBeyond) 11 = .ok (.getfield 21, 3) by decide +kernel) ?_
      refine v_iload_n (pc := 14) (show decode (tC tSt_tellsOfBeyond) 14 = .ok (.iload_n 2, 1) by decide +kernel) 2 rfl rfl ?_
      obtain ⟨v7, e8, h⟩ := ob h
      refine v_iald (pc := 15) e8 (show decode (tC tSt_tellsOfBeyond) 15 = .ok (.iaload, 1) by decide +kernel) ?_
      refine v_iload_n (pc := 16) (show decode (tC tSt_tellsOfBeyond) 16 = .ok (.iload_n 1, 1) by decide +kernel) 1 rfl rfl ?_
      refine v_icmp_lt (pc := 17) 22 (show decode (tC tSt_tellsOfBeyond) 17 = .ok (.if_icmp .lt 5, 3) by decide +kernel) (by decide) (fun c => ?_) (fun c => ?_)
      · replace h := ite_t c h
        refine v_iinc (pc := 22) (j := 2) [(2, .int (x2 + 1)), (0, .ref x0), (1, .int x1)] (show decode (tC tSt_tellsOfBeyond) 22 = .ok (.iinc 2 1, 3) by decide +kernel) rfl rfl (by decide) rfl ?_
        refine v_goto (pc := 25) 2 (show decode (tC tSt_tellsOfBeyond) 25 = .ok (.goto (-23), 3) by decide +kernel) (by decide) ?_
        refine v_sub [(0, .ref x0), (1, .int x1), (2, .int (x2 + 1))] [1, 2, 0] rfl ?_
        exact ih x0 x1 (x2 + 1) S h
      · replace h := ite_f c h
        refine v_iconst (pc := 20) (v := 1) (show decode (tC tSt_tellsOfBeyond) 20 = .ok (.iconst 1, 1) by decide +kernel) (by decide) ?_
        obtain rfl := Option.some.inj h
        refine v_wide (ce2 := 0) (sl2 := 0) (by decide) (by decide) ?_
        exact v_zret (pc := 21) rfl (Or.inr rfl) (show decode (tC tSt_tellsOfBeyond) 21 = .ok (.ireturn, 1) by decide +kernel)
def fSt_tellsOfBeyond (x0 : Nat) (x1 : Int32) (S : Sx) : Option (Int32 × Sx) :=
    fSt_tellsOfBeyond_2  fuel x0 x1 0 S
set_option maxRecDepth 100000 in
set_option maxHeartbeats 4000000 in
theorem wSt_tellsOfBeyond {Γ : vG} (hR : gR Γ = rSt_tellsOfBeyond) (hl : (gl Γ).flags = pinnedFlags ++ [noTraceFlag]) (x0 : Nat) (x1 : Int32) (S : Sx) {X : Int32 × Sx} (h : fSt_tellsOfBeyond x0 x1 S = some X) : vV Γ tSt_tellsOfBeyond (mQ Γ 0 0 0 (some (.int X.1)) X.2) S 0 0 0 [(0, .ref x0), (1, .int x1)] [] := by
  unfold fSt_tellsOfBeyond at h
  refine v_iconst (pc := 0) (v := 0) (show decode (tC tSt_tellsOfBeyond) 0 = .ok (.iconst 0, 1) by decide +kernel) (by decide) ?_
  refine v_istore_n (pc := 1) [(2, .int 0), (0, .ref x0), (1, .int x1)] (show decode (tC tSt_tellsOfBeyond) 1 = .ok (.istore_n 2, 1) by decide +kernel) rfl (by decide) rfl ?_
  refine v_sub [(0, .ref x0), (1, .int x1), (2, .int 0)] [1, 2, 0] rfl ?_
  exact wSt_tellsOfBeyond_2 hR hl  fuel x0 x1 0 S h
theorem cSt_tellsOfBeyond {l : Launch} (hl : l.flags = pinnedFlags ++ [noTraceFlag]) {D : va_G} {dA : Nat → ClassId} {B : Nat} {x0 : Nat} {x1 : Int32} {S : Sx} {X : Int32 × Sx} (h : fSt_tellsOfBeyond x0 x1 S = some X) : Mx l ySt_tellsOfBeyond tSt_tellsOfBeyond rSt_tellsOfBeyond 0 0 D dA B S [.ref x0, .int x1] 0 (some (.int X.1)) X.2 :=
  mx_of hl (by decide) rfl rfl (Nat.le_of_ble_eq_true rfl) (fun Γ e1 e2 e3 e4 e5 => by subst e1; subst e3; subst e4; subst e5; exact wSt_tellsOfBeyond e2 hl x0 x1 S h)
/-! MatchPipe$Action.usedArrays()I -/
def yAc_usedArrays : MethodName := ⟨"MatchPipe$Action", "usedArrays", "()I"⟩
def tAc_usedArrays : tM := (prog_2_method_5_code, "MatchPipe$Action", 3, "usedArrays", some .int, [])
def rAc_usedArrays : Room := { frames := 0, cells := 0, slots := 0, locals := 0 }
theorem kAc_usedArrays : cOf yAc_usedArrays tAc_usedArrays ∈ gT := gT_in 942 (by decide +kernel) rfl
theorem iAc_usedArrays : Cond.initialized yAc_usedArrays.cls ∈ gT := gT_in 59 (by decide +kernel) rfl
theorem mAc_usedArrays : okM yAc_usedArrays 0 := ⟨by decide, by decide, by unfold nPar; decide +kernel⟩
theorem nAc_usedArrays : Cond.instanceMethod yAc_usedArrays ∈ gT := gT_in 940 (by decide +kernel) rfl
theorem lAc_usedArrays : Cond.selects "MatchPipe$Action" yAc_usedArrays yAc_usedArrays ∈ gT := gT_in 941 (by decide +kernel) rfl
def fAc_usedArrays_4  : Nat → Nat → Int32 → Int32 → Sx → Option (Int32 × Sx)
  | 0, _, _, _, _ => none
  | n + 1, x0, x1, x2, S =>
    (gI S 3 4 x0).bind fun v1 =>
    if v1 ≤ x2 then
    (some (x1, S))
    else
    ((gX S 3 0 x0).bind fun v3 =>
    (aI S v3 x2).bind fun v5 =>
    if v5 = 7 then
    ((gX S 3 1 x0).bind fun v15 =>
    (aI S v15 x2).bind fun v17 =>
    fAc_usedArrays_4 n x0 (x1 ||| (1 <<< (v17 &&& 31))) (x2 + 1) S)
    else
    ((gX S 3 0 x0).bind fun v7 =>
    (aI S v7 x2).bind fun v9 =>
    if v9 = 8 then
    ((gX S 3 3 x0).bind fun v11 =>
    (aI S v11 x2).bind fun v13 =>
    fAc_usedArrays_4 n x0 (x1 ||| (1 <<< (v13 &&& 31))) (x2 + 1) S)
    else
    (fAc_usedArrays_4 n x0 x1 (x2 + 1) S)))
set_option maxRecDepth 100000 in
set_option maxHeartbeats 4000000 in
theorem wAc_usedArrays_4 {Γ : vG} (hR : gR Γ = rAc_usedArrays) (hl : (gl Γ).flags = pinnedFlags ++ [noTraceFlag]) {X : Int32 × Sx}  : ∀ (n : Nat) (x0 : Nat) (x1 : Int32) (x2 : Int32) (S : Sx), fAc_usedArrays_4  n x0 x1 x2 S = some X → vV Γ tAc_usedArrays (mQ Γ 0 0 0 (some (.int X.1)) X.2) S 0 0 4 [(0, .ref x0), (1, .int x1), (2, .int x2)] [] := by
  intro n
  induction n with
  | zero => intro x0 x1 x2 S h; rw [fAc_usedArrays_4] at h; cases h
  | succ n ih =>
    intro x0 x1 x2 S h
    rw [fAc_usedArrays_4] at h
    refine v_iload_n (pc := 4) (show decode (tC tAc_usedArrays) 4 = .ok (.iload_n 2, 1) by decide +kernel) 2 rfl rfl ?_
    refine v_aload_n (pc := 5) (show decode (tC tAc_usedArrays) 5 = .ok (.aload_n 0, 1) by decide +kernel) 0 rfl rfl ?_
    obtain ⟨v1, e2, h⟩ := ob h
    refine v_getI (pc := 6) oF_Ac_24 (by decide) e2 (show decode (tC tAc_usedArrays) 6 = .ok (.getfield 24, 3) by decide +kernel) ?_
    refine v_icmp_ge (pc := 9) 65 (show decode (tC tAc_usedArrays) 9 = .ok (.if_icmp .ge 56, 3) by decide +kernel) (by decide) (fun c => ?_) (fun c => ?_)
    · replace h := ite_t c h
      refine v_iload_n (pc := 65) (show decode (tC tAc_usedArrays) 65 = .ok (.iload_n 1, 1) by decide +kernel) 1 rfl rfl ?_
      obtain rfl := Option.some.inj h
      refine v_wide (ce2 := 0) (sl2 := 0) (by decide) (by decide) ?_
      exact v_iret (pc := 66) rfl (show decode (tC tAc_usedArrays) 66 = .ok (.ireturn, 1) by decide +kernel)
    · replace h := ite_f c h
      refine v_aload_n (pc := 12) (show decode (tC tAc_usedArrays) 12 = .ok (.aload_n 0, 1) by decide +kernel) 0 rfl rfl ?_
      obtain ⟨v3, e4, h⟩ := ob h
      refine v_getX (pc := 13) oF_Ac_9 e4 (show decode (tC tAc_usedArrays) 13 = .ok (.getfield 9, 3) by decide +kernel) ?_
      refine v_iload_n (pc := 16) (show decode (tC tAc_usedArrays) 16 = .ok (.iload_n 2, 1) by decide +kernel) 2 rfl rfl ?_
      obtain ⟨v5, e6, h⟩ := ob h
      refine v_iald (pc := 17) e6 (show decode (tC tAc_usedArrays) 17 = .ok (.iaload, 1) by decide +kernel) ?_
      refine v_bipush (pc := 18) (v := 7) (show decode (tC tAc_usedArrays) 18 = .ok (.bipush 7, 2) by decide +kernel) (by decide) ?_
      refine v_icmp_ne (pc := 20) 37 (show decode (tC tAc_usedArrays) 20 = .ok (.if_icmp .ne 17, 3) by decide +kernel) (by decide) (fun c => ?_) (fun c => ?_)
      · replace h := ite_f c h
        refine v_aload_n (pc := 37) (show decode (tC tAc_usedArrays) 37 = .ok (.aload_n 0, 1) by decide +kernel) 0 rfl rfl ?_
        obtain ⟨v7, e8, h⟩ := ob h
        refine v_getX (pc := 38) oF_Ac_9 e8 (show decode (tC tAc_usedArrays) 38 = .ok (.getfield 9, 3) by decide +kernel) ?_
        refine v_iload_n (pc := 41) (show decode (tC tAc_usedArrays) 41 = .ok (.iload_n 2, 1) by decide +kernel) 2 rfl rfl ?_
        obtain ⟨v9, e10, h⟩ := ob h
        refine v_iald (pc := 42) e10 (show decode (tC tAc_usedArrays) 42 = .ok (.iaload, 1) by decide +kernel) ?_
        refine v_bipush (pc := 43) (v := 8) (show decode (tC tAc_usedArrays) 43 = .ok (.bipush 8, 2) by decide +kernel) (by decide) ?_
        refine v_icmp_ne (pc := 45) 59 (show decode (tC tAc_usedArrays) 45 = .ok (.if_icmp .ne 14, 3) by decide +kernel) (by decide) (fun c => ?_) (fun c => ?_)
        · replace h := ite_f c h
          refine v_iinc (pc := 59) (j := 2) [(2, .int (x2 + 1)), (0, .ref x0), (1, .int x1)] (show decode (tC tAc_usedArrays) 59 = .ok (.iinc 2 1, 3) by decide +kernel) rfl rfl (by decide) rfl ?_
          refine v_goto (pc := 62) 4 (show decode (tC tAc_usedArrays) 62 = .ok (.goto (-58), 3) by decide +kernel) (by decide) ?_
          refine v_sub [(0, .ref x0), (1, .int x1), (2, .int (x2 + 1))] [1, 2, 0] rfl ?_
          exact ih x0 x1 (x2 + 1) S h
        · replace h := ite_t c h
          refine v_iload_n (pc := 48) (show decode (tC tAc_usedArrays) 48 = .ok (.iload_n 1, 1) by decide +kernel) 1 rfl rfl ?_
          refine v_iconst (pc := 49) (v := 1) (show decode (tC tAc_usedArrays) 49 = .ok (.iconst 1, 1) by decide +kernel) (by decide) ?_
          refine v_aload_n (pc := 50) (show decode (tC tAc_usedArrays) 50 = .ok (.aload_n 0, 1) by decide +kernel) 0 rfl rfl ?_
          obtain ⟨v11, e12, h⟩ := ob h
          refine v_getX (pc := 51) oF_Ac_21 e12 (show decode (tC tAc_usedArrays) 51 = .ok (.getfield 21, 3) by decide +kernel) ?_
          refine v_iload_n (pc := 54) (show decode (tC tAc_usedArrays) 54 = .ok (.iload_n 2, 1) by decide +kernel) 2 rfl rfl ?_
          obtain ⟨v13, e14, h⟩ := ob h
          refine v_iald (pc := 55) e14 (show decode (tC tAc_usedArrays) 55 = .ok (.iaload, 1) by decide +kernel) ?_
          refine v_ishl (pc := 56) (show decode (tC tAc_usedArrays) 56 = .ok (.ishl, 1) by decide +kernel) ?_
          refine v_ior (pc := 57) (show decode (tC tAc_usedArrays) 57 = .ok (.ior, 1) by decide +kernel) ?_
          refine v_istore_n (pc := 58) [(1, .int (x1 ||| (1 <<< (v13 &&& 31)))), (0, .ref x0), (2, .int x2)] (show decode (tC tAc_usedArrays) 58 = .ok (.istore_n 1, 1) by decide +kernel) rfl (by decide) rfl ?_
          refine v_iinc (pc := 59) (j := 2) [(2, .int (x2 + 1)), (1, .int (x1 ||| (1 <<< (v13 &&& 31)))), (0, .ref x0)] (show decode (tC tAc_usedArrays) 59 = .ok (.iinc 2 1, 3) by decide +kernel) rfl rfl (by decide) rfl ?_
          refine v_goto (pc := 62) 4 (show decode (tC tAc_usedArrays) 62 = .ok (.goto (-58), 3) by decide +kernel) (by decide) ?_
          refine v_sub [(0, .ref x0), (1, .int (x1 ||| (1 <<< (v13 &&& 31)))), (2, .int (x2 + 1))] [2, 1, 0] rfl ?_
          exact ih x0 (x1 ||| (1 <<< (v13 &&& 31))) (x2 + 1) S h
      · replace h := ite_t c h
        refine v_iload_n (pc := 23) (show decode (tC tAc_usedArrays) 23 = .ok (.iload_n 1, 1) by decide +kernel) 1 rfl rfl ?_
        refine v_iconst (pc := 24) (v := 1) (show decode (tC tAc_usedArrays) 24 = .ok (.iconst 1, 1) by decide +kernel) (by decide) ?_
        refine v_aload_n (pc := 25) (show decode (tC tAc_usedArrays) 25 = .ok (.aload_n 0, 1) by decide +kernel) 0 rfl rfl ?_
        obtain ⟨v15, e16, h⟩ := ob h
        refine v_getX (pc := 26) oF_Ac_15 e16 (show decode (tC tAc_usedArrays) 26 = .ok (.getfield 15, 3) by decide +kernel) ?_
        refine v_iload_n (pc := 29) (show decode (tC tAc_usedArrays) 29 = .ok (.iload_n 2, 1) by decide +kernel) 2 rfl rfl ?_
        obtain ⟨v17, e18, h⟩ := ob h
        refine v_iald (pc := 30) e18 (show decode (tC tAc_usedArrays) 30 = .ok (.iaload, 1) by decide +kernel) ?_
        refine v_ishl (pc := 31) (show decode (tC tAc_usedArrays) 31 = .ok (.ishl, 1) by decide +kernel) ?_
        refine v_ior (pc := 32) (show decode (tC tAc_usedArrays) 32 = .ok (.ior, 1) by decide +kernel) ?_
        refine v_istore_n (pc := 33) [(1, .int (x1 ||| (1 <<< (v17 &&& 31)))), (0, .ref x0), (2, .int x2)] (show decode (tC tAc_usedArrays) 33 = .ok (.istore_n 1, 1) by decide +kernel) rfl (by decide) rfl ?_
        refine v_goto (pc := 34) 59 (show decode (tC tAc_usedArrays) 34 = .ok (.goto 25, 3) by decide +kernel) (by decide) ?_
        refine v_iinc (pc := 59) (j := 2) [(2, .int (x2 + 1)), (1, .int (x1 ||| (1 <<< (v17 &&& 31)))), (0, .ref x0)] (show decode (tC tAc_usedArrays) 59 = .ok (.iinc 2 1, 3) by decide +kernel) rfl rfl (by decide) rfl ?_
        refine v_goto (pc := 62) 4 (show decode (tC tAc_usedArrays) 62 = .ok (.goto (-58), 3) by decide +kernel) (by decide) ?_
        refine v_sub [(0, .ref x0), (1, .int (x1 ||| (1 <<< (v17 &&& 31)))), (2, .int (x2 + 1))] [2, 1, 0] rfl ?_
        exact ih x0 (x1 ||| (1 <<< (v17 &&& 31))) (x2 + 1) S h
def fAc_usedArrays (x0 : Nat) (S : Sx) : Option (Int32 × Sx) :=
    fAc_usedArrays_4  fuel x0 0 0 S
set_option maxRecDepth 100000 in
set_option maxHeartbeats 4000000 in
theorem wAc_usedArrays {Γ : vG} (hR : gR Γ = rAc_usedArrays) (hl : (gl Γ).flags = pinnedFlags ++ [noTraceFlag]) (x0 : Nat) (S : Sx) {X : Int32 × Sx} (h : fAc_usedArrays x0 S = some X) : vV Γ tAc_usedArrays (mQ Γ 0 0 0 (some (.int X.1)) X.2) S 0 0 0 [(0, .ref x0)] [] := by
  unfold fAc_usedArrays at h
  refine v_iconst (pc := 0) (v := 0) (show decode (tC tAc_usedArrays) 0 = .ok (.iconst 0, 1) by decide +kernel) (by decide) ?_
  refine v_istore_n (pc := 1) [(1, .int 0), (0, .ref x0)] (show decode (tC tAc_usedArrays) 1 = .ok (.istore_n 1, 1) by decide +kernel) rfl (by decide) rfl ?_
  refine v_iconst (pc := 2) (v := 0) (show decode (tC tAc_usedArrays) 2 = .ok (.iconst 0, 1) by decide +kernel) (by decide) ?_
  refine v_istore_n (pc := 3) [(2, .int 0), (1, .int 0), (0, .ref x0)] (show decode (tC tAc_usedArrays) 3 = .ok (.istore_n 2, 1) by decide +kernel) rfl (by decide) rfl ?_
  refine v_sub [(0, .ref x0), (1, .int 0), (2, .int 0)] [2, 1, 0] rfl ?_
  exact wAc_usedArrays_4 hR hl  fuel x0 0 0 S h
theorem cAc_usedArrays {l : Launch} (hl : l.flags = pinnedFlags ++ [noTraceFlag]) {D : va_G} {dA : Nat → ClassId} {B : Nat} {x0 : Nat} {S : Sx} {X : Int32 × Sx} (h : fAc_usedArrays x0 S = some X) : Mx l yAc_usedArrays tAc_usedArrays rAc_usedArrays 0 0 D dA B S [.ref x0] 0 (some (.int X.1)) X.2 :=
  mx_of hl (by decide) rfl rfl (Nat.le_of_ble_eq_true rfl) (fun Γ e1 e2 e3 e4 e5 => by subst e1; subst e3; subst e4; subst e5; exact wAc_usedArrays e2 hl x0 S h)
/-! MatchPipe$Action.reads()I -/
def yAc_reads : MethodName := ⟨"MatchPipe$Action", "reads", "()I"⟩
def tAc_reads : tM := (prog_2_method_3_code, "MatchPipe$Action", 3, "reads", some .int, [])
def rAc_reads : Room := { frames := 0, cells := 0, slots := 0, locals := 0 }
theorem kAc_reads : cOf yAc_reads tAc_reads ∈ gT := gT_in 965 (by decide +kernel) rfl
theorem iAc_reads : Cond.initialized yAc_reads.cls ∈ gT := gT_in 59 (by decide +kernel) rfl
theorem mAc_reads : okM yAc_reads 0 := ⟨by decide, by decide, by unfold nPar; decide +kernel⟩
theorem nAc_reads : Cond.instanceMethod yAc_reads ∈ gT := gT_in 963 (by decide +kernel) rfl
theorem lAc_reads : Cond.selects "MatchPipe$Action" yAc_reads yAc_reads ∈ gT := gT_in 964 (by decide +kernel) rfl
def fAc_reads_4  : Nat → Nat → Int32 → Int32 → Sx → Option (Int32 × Sx)
  | 0, _, _, _, _ => none
  | n + 1, x0, x1, x2, S =>
    (gI S 3 4 x0).bind fun v1 =>
    if v1 ≤ x2 then
    (some (x1, S))
    else
    ((gX S 3 0 x0).bind fun v3 =>
    (aI S v3 x2).bind fun v5 =>
    if v5 = 1 then
    ((gX S 3 2 x0).bind fun v7 =>
    (aI S v7 x2).bind fun v9 =>
    fAc_reads_4 n x0 (x1 ||| (1 <<< (v9 &&& 31))) (x2 + 1) S)
    else if v5 = 2 then
    ((gX S 3 1 x0).bind fun v11 =>
    (aI S v11 x2).bind fun v13 =>
    (gX S 3 2 x0).bind fun v15 =>
    (aI S v15 x2).bind fun v17 =>
    fAc_reads_4 n x0 (x1 ||| ((1 <<< (v13 &&& 31)) ||| (1 <<< (v17 &&& 31)))) (x2 + 1) S)
    else if v5 = 3 then
    (fAc_reads_4 n x0 x1 (x2 + 1) S)
    else if v5 = 4 then
    (fAc_reads_4 n x0 x1 (x2 + 1) S)
    else if v5 = 5 then
    (fAc_reads_4 n x0 x1 (x2 + 1) S)
    else if v5 = 6 then
    (fAc_reads_4 n x0 x1 (x2 + 1) S)
    else if v5 = 7 then
    ((gX S 3 2 x0).bind fun v19 =>
    (aI S v19 x2).bind fun v21 =>
    fAc_reads_4 n x0 (x1 ||| (1 <<< (v21 &&& 31))) (x2 + 1) S)
    else if v5 = 8 then
    ((gX S 3 2 x0).bind fun v23 =>
    (aI S v23 x2).bind fun v25 =>
    fAc_reads_4 n x0 (x1 ||| (1 <<< (v25 &&& 31))) (x2 + 1) S)
    else 
    (fAc_reads_4 n x0 x1 (x2 + 1) S))
set_option maxRecDepth 100000 in
set_option maxHeartbeats 4000000 in
theorem wAc_reads_4 {Γ : vG} (hR : gR Γ = rAc_reads) (hl : (gl Γ).flags = pinnedFlags ++ [noTraceFlag]) {X : Int32 × Sx}  : ∀ (n : Nat) (x0 : Nat) (x1 : Int32) (x2 : Int32) (S : Sx), fAc_reads_4  n x0 x1 x2 S = some X → vV Γ tAc_reads (mQ Γ 0 0 0 (some (.int X.1)) X.2) S 0 0 4 [(0, .ref x0), (1, .int x1), (2, .int x2)] [] := by
  intro n
  induction n with
  | zero => intro x0 x1 x2 S h; rw [fAc_reads_4] at h; cases h
  | succ n ih =>
    intro x0 x1 x2 S h
    rw [fAc_reads_4] at h
    refine v_iload_n (pc := 4) (show decode (tC tAc_reads) 4 = .ok (.iload_n 2, 1) by decide +kernel) 2 rfl rfl ?_
    refine v_aload_n (pc := 5) (show decode (tC tAc_reads) 5 = .ok (.aload_n 0, 1) by decide +kernel) 0 rfl rfl ?_
    obtain ⟨v1, e2, h⟩ := ob h
    refine v_getI (pc := 6) oF_Ac_24 (by decide) e2 (show decode (tC tAc_reads) 6 = .ok (.getfield 24, 3) by decide +kernel) ?_
    refine v_icmp_ge (pc := 9) 107 (show decode (tC tAc_reads) 9 = .ok (.if_icmp .ge 98, 3) by decide +kernel) (by decide) (fun c => ?_) (fun c => ?_)
    · replace h := ite_t c h
      refine v_iload_n (pc := 107) (show decode (tC tAc_reads) 107 = .ok (.iload_n 1, 1) by decide +kernel) 1 rfl rfl ?_
      obtain rfl := Option.some.inj h
      refine v_wide (ce2 := 0) (sl2 := 0) (by decide) (by decide) ?_
      exact v_iret (pc := 108) rfl (show decode (tC tAc_reads) 108 = .ok (.ireturn, 1) by decide +kernel)
    · replace h := ite_f c h
      refine v_aload_n (pc := 12) (show decode (tC tAc_reads) 12 = .ok (.aload_n 0, 1) by decide +kernel) 0 rfl rfl ?_
      obtain ⟨v3, e4, h⟩ := ob h
      refine v_getX (pc := 13) oF_Ac_9 e4 (show decode (tC tAc_reads) 13 = .ok (.getfield 9, 3) by decide +kernel) ?_
      refine v_iload_n (pc := 16) (show decode (tC tAc_reads) 16 = .ok (.iload_n 2, 1) by decide +kernel) 2 rfl rfl ?_
      obtain ⟨v5, e6, h⟩ := ob h
      refine v_iald (pc := 17) e6 (show decode (tC tAc_reads) 17 = .ok (.iaload, 1) by decide +kernel) ?_
      by_cases c0 : v5 = 1
      · replace h := ite_t c0 h
        refine v_tblIn (pc := 18) (off := 69) 87 (show decode (tC tAc_reads) 18 = .ok (.tableswitch 83 1 8 #[69, 46, 83, 83, 83, 83, 69, 69], 46) by decide +kernel) (by rw [c0]; decide) (by rw [c0]; decide) (by rw [c0]; decide) (by decide) ?_
        refine v_iload_n (pc := 87) (show decode (tC tAc_reads) 87 = .ok (.iload_n 1, 1) by decide +kernel) 1 rfl rfl ?_
        refine v_iconst (pc := 88) (v := 1) (show decode (tC tAc_reads) 88 = .ok (.iconst 1, 1) by decide +kernel) (by decide) ?_
        refine v_aload_n (pc := 89) (show decode (tC tAc_reads) 89 = .ok (.aload_n 0, 1) by decide +kernel) 0 rfl rfl ?_
        obtain ⟨v7, e8, h⟩ := ob h
        refine v_getX (pc := 90) oF_Ac_18 e8 (show decode (tC tAc_reads) 90 = .ok (.getfield 18, 3) by decide +kernel) ?_
        refine v_iload_n (pc := 93) (show decode (tC tAc_reads) 93 = .ok (.iload_n 2, 1) by decide +kernel) 2 rfl rfl ?_
        obtain ⟨v9, e10, h⟩ := ob h
        refine v_iald (pc := 94) e10 (show decode (tC tAc_reads) 94 = .ok (.iaload, 1) by decide +kernel) ?_
        refine v_ishl (pc := 95) (show decode (tC tAc_reads) 95 = .ok (.ishl, 1) by decide +kernel) ?_
        refine v_ior (pc := 96) (show decode (tC tAc_reads) 96 = .ok (.ior, 1) by decide +kernel) ?_
        refine v_istore_n (pc := 97) [(1, .int (x1 ||| (1 <<< (v9 &&& 31)))), (0, .ref x0), (2, .int x2)] (show decode (tC tAc_reads) 97 = .ok (.istore_n 1, 1) by decide +kernel) rfl (by decide) rfl ?_
        refine v_goto (pc := 98) 101 (show decode (tC tAc_reads) 98 = .ok (.goto 3, 3) by decide +kernel) (by decide) ?_
        refine v_iinc (pc := 101) (j := 2) [(2, .int (x2 + 1)), (1, .int (x1 ||| (1 <<< (v9 &&& 31)))), (0, .ref x0)] (show decode (tC tAc_reads) 101 = .ok (.iinc 2 1, 3) by decide +kernel) rfl rfl (by decide) rfl ?_
        refine v_goto (pc := 104) 4 (show decode (tC tAc_reads) 104 = .ok (.goto (-100), 3) by decide +kernel) (by decide) ?_
        refine v_sub [(0, .ref x0), (1, .int (x1 ||| (1 <<< (v9 &&& 31)))), (2, .int (x2 + 1))] [2, 1, 0] rfl ?_
        exact ih x0 (x1 ||| (1 <<< (v9 &&& 31))) (x2 + 1) S h
      · replace h := ite_f c0 h
        by_cases c1 : v5 = 2
        · replace h := ite_t c1 h
          refine v_tblIn (pc := 18) (off := 46) 64 (show decode (tC tAc_reads) 18 = .ok (.tableswitch 83 1 8 #[69, 46, 83, 83, 83, 83, 69, 69], 46) by decide +kernel) (by rw [c1]; decide) (by rw [c1]; decide) (by rw [c1]; decide) (by decide) ?_
          refine v_iload_n (pc := 64) (show decode (tC tAc_reads) 64 = .ok (.iload_n 1, 1) by decide +kernel) 1 rfl rfl ?_
          refine v_iconst (pc := 65) (v := 1) (show decode (tC tAc_reads) 65 = .ok (.iconst 1, 1) by decide +kernel) (by decide) ?_
          refine v_aload_n (pc := 66) (show decode (tC tAc_reads) 66 = .ok (.aload_n 0, 1) by decide +kernel) 0 rfl rfl ?_
          obtain ⟨v11, e12, h⟩ := ob h
          refine v_getX (pc := 67) oF_Ac_15 e12 (show decode (tC tAc_reads) 67 = .ok (.getfield 15, 3) by decide +kernel) ?_
          refine v_iload_n (pc := 70) (show decode (tC tAc_reads) 70 = .ok (.iload_n 2, 1) by decide +kernel) 2 rfl rfl ?_
          obtain ⟨v13, e14, h⟩ := ob h
          refine v_iald (pc := 71) e14 (show decode (tC tAc_reads) 71 = .ok (.iaload, 1) by decide +kernel) ?_
          refine v_ishl (pc := 72) (show decode (tC tAc_reads) 72 = .ok (.ishl, 1) by decide +kernel) ?_
          refine v_iconst (pc := 73) (v := 1) (show decode (tC tAc_reads) 73 = .ok (.iconst 1, 1) by decide +kernel) (by decide) ?_
          refine v_aload_n (pc := 74) (show decode (tC tAc_reads) 74 = .ok (.aload_n 0, 1) by decide +kernel) 0 rfl rfl ?_
          obtain ⟨v15, e16, h⟩ := ob h
          refine v_getX (pc := 75) oF_Ac_18 e16 (show decode (tC tAc_reads) 75 = .ok (.getfield 18, 3) by decide +kernel) ?_
          refine v_iload_n (pc := 78) (show decode (tC tAc_reads) 78 = .ok (.iload_n 2, 1) by decide +kernel) 2 rfl rfl ?_
          obtain ⟨v17, e18, h⟩ := ob h
          refine v_iald (pc := 79) e18 (show decode (tC tAc_reads) 79 = .ok (.iaload, 1) by decide +kernel) ?_
          refine v_ishl (pc := 80) (show decode (tC tAc_reads) 80 = .ok (.ishl, 1) by decide +kernel) ?_
          refine v_ior (pc := 81) (show decode (tC tAc_reads) 81 = .ok (.ior, 1) by decide +kernel) ?_
          refine v_ior (pc := 82) (show decode (tC tAc_reads) 82 = .ok (.ior, 1) by decide +kernel) ?_
          refine v_istore_n (pc := 83) [(1, .int (x1 ||| ((1 <<< (v13 &&& 31)) ||| (1 <<< (v17 &&& 31))))), (0, .ref x0), (2, .int x2)] (show decode (tC tAc_reads) 83 = .ok (.istore_n 1, 1) by decide +kernel) rfl (by decide) rfl ?_
          refine v_goto (pc := 84) 101 (show decode (tC tAc_reads) 84 = .ok (.goto 17, 3) by decide +kernel) (by decide) ?_
          refine v_iinc (pc := 101) (j := 2) [(2, .int (x2 + 1)), (1, .int (x1 ||| ((1 <<< (v13 &&& 31)) ||| (1 <<< (v17 &&& 31))))), (0, .ref x0)] (show decode (tC tAc_reads) 101 = .ok (.iinc 2 1, 3) by decide +kernel) rfl rfl (by decide) rfl ?_
          refine v_goto (pc := 104) 4 (show decode (tC tAc_reads) 104 = .ok (.goto (-100), 3) by decide +kernel) (by decide) ?_
          refine v_sub [(0, .ref x0), (1, .int (x1 ||| ((1 <<< (v13 &&& 31)) ||| (1 <<< (v17 &&& 31))))), (2, .int (x2 + 1))] [2, 1, 0] rfl ?_
          exact ih x0 (x1 ||| ((1 <<< (v13 &&& 31)) ||| (1 <<< (v17 &&& 31)))) (x2 + 1) S h
        · replace h := ite_f c1 h
          by_cases c2 : v5 = 3
          · replace h := ite_t c2 h
            refine v_tblIn (pc := 18) (off := 83) 101 (show decode (tC tAc_reads) 18 = .ok (.tableswitch 83 1 8 #[69, 46, 83, 83, 83, 83, 69, 69], 46) by decide +kernel) (by rw [c2]; decide) (by rw [c2]; decide) (by rw [c2]; decide) (by decide) ?_
            refine v_iinc (pc := 101) (j := 2) [(2, .int (x2 + 1)), (0, .ref x0), (1, .int x1)] (show decode (tC tAc_reads) 101 = .ok (.iinc 2 1, 3) by decide +kernel) rfl rfl (by decide) rfl ?_
            refine v_goto (pc := 104) 4 (show decode (tC tAc_reads) 104 = .ok (.goto (-100), 3) by decide +kernel) (by decide) ?_
            refine v_sub [(0, .ref x0), (1, .int x1), (2, .int (x2 + 1))] [1, 2, 0] rfl ?_
            exact ih x0 x1 (x2 + 1) S h
          · replace h := ite_f c2 h
            by_cases c3 : v5 = 4
            · replace h := ite_t c3 h
              refine v_tblIn (pc := 18) (off := 83) 101 (show decode (tC tAc_reads) 18 = .ok (.tableswitch 83 1 8 #[69, 46, 83, 83, 83, 83, 69, 69], 46) by decide +kernel) (by rw [c3]; decide) (by rw [c3]; decide) (by rw [c3]; decide) (by decide) ?_
              refine v_iinc (pc := 101) (j := 2) [(2, .int (x2 + 1)), (0, .ref x0), (1, .int x1)] (show decode (tC tAc_reads) 101 = .ok (.iinc 2 1, 3) by decide +kernel) rfl rfl (by decide) rfl ?_
              refine v_goto (pc := 104) 4 (show decode (tC tAc_reads) 104 = .ok (.goto (-100), 3) by decide +kernel) (by decide) ?_
              refine v_sub [(0, .ref x0), (1, .int x1), (2, .int (x2 + 1))] [1, 2, 0] rfl ?_
              exact ih x0 x1 (x2 + 1) S h
            · replace h := ite_f c3 h
              by_cases c4 : v5 = 5
              · replace h := ite_t c4 h
                refine v_tblIn (pc := 18) (off := 83) 101 (show decode (tC tAc_reads) 18 = .ok (.tableswitch 83 1 8 #[69, 46, 83, 83, 83, 83, 69, 69], 46) by decide +kernel) (by rw [c4]; decide) (by rw [c4]; decide) (by rw [c4]; decide) (by decide) ?_
                refine v_iinc (pc := 101) (j := 2) [(2, .int (x2 + 1)), (0, .ref x0), (1, .int x1)] (show decode (tC tAc_reads) 101 = .ok (.iinc 2 1, 3) by decide +kernel) rfl rfl (by decide) rfl ?_
                refine v_goto (pc := 104) 4 (show decode (tC tAc_reads) 104 = .ok (.goto (-100), 3) by decide +kernel) (by decide) ?_
                refine v_sub [(0, .ref x0), (1, .int x1), (2, .int (x2 + 1))] [1, 2, 0] rfl ?_
                exact ih x0 x1 (x2 + 1) S h
              · replace h := ite_f c4 h
                by_cases c5 : v5 = 6
                · replace h := ite_t c5 h
                  refine v_tblIn (pc := 18) (off := 83) 101 (show decode (tC tAc_reads) 18 = .ok (.tableswitch 83 1 8 #[69, 46, 83, 83, 83, 83, 69, 69], 46) by decide +kernel) (by rw [c5]; decide) (by rw [c5]; decide) (by rw [c5]; decide) (by decide) ?_
                  refine v_iinc (pc := 101) (j := 2) [(2, .int (x2 + 1)), (0, .ref x0), (1, .int x1)] (show decode (tC tAc_reads) 101 = .ok (.iinc 2 1, 3) by decide +kernel) rfl rfl (by decide) rfl ?_
                  refine v_goto (pc := 104) 4 (show decode (tC tAc_reads) 104 = .ok (.goto (-100), 3) by decide +kernel) (by decide) ?_
                  refine v_sub [(0, .ref x0), (1, .int x1), (2, .int (x2 + 1))] [1, 2, 0] rfl ?_
                  exact ih x0 x1 (x2 + 1) S h
                · replace h := ite_f c5 h
                  by_cases c6 : v5 = 7
                  · replace h := ite_t c6 h
                    refine v_tblIn (pc := 18) (off := 69) 87 (show decode (tC tAc_reads) 18 = .ok (.tableswitch 83 1 8 #[69, 46, 83, 83, 83, 83, 69, 69], 46) by decide +kernel) (by rw [c6]; decide) (by rw [c6]; decide) (by rw [c6]; decide) (by decide) ?_
                    refine v_iload_n (pc := 87) (show decode (tC tAc_reads) 87 = .ok (.iload_n 1, 1) by decide +kernel) 1 rfl rfl ?_
                    refine v_iconst (pc := 88) (v := 1) (show decode (tC tAc_reads) 88 = .ok (.iconst 1, 1) by decide +kernel) (by decide) ?_
                    refine v_aload_n (pc := 89) (show decode (tC tAc_reads) 89 = .ok (.aload_n 0, 1) by decide +kernel) 0 rfl rfl ?_
                    obtain ⟨v19, e20, h⟩ := ob h
                    refine v_getX (pc := 90) oF_Ac_18 e20 (show decode (tC tAc_reads) 90 = .ok (.getfield 18, 3) by decide +kernel) ?_
                    refine v_iload_n (pc := 93) (show decode (tC tAc_reads) 93 = .ok (.iload_n 2, 1) by decide +kernel) 2 rfl rfl ?_
                    obtain ⟨v21, e22, h⟩ := ob h
                    refine v_iald (pc := 94) e22 (show decode (tC tAc_reads) 94 = .ok (.iaload, 1) by decide +kernel) ?_
                    refine v_ishl (pc := 95) (show decode (tC tAc_reads) 95 = .ok (.ishl, 1) by decide +kernel) ?_
                    refine v_ior (pc := 96) (show decode (tC tAc_reads) 96 = .ok (.ior, 1) by decide +kernel) ?_
                    refine v_istore_n (pc := 97) [(1, .int (x1 ||| (1 <<< (v21 &&& 31)))), (0, .ref x0), (2, .int x2)] (show decode (tC tAc_reads) 97 = .ok (.istore_n 1, 1) by decide +kernel) rfl (by decide) rfl ?_
                    refine v_goto (pc := 98) 101 (show decode (tC tAc_reads) 98 = .ok (.goto 3, 3) by decide +kernel) (by decide) ?_
                    refine v_iinc (pc := 101) (j := 2) [(2, .int (x2 + 1)), (1, .int (x1 ||| (1 <<< (v21 &&& 31)))), (0, .ref x0)] (show decode (tC tAc_reads) 101 = .ok (.iinc 2 1, 3) by decide +kernel) rfl rfl (by decide) rfl ?_
                    refine v_goto (pc := 104) 4 (show decode (tC tAc_reads) 104 = .ok (.goto (-100), 3) by decide +kernel) (by decide) ?_
                    refine v_sub [(0, .ref x0), (1, .int (x1 ||| (1 <<< (v21 &&& 31)))), (2, .int (x2 + 1))] [2, 1, 0] rfl ?_
                    exact ih x0 (x1 ||| (1 <<< (v21 &&& 31))) (x2 + 1) S h
                  · replace h := ite_f c6 h
                    by_cases c7 : v5 = 8
                    · replace h := ite_t c7 h
                      refine v_tblIn (pc := 18) (off := 69) 87 (show decode (tC tAc_reads) 18 = .ok (.tableswitch 83 1 8 #[69, 46, 83, 83, 83, 83, 69, 69], 46) by decide +kernel) (by rw [c7]; decide) (by rw [c7]; decide) (by rw [c7]; decide) (by decide) ?_
                      refine v_iload_n (pc := 87) (show decode (tC tAc_reads) 87 = .ok (.iload_n 1, 1) by decide +kernel) 1 rfl rfl ?_
                      refine v_iconst (pc := 88) (v := 1) (show decode (tC tAc_reads) 88 = .ok (.iconst 1, 1) by decide +kernel) (by decide) ?_
                      refine v_aload_n (pc := 89) (show decode (tC tAc_reads) 89 = .ok (.aload_n 0, 1) by decide +kernel) 0 rfl rfl ?_
                      obtain ⟨v23, e24, h⟩ := ob h
                      refine v_getX (pc := 90) oF_Ac_18 e24 (show decode (tC tAc_reads) 90 = .ok (.getfield 18, 3) by decide +kernel) ?_
                      refine v_iload_n (pc := 93) (show decode (tC tAc_reads) 93 = .ok (.iload_n 2, 1) by decide +kernel) 2 rfl rfl ?_
                      obtain ⟨v25, e26, h⟩ := ob h
                      refine v_iald (pc := 94) e26 (show decode (tC tAc_reads) 94 = .ok (.iaload, 1) by decide +kernel) ?_
                      refine v_ishl (pc := 95) (show decode (tC tAc_reads) 95 = .ok (.ishl, 1) by decide +kernel) ?_
                      refine v_ior (pc := 96) (show decode (tC tAc_reads) 96 = .ok (.ior, 1) by decide +kernel) ?_
                      refine v_istore_n (pc := 97) [(1, .int (x1 ||| (1 <<< (v25 &&& 31)))), (0, .ref x0), (2, .int x2)] (show decode (tC tAc_reads) 97 = .ok (.istore_n 1, 1) by decide +kernel) rfl (by decide) rfl ?_
                      refine v_goto (pc := 98) 101 (show decode (tC tAc_reads) 98 = .ok (.goto 3, 3) by decide +kernel) (by decide) ?_
                      refine v_iinc (pc := 101) (j := 2) [(2, .int (x2 + 1)), (1, .int (x1 ||| (1 <<< (v25 &&& 31)))), (0, .ref x0)] (show decode (tC tAc_reads) 101 = .ok (.iinc 2 1, 3) by decide +kernel) rfl rfl (by decide) rfl ?_
                      refine v_goto (pc := 104) 4 (show decode (tC tAc_reads) 104 = .ok (.goto (-100), 3) by decide +kernel) (by decide) ?_
                      refine v_sub [(0, .ref x0), (1, .int (x1 ||| (1 <<< (v25 &&& 31)))), (2, .int (x2 + 1))] [2, 1, 0] rfl ?_
                      exact ih x0 (x1 ||| (1 <<< (v25 &&& 31))) (x2 + 1) S h
                    · replace h := ite_f c7 h
                      refine v_tblOut (pc := 18) 101 (show decode (tC tAc_reads) 18 = .ok (.tableswitch 83 1 8 #[69, 46, 83, 83, 83, 83, 69, 69], 46) by decide +kernel) (tbl_out 8 (fun i hi => match i, hi with | 0, _ => by have := toInt_ne c0; exact this | 1, _ => by have := toInt_ne c1; exact this | 2, _ => by have := toInt_ne c2; exact this | 3, _ => by have := toInt_ne c3; exact this | 4, _ => by have := toInt_ne c4; exact this | 5, _ => by have := toInt_ne c5; exact this | 6, _ => by have := toInt_ne c6; exact this | 7, _ => by have := toInt_ne c7; exact this | i + 8, hi => absurd hi (by omega)) (by decide)) (by decide) ?_
                      refine v_iinc (pc := 101) (j := 2) [(2, .int (x2 + 1)), (0, .ref x0), (1, .int x1)] (show decode (tC tAc_reads) 101 = .ok (.iinc 2 1, 3) by decide +kernel) rfl rfl (by decide) rfl ?_
                      refine v_goto (pc := 104) 4 (show decode (tC tAc_reads) 104 = .ok (.goto (-100), 3) by decide +kernel) (by decide) ?_
                      refine v_sub [(0, .ref x0), (1, .int x1), (2, .int (x2 + 1))] [1, 2, 0] rfl ?_
                      exact ih x0 x1 (x2 + 1) S h
def fAc_reads (x0 : Nat) (S : Sx) : Option (Int32 × Sx) :=
    fAc_reads_4  fuel x0 0 0 S
set_option maxRecDepth 100000 in
set_option maxHeartbeats 4000000 in
theorem wAc_reads {Γ : vG} (hR : gR Γ = rAc_reads) (hl : (gl Γ).flags = pinnedFlags ++ [noTraceFlag]) (x0 : Nat) (S : Sx) {X : Int32 × Sx} (h : fAc_reads x0 S = some X) : vV Γ tAc_reads (mQ Γ 0 0 0 (some (.int X.1)) X.2) S 0 0 0 [(0, .ref x0)] [] := by
  unfold fAc_reads at h
  refine v_iconst (pc := 0) (v := 0) (show decode (tC tAc_reads) 0 = .ok (.iconst 0, 1) by decide +kernel) (by decide) ?_
  refine v_istore_n (pc := 1) [(1, .int 0), (0, .ref x0)] (show decode (tC tAc_reads) 1 = .ok (.istore_n 1, 1) by decide +kernel) rfl (by decide) rfl ?_
  refine v_iconst (pc := 2) (v := 0) (show decode (tC tAc_reads) 2 = .ok (.iconst 0, 1) by decide +kernel) (by decide) ?_
  refine v_istore_n (pc := 3) [(2, .int 0), (1, .int 0), (0, .ref x0)] (show decode (tC tAc_reads) 3 = .ok (.istore_n 2, 1) by decide +kernel) rfl (by decide) rfl ?_
  refine v_sub [(0, .ref x0), (1, .int 0), (2, .int 0)] [2, 1, 0] rfl ?_
  exact wAc_reads_4 hR hl  fuel x0 0 0 S h
theorem cAc_reads {l : Launch} (hl : l.flags = pinnedFlags ++ [noTraceFlag]) {D : va_G} {dA : Nat → ClassId} {B : Nat} {x0 : Nat} {S : Sx} {X : Int32 × Sx} (h : fAc_reads x0 S = some X) : Mx l yAc_reads tAc_reads rAc_reads 0 0 D dA B S [.ref x0] 0 (some (.int X.1)) X.2 :=
  mx_of hl (by decide) rfl rfl (Nat.le_of_ble_eq_true rfl) (fun Γ e1 e2 e3 e4 e5 => by subst e1; subst e3; subst e4; subst e5; exact wAc_reads e2 hl x0 S h)
/-! MatchPipe$Action.writes()I -/
def yAc_writes : MethodName := ⟨"MatchPipe$Action", "writes", "()I"⟩
def tAc_writes : tM := (prog_2_method_4_code, "MatchPipe$Action", 3, "writes", some .int, [])
def rAc_writes : Room := { frames := 0, cells := 0, slots := 0, locals := 0 }
theorem kAc_writes : cOf yAc_writes tAc_writes ∈ gT := gT_in 955 (by decide +kernel) rfl
theorem iAc_writes : Cond.initialized yAc_writes.cls ∈ gT := gT_in 59 (by decide +kernel) rfl
theorem mAc_writes : okM yAc_writes 0 := ⟨by decide, by decide, by unfold nPar; decide +kernel⟩
theorem nAc_writes : Cond.instanceMethod yAc_writes ∈ gT := gT_in 953 (by decide +kernel) rfl
theorem lAc_writes : Cond.selects "MatchPipe$Action" yAc_writes yAc_writes ∈ gT := gT_in 954 (by decide +kernel) rfl
def fAc_writes_4  : Nat → Nat → Int32 → Int32 → Sx → Option (Int32 × Sx)
  | 0, _, _, _, _ => none
  | n + 1, x0, x1, x2, S =>
    (gI S 3 4 x0).bind fun v1 =>
    if v1 ≤ x2 then
    (some (x1, S))
    else
    ((gX S 3 0 x0).bind fun v3 =>
    (aI S v3 x2).bind fun v5 =>
    if v5 = 4 then
    (fAc_writes_4 n x0 (x1 ||| 65536) (x2 + 1) S)
    else if v5 = 5 then
    (fAc_writes_4 n x0 (x1 ||| 65536) (x2 + 1) S)
    else if v5 = 6 then
    (fAc_writes_4 n x0 (x1 ||| 131072) (x2 + 1) S)
    else if v5 = 7 then
    (fAc_writes_4 n x0 x1 (x2 + 1) S)
    else 
    ((gX S 3 1 x0).bind fun v7 =>
    (aI S v7 x2).bind fun v9 =>
    fAc_writes_4 n x0 (x1 ||| (1 <<< (v9 &&& 31))) (x2 + 1) S))
set_option maxRecDepth 100000 in
set_option maxHeartbeats 4000000 in
theorem wAc_writes_4 {Γ : vG} (hR : gR Γ = rAc_writes) (hl : (gl Γ).flags = pinnedFlags ++ [noTraceFlag]) {X : Int32 × Sx}  : ∀ (n : Nat) (x0 : Nat) (x1 : Int32) (x2 : Int32) (S : Sx), fAc_writes_4  n x0 x1 x2 S = some X → vV Γ tAc_writes (mQ Γ 0 0 0 (some (.int X.1)) X.2) S 0 0 4 [(0, .ref x0), (1, .int x1), (2, .int x2)] [] := by
  intro n
  induction n with
  | zero => intro x0 x1 x2 S h; rw [fAc_writes_4] at h; cases h
  | succ n ih =>
    intro x0 x1 x2 S h
    rw [fAc_writes_4] at h
    refine v_iload_n (pc := 4) (show decode (tC tAc_writes) 4 = .ok (.iload_n 2, 1) by decide +kernel) 2 rfl rfl ?_
    refine v_aload_n (pc := 5) (show decode (tC tAc_writes) 5 = .ok (.aload_n 0, 1) by decide +kernel) 0 rfl rfl ?_
    obtain ⟨v1, e2, h⟩ := ob h
    refine v_getI (pc := 6) oF_Ac_24 (by decide) e2 (show decode (tC tAc_writes) 6 = .ok (.getfield 24, 3) by decide +kernel) ?_
    refine v_icmp_ge (pc := 9) 84 (show decode (tC tAc_writes) 9 = .ok (.if_icmp .ge 75, 3) by decide +kernel) (by decide) (fun c => ?_) (fun c => ?_)
    · replace h := ite_t c h
      refine v_iload_n (pc := 84) (show decode (tC tAc_writes) 84 = .ok (.iload_n 1, 1) by decide +kernel) 1 rfl rfl ?_
      obtain rfl := Option.some.inj h
      refine v_wide (ce2 := 0) (sl2 := 0) (by decide) (by decide) ?_
      exact v_iret (pc := 85) rfl (show decode (tC tAc_writes) 85 = .ok (.ireturn, 1) by decide +kernel)
    · replace h := ite_f c h
      refine v_aload_n (pc := 12) (show decode (tC tAc_writes) 12 = .ok (.aload_n 0, 1) by decide +kernel) 0 rfl rfl ?_
      obtain ⟨v3, e4, h⟩ := ob h
      refine v_getX (pc := 13) oF_Ac_9 e4 (show decode (tC tAc_writes) 13 = .ok (.getfield 9, 3) by decide +kernel) ?_
      refine v_iload_n (pc := 16) (show decode (tC tAc_writes) 16 = .ok (.iload_n 2, 1) by decide +kernel) 2 rfl rfl ?_
      obtain ⟨v5, e6, h⟩ := ob h
      refine v_iald (pc := 17) e6 (show decode (tC tAc_writes) 17 = .ok (.iaload, 1) by decide +kernel) ?_
      by_cases c0 : v5 = 4
      · replace h := ite_t c0 h
        refine v_tblIn (pc := 18) (off := 30) 48 (show decode (tC tAc_writes) 18 = .ok (.tableswitch 49 4 7 #[30, 30, 38, 46], 30) by decide +kernel) (by rw [c0]; decide) (by rw [c0]; decide) (by rw [c0]; decide) (by decide) ?_
        refine v_iload_n (pc := 48) (show decode (tC tAc_writes) 48 = .ok (.iload_n 1, 1) by decide +kernel) 1 rfl rfl ?_
        refine v_ldc (pc := 49) (v := 65536) (gT_in 956 (by decide +kernel) rfl) (show decode (tC tAc_writes) 49 = .ok (.ldc 28, 2) by decide +kernel) ?_
        refine v_ior (pc := 51) (show decode (tC tAc_writes) 51 = .ok (.ior, 1) by decide +kernel) ?_
        refine v_istore_n (pc := 52) [(1, .int (x1 ||| 65536)), (0, .ref x0), (2, .int x2)] (show decode (tC tAc_writes) 52 = .ok (.istore_n 1, 1) by decide +kernel) rfl (by decide) rfl ?_
        refine v_goto (pc := 53) 78 (show decode (tC tAc_writes) 53 = .ok (.goto 25, 3) by decide +kernel) (by decide) ?_
        refine v_iinc (pc := 78) (j := 2) [(2, .int (x2 + 1)), (1, .int (x1 ||| 65536)), (0, .ref x0)] (show decode (tC tAc_writes) 78 = .ok (.iinc 2 1, 3) by decide +kernel) rfl rfl (by decide) rfl ?_
        refine v_goto (pc := 81) 4 (show decode (tC tAc_writes) 81 = .ok (.goto (-77), 3) by decide +kernel) (by decide) ?_
        refine v_sub [(0, .ref x0), (1, .int (x1 ||| 65536)), (2, .int (x2 + 1))] [2, 1, 0] rfl ?_
        exact ih x0 (x1 ||| 65536) (x2 + 1) S h
      · replace h := ite_f c0 h
        by_cases c1 : v5 = 5
        · replace h := ite_t c1 h
          refine v_tblIn (pc := 18) (off := 30) 48 (show decode (tC tAc_writes) 18 = .ok (.tableswitch 49 4 7 #[30, 30, 38, 46], 30) by decide +kernel) (by rw [c1]; decide) (by rw [c1]; decide) (by rw [c1]; decide) (by decide) ?_
          refine v_iload_n (pc := 48) (show decode (tC tAc_writes) 48 = .ok (.iload_n 1, 1) by decide +kernel) 1 rfl rfl ?_
          refine v_ldc (pc := 49) (v := 65536) (gT_in 956 (by decide +kernel) rfl) (show decode (tC tAc_writes) 49 = .ok (.ldc 28, 2) by decide +kernel) ?_
          refine v_ior (pc := 51) (show decode (tC tAc_writes) 51 = .ok (.ior, 1) by decide +kernel) ?_
          refine v_istore_n (pc := 52) [(1, .int (x1 ||| 65536)), (0, .ref x0), (2, .int x2)] (show decode (tC tAc_writes) 52 = .ok (.istore_n 1, 1) by decide +kernel) rfl (by decide) rfl ?_
          refine v_goto (pc := 53) 78 (show decode (tC tAc_writes) 53 = .ok (.goto 25, 3) by decide +kernel) (by decide) ?_
          refine v_iinc (pc := 78) (j := 2) [(2, .int (x2 + 1)), (1, .int (x1 ||| 65536)), (0, .ref x0)] (show decode (tC tAc_writes) 78 = .ok (.iinc 2 1, 3) by decide +kernel) rfl rfl (by decide) rfl ?_
          refine v_goto (pc := 81) 4 (show decode (tC tAc_writes) 81 = .ok (.goto (-77), 3) by decide +kernel) (by decide) ?_
          refine v_sub [(0, .ref x0), (1, .int (x1 ||| 65536)), (2, .int (x2 + 1))] [2, 1, 0] rfl ?_
          exact ih x0 (x1 ||| 65536) (x2 + 1) S h
        · replace h := ite_f c1 h
          by_cases c2 : v5 = 6
          · replace h := ite_t c2 h
            refine v_tblIn (pc := 18) (off := 38) 56 (show decode (tC tAc_writes) 18 = .ok (.tableswitch 49 4 7 #[30, 30, 38, 46], 30) by decide +kernel) (by rw [c2]; decide) (by rw [c2]; decide) (by rw [c2]; decide) (by decide) ?_
            refine v_iload_n (pc := 56) (show decode (tC tAc_writes) 56 = .ok (.iload_n 1, 1) by decide +kernel) 1 rfl rfl ?_
            refine v_ldc (pc := 57) (v := 131072) (gT_in 957 (by decide +kernel) rfl) (show decode (tC tAc_writes) 57 = .ok (.ldc 29, 2) by decide +kernel) ?_
            refine v_ior (pc := 59) (show decode (tC tAc_writes) 59 = .ok (.ior, 1) by decide +kernel) ?_
            refine v_istore_n (pc := 60) [(1, .int (x1 ||| 131072)), (0, .ref x0), (2, .int x2)] (show decode (tC tAc_writes) 60 = .ok (.istore_n 1, 1) by decide +kernel) rfl (by decide) rfl ?_
            refine v_goto (pc := 61) 78 (show decode (tC tAc_writes) 61 = .ok (.goto 17, 3) by decide +kernel) (by decide) ?_
            refine v_iinc (pc := 78) (j := 2) [(2, .int (x2 + 1)), (1, .int (x1 ||| 131072)), (0, .ref x0)] (show decode (tC tAc_writes) 78 = .ok (.iinc 2 1, 3) by decide +kernel) rfl rfl (by decide) rfl ?_
            refine v_goto (pc := 81) 4 (show decode (tC tAc_writes) 81 = .ok (.goto (-77), 3) by decide +kernel) (by decide) ?_
            refine v_sub [(0, .ref x0), (1, .int (x1 ||| 131072)), (2, .int (x2 + 1))] [2, 1, 0] rfl ?_
            exact ih x0 (x1 ||| 131072) (x2 + 1) S h
          · replace h := ite_f c2 h
            by_cases c3 : v5 = 7
            · replace h := ite_t c3 h
              refine v_tblIn (pc := 18) (off := 46) 64 (show decode (tC tAc_writes) 18 = .ok (.tableswitch 49 4 7 #[30, 30, 38, 46], 30) by decide +kernel) (by rw [c3]; decide) (by rw [c3]; decide) (by rw [c3]; decide) (by decide) ?_
              refine v_goto (pc := 64) 78 (show decode (tC tAc_writes) 64 = .ok (.goto 14, 3) by decide +kernel) (by decide) ?_
              refine v_iinc (pc := 78) (j := 2) [(2, .int (x2 + 1)), (0, .ref x0), (1, .int x1)] (show decode (tC tAc_writes) 78 = .ok (.iinc 2 1, 3) by decide +kernel) rfl rfl (by decide) rfl ?_
              refine v_goto (pc := 81) 4 (show decode (tC tAc_writes) 81 = .ok (.goto (-77), 3) by decide +kernel) (by decide) ?_
              refine v_sub [(0, .ref x0), (1, .int x1), (2, .int (x2 + 1))] [1, 2, 0] rfl ?_
              exact ih x0 x1 (x2 + 1) S h
            · replace h := ite_f c3 h
              refine v_tblOut (pc := 18) 67 (show decode (tC tAc_writes) 18 = .ok (.tableswitch 49 4 7 #[30, 30, 38, 46], 30) by decide +kernel) (tbl_out 4 (fun i hi => match i, hi with | 0, _ => by have := toInt_ne c0; exact this | 1, _ => by have := toInt_ne c1; exact this | 2, _ => by have := toInt_ne c2; exact this | 3, _ => by have := toInt_ne c3; exact this | i + 4, hi => absurd hi (by omega)) (by decide)) (by decide) ?_
              refine v_iload_n (pc := 67) (show decode (tC tAc_writes) 67 = .ok (.iload_n 1, 1) by decide +kernel) 1 rfl rfl ?_
              refine v_iconst (pc := 68) (v := 1) (show decode (tC tAc_writes) 68 = .ok (.iconst 1, 1) by decide +kernel) (by decide) ?_
              refine v_aload_n (pc := 69) (show decode (tC tAc_writes) 69 = .ok (.aload_n 0, 1) by decide +kernel) 0 rfl rfl ?_
              obtain ⟨v7, e8, h⟩ := ob h
              refine v_getX (pc := 70) oF_Ac_15 e8 (show decode (tC tAc_writes) 70 = .ok (.getfield 15, 3) by decide +kernel) ?_
              refine v_iload_n (pc := 73) (show decode (tC tAc_writes) 73 = .ok (.iload_n 2, 1) by decide +kernel) 2 rfl rfl ?_
              obtain ⟨v9, e10, h⟩ := ob h
              refine v_iald (pc := 74) e10 (show decode (tC tAc_writes) 74 = .ok (.iaload, 1) by decide +kernel) ?_
              refine v_ishl (pc := 75) (show decode (tC tAc_writes) 75 = .ok (.ishl, 1) by decide +kernel) ?_
              refine v_ior (pc := 76) (show decode (tC tAc_writes) 76 = .ok (.ior, 1) by decide +kernel) ?_
              refine v_istore_n (pc := 77) [(1, .int (x1 ||| (1 <<< (v9 &&& 31)))), (0, .ref x0), (2, .int x2)] (show decode (tC tAc_writes) 77 = .ok (.istore_n 1, 1) by decide +kernel) rfl (by decide) rfl ?_
              refine v_iinc (pc := 78) (j := 2) [(2, .int (x2 + 1)), (1, .int (x1 ||| (1 <<< (v9 &&& 31)))), (0, .ref x0)] (show decode (tC tAc_writes) 78 = .ok (.iinc 2 1, 3) by decide +kernel) rfl rfl (by decide) rfl ?_
              refine v_goto (pc := 81) 4 (show decode (tC tAc_writes) 81 = .ok (.goto (-77), 3) by decide +kernel) (by decide) ?_
              refine v_sub [(0, .ref x0), (1, .int (x1 ||| (1 <<< (v9 &&& 31)))), (2, .int (x2 + 1))] [2, 1, 0] rfl ?_
              exact ih x0 (x1 ||| (1 <<< (v9 &&& 31))) (x2 + 1) S h
def fAc_writes (x0 : Nat) (S : Sx) : Option (Int32 × Sx) :=
    fAc_writes_4  fuel x0 0 0 S
set_option maxRecDepth 100000 in
set_option maxHeartbeats 4000000 in
theorem wAc_writes {Γ : vG} (hR : gR Γ = rAc_writes) (hl : (gl Γ).flags = pinnedFlags ++ [noTraceFlag]) (x0 : Nat) (S : Sx) {X : Int32 × Sx} (h : fAc_writes x0 S = some X) : vV Γ tAc_writes (mQ Γ 0 0 0 (some (.int X.1)) X.2) S 0 0 0 [(0, .ref x0)] [] := by
  unfold fAc_writes at h
  refine v_iconst (pc := 0) (v := 0) (show decode (tC tAc_writes) 0 = .ok (.iconst 0, 1) by decide +kernel) (by decide) ?_
  refine v_istore_n (pc := 1) [(1, .int 0), (0, .ref x0)] (show decode (tC tAc_writes) 1 = .ok (.istore_n 1, 1) by decide +kernel) rfl (by decide) rfl ?_
  refine v_iconst (pc := 2) (v := 0) (show decode (tC tAc_writes) 2 = .ok (.iconst 0, 1) by decide +kernel) (by decide) ?_
  refine v_istore_n (pc := 3) [(2, .int 0), (1, .int 0), (0, .ref x0)] (show decode (tC tAc_writes) 3 = .ok (.istore_n 2, 1) by decide +kernel) rfl (by decide) rfl ?_
  refine v_sub [(0, .ref x0), (1, .int 0), (2, .int 0)] [2, 1, 0] rfl ?_
  exact wAc_writes_4 hR hl  fuel x0 0 0 S h
theorem cAc_writes {l : Launch} (hl : l.flags = pinnedFlags ++ [noTraceFlag]) {D : va_G} {dA : Nat → ClassId} {B : Nat} {x0 : Nat} {S : Sx} {X : Int32 × Sx} (h : fAc_writes x0 S = some X) : Mx l yAc_writes tAc_writes rAc_writes 0 0 D dA B S [.ref x0] 0 (some (.int X.1)) X.2 :=
  mx_of hl (by decide) rfl rfl (Nat.le_of_ble_eq_true rfl) (fun Γ e1 e2 e3 e4 e5 => by subst e1; subst e3; subst e4; subst e5; exact wAc_writes e2 hl x0 S h)
/-! MatchPipe$State.next(I)I -/
def ySt_next : MethodName := ⟨"MatchPipe$State", "next", "(I)I"⟩
def tSt_next : tM := (prog_10_method_4_code, "MatchPipe$State", 3, "next", some .int, [])
def rSt_next : Room := { frames := 0, cells := 0, slots := 0, locals := 0 }
theorem kSt_next : cOf ySt_next tSt_next ∈ gT := gT_in 1073 (by decide +kernel) rfl
theorem iSt_next : Cond.initialized ySt_next.cls ∈ gT := gT_in 58 (by decide +kernel) rfl
theorem mSt_next : okM ySt_next 1 := ⟨by decide, by decide, by unfold nPar; decide +kernel⟩
theorem nSt_next : Cond.instanceMethod ySt_next ∈ gT := gT_in 1071 (by decide +kernel) rfl
theorem lSt_next : Cond.selects "MatchPipe$State" ySt_next ySt_next ∈ gT := gT_in 1072 (by decide +kernel) rfl
def fSt_next_2  : Nat → Nat → Int32 → Int32 → Sx → Option (Int32 × Sx)
  | 0, _, _, _, _ => none
  | n + 1, x0, x1, x2, S =>
    (gI S 2 6 x0).bind fun v1 =>
    if v1 ≤ x2 then
    ((gI S 2 7 x0).bind fun v3 =>
    some (v3, S))
    else
    ((gX S 2 1 x0).bind fun v5 =>
    (aI S v5 x2).bind fun v7 =>
    (gX S 2 2 x0).bind fun v9 =>
    (aI S v9 x2).bind fun v11 =>
    if ((x1 ^^^ v7) &&& v11) = 0 then
    ((gX S 2 3 x0).bind fun v13 =>
    (aI S v13 x2).bind fun v15 =>
    some (v15, S))
    else
    (fSt_next_2 n x0 x1 (x2 + 1) S))
set_option maxRecDepth 100000 in
set_option maxHeartbeats 4000000 in
theorem wSt_next_2 {Γ : vG} (hR : gR Γ = rSt_next) (hl : (gl Γ).flags = pinnedFlags ++ [noTraceFlag]) {X : Int32 × Sx}  : ∀ (n : Nat) (x0 : Nat) (x1 : Int32) (x2 : Int32) (S : Sx), fSt_next_2  n x0 x1 x2 S = some X → vV Γ tSt_next (mQ Γ 0 0 0 (some (.int X.1)) X.2) S 0 0 2 [(0, .ref x0), (1, .int x1), (2, .int x2)] [] := by
  intro n
  induction n with
  | zero => intro x0 x1 x2 S h; rw [fSt_next_2] at h; cases h
  | succ n ih =>
    intro x0 x1 x2 S h
    rw [fSt_next_2] at h
    refine v_iload_n (pc := 2) (show decode (tC tSt_next) 2 = .ok (.iload_n 2, 1) by decide +kernel) 2 rfl rfl ?_
    refine v_aload_n (pc := 3) (show decode (tC tSt_next) 3 = .ok (.aload_n 0, 1) by decide +kernel) 0 rfl rfl ?_
    obtain ⟨v1, e2, h⟩ := ob h
    refine v_getI (pc := 4) oF_St_31 (by decide) e2 (show decode (tC tSt_next) 4 = .ok (.getfield 31, 3) by decide +kernel) ?_
    refine v_icmp_ge (pc := 7) 41 (show decode (tC tSt_next) 7 = .ok (.if_icmp .ge 34, 3) by decide +kernel) (by decide) (fun c => ?_) (fun c => ?_)
    · replace h := ite_t c h
      refine v_aload_n (pc := 41) (show decode (tC tSt_next) 41 = .ok (.aload_n 0, 1) by decide +kernel) 0 rfl rfl ?_
      obtain ⟨v3, e4, h⟩ := ob h
      refine v_getI (pc := 42) oF_St_34 (by decide) e4 (show decode (tC tSt_next) 42 = .ok (.getfield 34, 3) by decide +kernel) ?_
      obtain rfl := Option.some.inj h
      refine v_wide (ce2 := 0) (sl2 := 0) (by decide) (by decide) ?_
      exact v_iret (pc := 45) rfl (show decode (tC tSt_next) 45 = .ok (.ireturn, 1) by decide +kernel)
    · replace h := ite_f c h
      refine v_iload_n (pc := 10) (show decode (tC tSt_next) 10 = .ok (.iload_n 1, 1) by decide +kernel) 1 rfl rfl ?_
      refine v_aload_n (pc := 11) (show decode (tC tSt_next) 11 = .ok (.aload_n 0, 1) by decide +kernel) 0 rfl rfl ?_
      obtain ⟨v5, e6, h⟩ := ob h
      refine v_getX (pc := 12) oF_St_15 e6 (show decode (tC tSt_next) 12 = .ok (.getfield 15, 3) by decide +kernel) ?_
      refine v_iload_n (pc := 15) (show decode (tC tSt_next) 15 = .ok (.iload_n 2, 1) by decide +kernel) 2 rfl rfl ?_
      obtain ⟨v7, e8, h⟩ := ob h
      refine v_iald (pc := 16) e8 (show decode (tC tSt_next) 16 = .ok (.iaload, 1) by decide +kernel) ?_
      refine v_ixor (pc := 17) (show decode (tC tSt_next) 17 = .ok (.ixor, 1) by decide +kernel) ?_
      refine v_aload_n (pc := 18) (show decode (tC tSt_next) 18 = .ok (.aload_n 0, 1) by decide +kernel) 0 rfl rfl ?_
      obtain ⟨v9, e10, h⟩ := ob h
      refine v_getX (pc := 19) oF_St_18 e10 (show decode (tC tSt_next) 19 = .ok (.getfield 18, 3) by decide +kernel) ?_
      refine v_iload_n (pc := 22) (show decode (tC tSt_next) 22 = .ok (.iload_n 2, 1) by decide +kernel) 2 rfl rfl ?_
      obtain ⟨v11, e12, h⟩ := ob h
      refine v_iald (pc := 23) e12 (show decode (tC tSt_next) 23 = .ok (.iaload, 1) by decide +kernel) ?_
      refine v_iand (pc := 24) (show decode (tC tSt_next) 24 = .ok (.iand, 1) by decide +kernel) ?_
      refine v_if_ne (pc := 25) 35 (show decode (tC tSt_next) 25 = .ok (.ifCond .ne 10, 3) by decide +kernel) (by decide) (fun c => ?_) (fun c => ?_)
      · replace h := ite_f c h
        refine v_iinc (pc := 35) (j := 2) [(2, .int (x2 + 1)), (0, .ref x0), (1, .int x1)] (show decode (tC tSt_next) 35 = .ok (.iinc 2 1, 3) by decide +kernel) rfl rfl (by decide) rfl ?_
        refine v_goto (pc := 38) 2 (show decode (tC tSt_next) 38 = .ok (.goto (-36), 3) by decide +kernel) (by decide) ?_
        refine v_sub [(0, .ref x0), (1, .int x1), (2, .int (x2 + 1))] [1, 2, 0] rfl ?_
        exact ih x0 x1 (x2 + 1) S h
      · replace h := ite_t c h
        refine v_aload_n (pc := 28) (show decode (tC tSt_next) 28 = .ok (.aload_n 0, 1) by decide +kernel) 0 rfl rfl ?_
        obtain ⟨v13, e14, h⟩ := ob h
        refine v_getX (pc := 29) oF_St_21 e14 (show decode (tC tSt_next) 29 = .ok (.getfield 21, 3) by decide +kernel) ?_
        refine v_iload_n (pc := 32) (show decode (tC tSt_next) 32 = .ok (.iload_n 2, 1) by decide +kernel) 2 rfl rfl ?_
        obtain ⟨v15, e16, h⟩ := ob h
        refine v_iald (pc := 33) e16 (show decode (tC tSt_next) 33 = .ok (.iaload, 1) by decide +kernel) ?_
        obtain rfl := Option.some.inj h
        refine v_wide (ce2 := 0) (sl2 := 0) (by decide) (by decide) ?_
        exact v_iret (pc := 34) rfl (show decode (tC tSt_next) 34 = .ok (.ireturn, 1) by decide +kernel)
def fSt_next (x0 : Nat) (x1 : Int32) (S : Sx) : Option (Int32 × Sx) :=
    fSt_next_2  fuel x0 x1 0 S
set_option maxRecDepth 100000 in
set_option maxHeartbeats 4000000 in
theorem wSt_next {Γ : vG} (hR : gR Γ = rSt_next) (hl : (gl Γ).flags = pinnedFlags ++ [noTraceFlag]) (x0 : Nat) (x1 : Int32) (S : Sx) {X : Int32 × Sx} (h : fSt_next x0 x1 S = some X) : vV Γ tSt_next (mQ Γ 0 0 0 (some (.int X.1)) X.2) S 0 0 0 [(0, .ref x0), (1, .int x1)] [] := by
  unfold fSt_next at h
  refine v_iconst (pc := 0) (v := 0) (show decode (tC tSt_next) 0 = .ok (.iconst 0, 1) by decide +kernel) (by decide) ?_
  refine v_istore_n (pc := 1) [(2, .int 0), (0, .ref x0), (1, .int x1)] (show decode (tC tSt_next) 1 = .ok (.istore_n 2, 1) by decide +kernel) rfl (by decide) rfl ?_
  refine v_sub [(0, .ref x0), (1, .int x1), (2, .int 0)] [1, 2, 0] rfl ?_
  exact wSt_next_2 hR hl  fuel x0 x1 0 S h
theorem cSt_next {l : Launch} (hl : l.flags = pinnedFlags ++ [noTraceFlag]) {D : va_G} {dA : Nat → ClassId} {B : Nat} {x0 : Nat} {x1 : Int32} {S : Sx} {X : Int32 × Sx} (h : fSt_next x0 x1 S = some X) : Mx l ySt_next tSt_next rSt_next 0 0 D dA B S [.ref x0, .int x1] 0 (some (.int X.1)) X.2 :=
  mx_of hl (by decide) rfl rfl (Nat.le_of_ble_eq_true rfl) (fun Γ e1 e2 e3 e4 e5 => by subst e1; subst e3; subst e4; subst e5; exact wSt_next e2 hl x0 x1 S h)
/-! java/lang/Integer.bitCount(I)I -/
def yJI_bitCount : MethodName := ⟨"java/lang/Integer", "bitCount", "(I)I"⟩
def tJI_bitCount : tM := (prog_19_method_49_code, "java/lang/Integer", 1, "bitCount", some .int, [])
def rJI_bitCount : Room := { frames := 0, cells := 0, slots := 0, locals := 0 }
theorem kJI_bitCount : cOf yJI_bitCount tJI_bitCount ∈ gT := gT_in 1134 (by decide +kernel) rfl
theorem iJI_bitCount : Cond.initialized yJI_bitCount.cls ∈ gT := gT_in 76 (by decide +kernel) rfl
theorem mJI_bitCount : okM yJI_bitCount 1 := ⟨by decide, by decide, by unfold nPar; decide +kernel⟩
theorem sJI_bitCount : Cond.static yJI_bitCount ∈ gT := gT_in 1133 (by decide +kernel) rfl
def fJI_bitCount (x0 : Int32) (S : Sx) : Option (Int32 × Sx) :=
    some ((((((((x0 - ((iushr x0 1) &&& 1431655765)) &&& 858993459) + ((iushr (x0 - ((iushr x0 1) &&& 1431655765)) 2) &&& 858993459)) + (iushr (((x0 - ((iushr x0 1) &&& 1431655765)) &&& 858993459) + ((iushr (x0 - ((iushr x0 1) &&& 1431655765)) 2) &&& 858993459)) 4)) &&& 252645135) + (iushr (((((x0 - ((iushr x0 1) &&& 1431655765)) &&& 858993459) + ((iushr (x0 - ((iushr x0 1) &&& 1431655765)) 2) &&& 858993459)) + (iushr (((x0 - ((iushr x0 1) &&& 1431655765)) &&& 858993459) + ((iushr (x0 - ((iushr x0 1) &&& 1431655765)) 2) &&& 858993459)) 4)) &&& 252645135) 8)) + (iushr ((((((x0 - ((iushr x0 1) &&& 1431655765)) &&& 858993459) + ((iushr (x0 - ((iushr x0 1) &&& 1431655765)) 2) &&& 858993459)) + (iushr (((x0 - ((iushr x0 1) &&& 1431655765)) &&& 858993459) + ((iushr (x0 - ((iushr x0 1) &&& 1431655765)) 2) &&& 858993459)) 4)) &&& 252645135) + (iushr (((((x0 - ((iushr x0 1) &&& 1431655765)) &&& 858993459) + ((iushr (x0 - ((iushr x0 1) &&& 1431655765)) 2) &&& 858993459)) + (iushr (((x0 - ((iushr x0 1) &&& 1431655765)) &&& 858993459) + ((iushr (x0 - ((iushr x0 1) &&& 1431655765)) 2) &&& 858993459)) 4)) &&& 252645135) 8)) 16)) &&& 63, S)
set_option maxRecDepth 100000 in
set_option maxHeartbeats 4000000 in
theorem wJI_bitCount {Γ : vG} (hR : gR Γ = rJI_bitCount) (hl : (gl Γ).flags = pinnedFlags ++ [noTraceFlag]) (x0 : Int32) (S : Sx) {X : Int32 × Sx} (h : fJI_bitCount x0 S = some X) : vV Γ tJI_bitCount (mQ Γ 0 0 0 (some (.int X.1)) X.2) S 0 0 0 [(0, .int x0)] [] := by
  unfold fJI_bitCount at h
  refine v_iload_n (pc := 0) (show decode (tC tJI_bitCount) 0 = .ok (.iload_n 0, 1) by decide +kernel) 0 rfl rfl ?_
  refine v_iload_n (pc := 1) (show decode (tC tJI_bitCount) 1 = .ok (.iload_n 0, 1) by decide +kernel) 0 rfl rfl ?_
  refine v_iconst (pc := 2) (v := 1) (show decode (tC tJI_bitCount) 2 = .ok (.iconst 1, 1) by decide +kernel) (by decide) ?_
  refine v_iushr (pc := 3) (show decode (tC tJI_bitCount) 3 = .ok (.iushr, 1) by decide +kernel) ?_
  refine v_ldcw (pc := 4) (v := 1431655765) (gT_in 1135 (by decide +kernel) rfl) (show decode (tC tJI_bitCount) 4 = .ok (.ldc_w 265, 3) by decide +kernel) ?_
  refine v_iand (pc := 7) (show decode (tC tJI_bitCount) 7 = .ok (.iand, 1) by decide +kernel) ?_
  refine v_isub (pc := 8) (show decode (tC tJI_bitCount) 8 = .ok (.isub, 1) by decide +kernel) ?_
  refine v_istore_n (pc := 9) [(0, .int (x0 - ((iushr x0 1) &&& 1431655765)))] (show decode (tC tJI_bitCount) 9 = .ok (.istore_n 0, 1) by decide +kernel) rfl (by decide) rfl ?_
  refine v_iload_n (pc := 10) (show decode (tC tJI_bitCount) 10 = .ok (.iload_n 0, 1) by decide +kernel) 0 rfl rfl ?_
  refine v_ldcw (pc := 11) (v := 858993459) (gT_in 1136 (by decide +kernel) rfl) (show decode (tC tJI_bitCount) 11 = .ok (.ldc_w 266, 3) by decide +kernel) ?_
  refine v_iand (pc := 14) (show decode (tC tJI_bitCount) 14 = .ok (.iand, 1) by decide +kernel) ?_
  refine v_iload_n (pc := 15) (show decode (tC tJI_bitCount) 15 = .ok (.iload_n 0, 1) by decide +kernel) 0 rfl rfl ?_
  refine v_iconst (pc := 16) (v := 2) (show decode (tC tJI_bitCount) 16 = .ok (.iconst 2, 1) by decide +kernel) (by decide) ?_
  refine v_iushr (pc := 17) (show decode (tC tJI_bitCount) 17 = .ok (.iushr, 1) by decide +kernel) ?_
  refine v_ldcw (pc := 18) (v := 858993459) (gT_in 1136 (by decide +kernel) rfl) (show decode (tC tJI_bitCount) 18 = .ok (.ldc_w 266, 3) by decide +kernel) ?_
  refine v_iand (pc := 21) (show decode (tC tJI_bitCount) 21 = .ok (.iand, 1) by decide +kernel) ?_
  refine v_iadd (pc := 22) (show decode (tC tJI_bitCount) 22 = .ok (.iadd, 1) by decide +kernel) ?_
  refine v_istore_n (pc := 23) [(0, .int (((x0 - ((iushr x0 1) &&& 1431655765)) &&& 858993459) + ((iushr (x0 - ((iushr x0 1) &&& 1431655765)) 2) &&& 858993459)))] (show decode (tC tJI_bitCount) 23 = .ok (.istore_n 0, 1) by decide +kernel) rfl (by decide) rfl ?_
  refine v_iload_n (pc := 24) (show decode (tC tJI_bitCount) 24 = .ok (.iload_n 0, 1) by decide +kernel) 0 rfl rfl ?_
  refine v_iload_n (pc := 25) (show decode (tC tJI_bitCount) 25 = .ok (.iload_n 0, 1) by decide +kernel) 0 rfl rfl ?_
  refine v_iconst (pc := 26) (v := 4) (show decode (tC tJI_bitCount) 26 = .ok (.iconst 4, 1) by decide +kernel) (by decide) ?_
  refine v_iushr (pc := 27) (show decode (tC tJI_bitCount) 27 = .ok (.iushr, 1) by decide +kernel) ?_
  refine v_iadd (pc := 28) (show decode (tC tJI_bitCount) 28 = .ok (.iadd, 1) by decide +kernel) ?_
  refine v_ldcw (pc := 29) (v := 252645135) (gT_in 1137 (by decide +kernel) rfl) (show decode (tC tJI_bitCount) 29 = .ok (.ldc_w 267, 3) by decide +kernel) ?_
  refine v_iand (pc := 32) (show decode (tC tJI_bitCount) 32 = .ok (.iand, 1) by decide +kernel) ?_
  refine v_istore_n (pc := 33) [(0, .int (((((x0 - ((iushr x0 1) &&& 1431655765)) &&& 858993459) + ((iushr (x0 - ((iushr x0 1) &&& 1431655765)) 2) &&& 858993459)) + (iushr (((x0 - ((iushr x0 1) &&& 1431655765)) &&& 858993459) + ((iushr (x0 - ((iushr x0 1) &&& 1431655765)) 2) &&& 858993459)) 4)) &&& 252645135))] (show decode (tC tJI_bitCount) 33 = .ok (.istore_n 0, 1) by decide +kernel) rfl (by decide) rfl ?_
  refine v_iload_n (pc := 34) (show decode (tC tJI_bitCount) 34 = .ok (.iload_n 0, 1) by decide +kernel) 0 rfl rfl ?_
  refine v_iload_n (pc := 35) (show decode (tC tJI_bitCount) 35 = .ok (.iload_n 0, 1) by decide +kernel) 0 rfl rfl ?_
  refine v_bipush (pc := 36) (v := 8) (show decode (tC tJI_bitCount) 36 = .ok (.bipush 8, 2) by decide +kernel) (by decide) ?_
  refine v_iushr (pc := 38) (show decode (tC tJI_bitCount) 38 = .ok (.iushr, 1) by decide +kernel) ?_
  refine v_iadd (pc := 39) (show decode (tC tJI_bitCount) 39 = .ok (.iadd, 1) by decide +kernel) ?_
  refine v_istore_n (pc := 40) [(0, .int ((((((x0 - ((iushr x0 1) &&& 1431655765)) &&& 858993459) + ((iushr (x0 - ((iushr x0 1) &&& 1431655765)) 2) &&& 858993459)) + (iushr (((x0 - ((iushr x0 1) &&& 1431655765)) &&& 858993459) + ((iushr (x0 - ((iushr x0 1) &&& 1431655765)) 2) &&& 858993459)) 4)) &&& 252645135) + (iushr (((((x0 - ((iushr x0 1) &&& 1431655765)) &&& 858993459) + ((iushr (x0 - ((iushr x0 1) &&& 1431655765)) 2) &&& 858993459)) + (iushr (((x0 - ((iushr x0 1) &&& 1431655765)) &&& 858993459) + ((iushr (x0 - ((iushr x0 1) &&& 1431655765)) 2) &&& 858993459)) 4)) &&& 252645135) 8)))] (show decode (tC tJI_bitCount) 40 = .ok (.istore_n 0, 1) by decide +kernel) rfl (by decide) rfl ?_
  refine v_iload_n (pc := 41) (show decode (tC tJI_bitCount) 41 = .ok (.iload_n 0, 1) by decide +kernel) 0 rfl rfl ?_
  refine v_iload_n (pc := 42) (show decode (tC tJI_bitCount) 42 = .ok (.iload_n 0, 1) by decide +kernel) 0 rfl rfl ?_
  refine v_bipush (pc := 43) (v := 16) (show decode (tC tJI_bitCount) 43 = .ok (.bipush 16, 2) by decide +kernel) (by decide) ?_
  refine v_iushr (pc := 45) (show decode (tC tJI_bitCount) 45 = .ok (.iushr, 1) by decide +kernel) ?_
  refine v_iadd (pc := 46) (show decode (tC tJI_bitCount) 46 = .ok (.iadd, 1) by decide +kernel) ?_
  refine v_istore_n (pc := 47) [(0, .int (((((((x0 - ((iushr x0 1) &&& 1431655765)) &&& 858993459) + ((iushr (x0 - ((iushr x0 1) &&& 1431655765)) 2) &&& 858993459)) + (iushr (((x0 - ((iushr x0 1) &&& 1431655765)) &&& 858993459) + ((iushr (x0 - ((iushr x0 1) &&& 1431655765)) 2) &&& 858993459)) 4)) &&& 252645135) + (iushr (((((x0 - ((iushr x0 1) &&& 1431655765)) &&& 858993459) + ((iushr (x0 - ((iushr x0 1) &&& 1431655765)) 2) &&& 858993459)) + (iushr (((x0 - ((iushr x0 1) &&& 1431655765)) &&& 858993459) + ((iushr (x0 - ((iushr x0 1) &&& 1431655765)) 2) &&& 858993459)) 4)) &&& 252645135) 8)) + (iushr ((((((x0 - ((iushr x0 1) &&& 1431655765)) &&& 858993459) + ((iushr (x0 - ((iushr x0 1) &&& 1431655765)) 2) &&& 858993459)) + (iushr (((x0 - ((iushr x0 1) &&& 1431655765)) &&& 858993459) + ((iushr (x0 - ((iushr x0 1) &&& 1431655765)) 2) &&& 858993459)) 4)) &&& 252645135) + (iushr (((((x0 - ((iushr x0 1) &&& 1431655765)) &&& 858993459) + ((iushr (x0 - ((iushr x0 1) &&& 1431655765)) 2) &&& 858993459)) + (iushr (((x0 - ((iushr x0 1) &&& 1431655765)) &&& 858993459) + ((iushr (x0 - ((iushr x0 1) &&& 1431655765)) 2) &&& 858993459)) 4)) &&& 252645135) 8)) 16)))] (show decode (tC tJI_bitCount) 47 = .ok (.istore_n 0, 1) by decide +kernel) rfl (by decide) rfl ?_
  refine v_iload_n (pc := 48) (show decode (tC tJI_bitCount) 48 = .ok (.iload_n 0, 1) by decide +kernel) 0 rfl rfl ?_
  refine v_bipush (pc := 49) (v := 63) (show decode (tC tJI_bitCount) 49 = .ok (.bipush 63, 2) by decide +kernel) (by decide) ?_
  refine v_iand (pc := 51) (show decode (tC tJI_bitCount) 51 = .ok (.iand, 1) by decide +kernel) ?_
  obtain rfl := Option.some.inj h
  refine v_wide (ce2 := 0) (sl2 := 0) (by decide) (by decide) ?_
  exact v_iret (pc := 52) rfl (show decode (tC tJI_bitCount) 52 = .ok (.ireturn, 1) by decide +kernel)
theorem cJI_bitCount {l : Launch} (hl : l.flags = pinnedFlags ++ [noTraceFlag]) {D : va_G} {dA : Nat → ClassId} {B : Nat} {x0 : Int32} {S : Sx} {X : Int32 × Sx} (h : fJI_bitCount x0 S = some X) : Mx l yJI_bitCount tJI_bitCount rJI_bitCount 0 0 D dA B S [.int x0] 0 (some (.int X.1)) X.2 :=
  mx_of hl (by decide) rfl rfl (Nat.le_of_ble_eq_true rfl) (fun Γ e1 e2 e3 e4 e5 => by subst e1; subst e3; subst e4; subst e5; exact wJI_bitCount e2 hl x0 S h)
