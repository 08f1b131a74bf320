theorem oF_Op_25 : okF "MatchPipe$Operation" 25 9 3 0 := ⟨_, rfl, by decide, gT_in 398 (by decide +kernel) rfl, rfl⟩
theorem oF_Op_29 : okF "MatchPipe$Operation" 29 9 4 0 := ⟨_, rfl, by decide, gT_in 401 (by decide +kernel) rfl, rfl⟩
theorem oF_Op_32 : okF "MatchPipe$Operation" 32 9 5 0 := ⟨_, rfl, by decide, gT_in 403 (by decide +kernel) rfl, rfl⟩
theorem oF_Ta_11 : okF "MatchPipe$Table" 11 4 0 1 := ⟨_, rfl, by decide, gT_in 215 (by decide +kernel) rfl, rfl⟩
theorem oF_Ta_18 : okF "MatchPipe$Table" 18 4 2 0 := ⟨_, rfl, by decide, gT_in 218 (by decide +kernel) rfl, rfl⟩
theorem oF_Ta_22 : okF "MatchPipe$Table" 22 4 3 0 := ⟨_, rfl, by decide, gT_in 221 (by decide +kernel) rfl, rfl⟩
theorem oF_Ta_25 : okF "MatchPipe$Table" 25 4 4 0 := ⟨_, rfl, by decide, gT_in 222 (by decide +kernel) rfl, rfl⟩
theorem oF_Ta_28 : okF "MatchPipe$Table" 28 4 5 0 := ⟨_, rfl, by decide, gT_in 223 (by decide +kernel) rfl, rfl⟩
theorem oF_Ta_31 : okF "MatchPipe$Table" 31 4 6 0 := ⟨_, rfl, by decide, gT_in 226 (by decide +kernel) rfl, rfl⟩
theorem oF_Ta_34 : okF "MatchPipe$Table" 34 4 7 0 := ⟨_, rfl, by decide, gT_in 227 (by decide +kernel) rfl, rfl⟩
theorem oF_Ta_37 : okF "MatchPipe$Table" 37 4 1 0 := ⟨_, rfl, by decide, gT_in 216 (by decide +kernel) rfl, rfl⟩
theorem oF_Ta_40 : okF "MatchPipe$Table" 40 4 8 0 := ⟨_, rfl, by decide, gT_in 228 (by decide +kernel) rfl, rfl⟩
theorem oF_Ta_43 : okF "MatchPipe$Table" 43 4 9 0 := ⟨_, rfl, by decide, gT_in 230 (by decide +kernel) rfl, rfl⟩
theorem oF_Ta_50 : okF "MatchPipe$Table" 50 5 1 0 := ⟨_, rfl, by decide, gT_in 185 (by decide +kernel) rfl, rfl⟩
theorem oF_Ta_57 : okF "MatchPipe$Table" 57 5 3 0 := ⟨_, rfl, by decide, gT_in 188 (by decide +kernel) rfl, rfl⟩
theorem oF_Ta_60 : okF "MatchPipe$Table" 60 5 5 0 := ⟨_, rfl, by decide, gT_in 192 (by decide +kernel) rfl, rfl⟩
theorem oF_Ta_91 : okF "MatchPipe$Table" 91 5 4 0 := ⟨_, rfl, by decide, gT_in 190 (by decide +kernel) rfl, rfl⟩
/-! MatchPipe$Operation.isWhole()Z -/
def yOp_isWhole : MethodName := ⟨"MatchPipe$Operation", "isWhole", "()Z"⟩
def tOp_isWhole : tM := (prog_8_method_3_code, "MatchPipe$Operation", 1, "isWhole", some .boolean, [])
def rOp_isWhole : Room := { frames := 0, cells := 0, slots := 0, locals := 0 }
theorem kOp_isWhole : cOf yOp_isWhole tOp_isWhole ∈ gT := gT_in 605 (by decide +kernel) rfl
theorem iOp_isWhole : Cond.initialized yOp_isWhole.cls ∈ gT := gT_in 64 (by decide +kernel) rfl
theorem mOp_isWhole : okM yOp_isWhole 0 := ⟨by decide, by decide, by unfold nPar; decide +kernel⟩
theorem nOp_isWhole : Cond.instanceMethod yOp_isWhole ∈ gT := gT_in 603 (by decide +kernel) rfl
theorem lOp_isWhole : Cond.selects "MatchPipe$Operation" yOp_isWhole yOp_isWhole ∈ gT := gT_in 604 (by decide +kernel) rfl
def fOp_isWhole (x0 : Nat) (S : Sx) : Option (Int32 × Sx) :=
    (gI S 9 3 x0).bind fun v1 =>
    if v1 = 0 then
    ((gI S 9 5 x0).bind fun v3 =>
    if v3 = 0 then
    (some (1, S))
    else
    (some (0, S)))
    else
    (some (0, S))
set_option maxRecDepth 100000 in
set_option maxHeartbeats 4000000 in
theorem wOp_isWhole {Γ : vG} (hR : gR Γ = rOp_isWhole) (hl : (gl Γ).flags = pinnedFlags ++ [noTraceFlag]) (x0 : Nat) (S : Sx) {X : Int32 × Sx} (h : fOp_isWhole x0 S = some X) : vV Γ tOp_isWhole (mQ Γ 0 0 0 (some (.int X.1)) X.2) S 0 0 0 [(0, .ref x0)] [] := by
  unfold fOp_isWhole at h
  refine v_aload_n (pc := 0) (show decode (tC tOp_isWhole) 0 = .ok (.aload_n 0, 1) by decide +kernel) 0 rfl rfl ?_
  obtain ⟨v1, e2, h⟩ := ob h
  refine v_getI (pc := 1) oF_Op_25 (by decide) e2 (show decode (tC tOp_isWhole) 1 = .ok (.getfield 25, 3) by decide +kernel) ?_
  refine v_if_ne (pc := 4) 18 (show decode (tC tOp_isWhole) 4 = .ok (.ifCond .ne 14, 3) by decide +kernel) (by decide) (fun c => ?_) (fun c => ?_)
  · replace h := ite_f c h
    refine v_iconst (pc := 18) (v := 0) (show decode (tC tOp_isWhole) 18 = .ok (.iconst 0, 1) by decide +kernel) (by decide) ?_
    obtain rfl := Option.some.inj h
    refine v_wide (ce2 := 0) (sl2 := 0) (by decide) (by decide) ?_
    exact v_zret (pc := 19) rfl (Or.inl rfl) (show decode (tC tOp_isWhole) 19 = .ok (.ireturn, 1) by decide +kernel)
  · replace h := ite_t c h
    refine v_aload_n (pc := 7) (show decode (tC tOp_isWhole) 7 = .ok (.aload_n 0, 1) by decide +kernel) 0 rfl rfl ?_
    obtain ⟨v3, e4, h⟩ := ob h
    refine v_getI (pc := 8) oF_Op_32 (by decide) e4 (show decode (tC tOp_isWhole) 8 = .ok (.getfield 32, 3) by decide +kernel) ?_
    refine v_if_ne (pc := 11) 18 (show decode (tC tOp_isWhole) 11 = .ok (.ifCond .ne 7, 3) by decide +kernel) (by decide) (fun c => ?_) (fun c => ?_)
    · replace h := ite_f c h
      refine v_iconst (pc := 18) (v := 0) (show decode (tC tOp_isWhole) 18 = .ok (.iconst 0, 1) by decide +kernel) (by decide) ?_
      obtain rfl := Option.some.inj h
      refine v_wide (ce2 := 0) (sl2 := 0) (by decide) (by decide) ?_
      exact v_zret (pc := 19) rfl (Or.inl rfl) (show decode (tC tOp_isWhole) 19 = .ok (.ireturn, 1) by decide +kernel)
    · replace h := ite_t c h
      refine v_iconst (pc := 14) (v := 1) (show decode (tC tOp_isWhole) 14 = .ok (.iconst 1, 1) by decide +kernel) (by decide) ?_
      refine v_goto (pc := 15) 19 (show decode (tC tOp_isWhole) 15 = .ok (.goto 4, 3) by decide +kernel) (by decide) ?_
      obtain rfl := Option.some.inj h
      refine v_wide (ce2 := 0) (sl2 := 0) (by decide) (by decide) ?_
      exact v_zret (pc := 19) rfl (Or.inr rfl) (show decode (tC tOp_isWhole) 19 = .ok (.ireturn, 1) by decide +kernel)
theorem cOp_isWhole {l : Launch} (hl : l.flags = pinnedFlags ++ [noTraceFlag]) {D : va_G} {dA : Nat → ClassId} {B : Nat} {x0 : Nat} {S : Sx} {X : Int32 × Sx} (h : fOp_isWhole x0 S = some X) : Mx l yOp_isWhole tOp_isWhole rOp_isWhole 0 0 D dA B S [.ref x0] 0 (some (.int X.1)) X.2 :=
  mx_of hl (by decide) rfl rfl (Nat.le_of_ble_eq_true rfl) (fun Γ e1 e2 e3 e4 e5 => by subst e1; subst e3; subst e4; subst e5; exact wOp_isWhole e2 hl x0 S h)
/-! MatchPipe$Table.setActions(II)V -/
def yTa_setActions : MethodName := ⟨"MatchPipe$Table", "setActions", "(II)V"⟩
def tTa_setActions : tM := (prog_12_method_3_code, "MatchPipe$Table", 3, "setActions", none, [])
def rTa_setActions : Room := { frames := 0, cells := 0, slots := 0, locals := 0 }
theorem kTa_setActions : cOf yTa_setActions tTa_setActions ∈ gT := gT_in 850 (by decide +kernel) rfl
theorem iTa_setActions : Cond.initialized yTa_setActions.cls ∈ gT := gT_in 60 (by decide +kernel) rfl
theorem mTa_setActions : okM yTa_setActions 2 := ⟨by decide, by decide, by unfold nPar; decide +kernel⟩
theorem nTa_setActions : Cond.instanceMethod yTa_setActions ∈ gT := gT_in 848 (by decide +kernel) rfl
theorem lTa_setActions : Cond.selects "MatchPipe$Table" yTa_setActions yTa_setActions ∈ gT := gT_in 849 (by decide +kernel) rfl
def fTa_setActions (x0 : Nat) (x1 : Int32) (x2 : Int32) (S : Sx) : Option (Sx) :=
    (pI S 4 8 x0 x1).bind fun S1 =>
    (pI S1 4 9 x0 x2).bind fun S3 =>
    some S3
set_option maxRecDepth 100000 in
set_option maxHeartbeats 4000000 in
theorem wTa_setActions {Γ : vG} (hR : gR Γ = rTa_setActions) (hl : (gl Γ).flags = pinnedFlags ++ [noTraceFlag]) (x0 : Nat) (x1 : Int32) (x2 : Int32) (S : Sx) {X : Sx} (h : fTa_setActions x0 x1 x2 S = some X) : vV Γ tTa_setActions (mQ Γ 0 0 0 none X) S 0 0 0 [(0, .ref x0), (1, .int x1), (2, .int x2)] [] := by
  unfold fTa_setActions at h
  refine v_aload_n (pc := 0) (show decode (tC tTa_setActions) 0 = .ok (.aload_n 0, 1) by decide +kernel) 0 rfl rfl ?_
  refine v_iload_n (pc := 1) (show decode (tC tTa_setActions) 1 = .ok (.iload_n 1, 1) by decide +kernel) 1 rfl rfl ?_
  obtain ⟨S1, e2, h⟩ := ob h
  refine v_putI (pc := 2) oF_Ta_40 (fin_ok (kd := 4) (k := 8) (by decide +kernel)) e2 (show decode (tC tTa_setActions) 2 = .ok (.putfield 40, 3) by decide +kernel) ?_
  refine v_aload_n (pc := 5) (show decode (tC tTa_setActions) 5 = .ok (.aload_n 0, 1) by decide +kernel) 0 rfl rfl ?_
  refine v_iload_n (pc := 6) (show decode (tC tTa_setActions) 6 = .ok (.iload_n 2, 1) by decide +kernel) 2 rfl rfl ?_
  obtain ⟨S3, e4, h⟩ := ob h
  refine v_putI (pc := 7) oF_Ta_43 (fin_ok (kd := 4) (k := 9) (by decide +kernel)) e4 (show decode (tC tTa_setActions) 7 = .ok (.putfield 43, 3) by decide +kernel) ?_
  obtain rfl := Option.some.inj h
  refine v_wide (ce2 := 0) (sl2 := 0) (by decide) (by decide) ?_
  exact v_vret (pc := 10) rfl (show decode (tC tTa_setActions) 10 = .ok (.return_, 1) by decide +kernel)
theorem cTa_setActions {l : Launch} (hl : l.flags = pinnedFlags ++ [noTraceFlag]) {D : va_G} {dA : Nat → ClassId} {B : Nat} {x0 : Nat} {x1 : Int32} {x2 : Int32} {S : Sx} {X : Sx} (h : fTa_setActions x0 x1 x2 S = some X) : Mx l yTa_setActions tTa_setActions rTa_setActions 0 0 D dA B S [.ref x0, .int x1, .int x2] 0 none X :=
  mx_of hl (by decide) rfl rfl (Nat.le_of_ble_eq_true rfl) (fun Γ e1 e2 e3 e4 e5 => by subst e1; subst e3; subst e4; subst e5; exact wTa_setActions e2 hl x0 x1 x2 S h)
/-! MatchPipe$Table.setKeys(IIIII)V -/
def yTa_setKeys : MethodName := ⟨"MatchPipe$Table", "setKeys", "(IIIII)V"⟩
def tTa_setKeys : tM := (prog_12_method_2_code, "MatchPipe$Table", 6, "setKeys", none, [])
def rTa_setKeys : Room := { frames := 0, cells := 0, slots := 0, locals := 0 }
theorem kTa_setKeys : cOf yTa_setKeys tTa_setKeys ∈ gT := gT_in 846 (by decide +kernel) rfl
theorem iTa_setKeys : Cond.initialized yTa_setKeys.cls ∈ gT := gT_in 60 (by decide +kernel) rfl
theorem mTa_setKeys : okM yTa_setKeys 5 := ⟨by decide, by decide, by unfold nPar; decide +kernel⟩
theorem nTa_setKeys : Cond.instanceMethod yTa_setKeys ∈ gT := gT_in 844 (by decide +kernel) rfl
theorem lTa_setKeys : Cond.selects "MatchPipe$Table" yTa_setKeys yTa_setKeys ∈ gT := gT_in 845 (by decide +kernel) rfl
def fTa_setKeys (x0 : Nat) (x1 : Int32) (x2 : Int32) (x3 : Int32) (x4 : Int32) (x5 : Int32) (S : Sx) : Option (Sx) :=
    (pI S 4 2 x0 x1).bind fun S1 =>
    (pI S1 4 3 x0 x2).bind fun S3 =>
    (pI S3 4 4 x0 (x5 &&& 3)).bind fun S5 =>
    (pI S5 4 5 x0 x3).bind fun S7 =>
    (pI S7 4 6 x0 x4).bind fun S9 =>
    (pI S9 4 7 x0 (x5 >>> (2 &&& 31))).bind fun S11 =>
    (pI S11 4 1 x0 0).bind fun S13 =>
    some S13
set_option maxRecDepth 100000 in
set_option maxHeartbeats 4000000 in
theorem wTa_setKeys {Γ : vG} (hR : gR Γ = rTa_setKeys) (hl : (gl Γ).flags = pinnedFlags ++ [noTraceFlag]) (x0 : Nat) (x1 : Int32) (x2 : Int32) (x3 : Int32) (x4 : Int32) (x5 : Int32) (S : Sx) {X : Sx} (h : fTa_setKeys x0 x1 x2 x3 x4 x5 S = some X) : vV Γ tTa_setKeys (mQ Γ 0 0 0 none X) S 0 0 0 [(0, .ref x0), (1, .int x1), (2, .int x2), (3, .int x3), (4, .int x4), (5, .int x5)] [] := by
  unfold fTa_setKeys at h
  refine v_aload_n (pc := 0) (show decode (tC tTa_setKeys) 0 = .ok (.aload_n 0, 1) by decide +kernel) 0 rfl rfl ?_
  refine v_iload_n (pc := 1) (show decode (tC tTa_setKeys) 1 = .ok (.iload_n 1, 1) by decide +kernel) 1 rfl rfl ?_
  obtain ⟨S1, e2, h⟩ := ob h
  refine v_putI (pc := 2) oF_Ta_18 (fin_ok (kd := 4) (k := 2) (by decide +kernel)) e2 (show decode (tC tTa_setKeys) 2 = .ok (.putfield 18, 3) by decide +kernel) ?_
  refine v_aload_n (pc := 5) (show decode (tC tTa_setKeys) 5 = .ok (.aload_n 0, 1) by decide +kernel) 0 rfl rfl ?_
  refine v_iload_n (pc := 6) (show decode (tC tTa_setKeys) 6 = .ok (.iload_n 2, 1) by decide +kernel) 2 rfl rfl ?_
  obtain ⟨S3, e4, h⟩ := ob h
  refine v_putI (pc := 7) oF_Ta_22 (fin_ok (kd := 4) (k := 3) (by decide +kernel)) e4 (show decode (tC tTa_setKeys) 7 = .ok (.putfield 22, 3) by decide +kernel) ?_
  refine v_aload_n (pc := 10) (show decode (tC tTa_setKeys) 10 = .ok (.aload_n 0, 1) by decide +kernel) 0 rfl rfl ?_
  refine v_iload (pc := 11) (show decode (tC tTa_setKeys) 11 = .ok (.iload 5, 2) by decide +kernel) 5 rfl ?_
  refine v_iconst (pc := 13) (v := 3) (show decode (tC tTa_setKeys) 13 = .ok (.iconst 3, 1) by decide +kernel) (by decide) ?_
  refine v_iand (pc := 14) (show decode (tC tTa_setKeys) 14 = .ok (.iand, 1) by decide +kernel) ?_
  obtain ⟨S5, e6, h⟩ := ob h
  refine v_putI (pc := 15) oF_Ta_25 (fin_ok (kd := 4) (k := 4) (by decide +kernel)) e6 (show decode (tC tTa_setKeys) 15 = .ok (.putfield 25, 3) by decide +kernel) ?_
  refine v_aload_n (pc := 18) (show decode (tC tTa_setKeys) 18 = .ok (.aload_n 0, 1) by decide +kernel) 0 rfl rfl ?_
  refine v_iload_n (pc := 19) (show decode (tC tTa_setKeys) 19 = .ok (.iload_n 3, 1) by decide +kernel) 3 rfl rfl ?_
  obtain ⟨S7, e8, h⟩ := ob h
  refine v_putI (pc := 20) oF_Ta_28 (fin_ok (kd := 4) (k := 5) (by decide +kernel)) e8 (show decode (tC tTa_setKeys) 20 = .ok (.putfield 28, 3) by decide +kernel) ?_
  refine v_aload_n (pc := 23) (show decode (tC tTa_setKeys) 23 = .ok (.aload_n 0, 1) by decide +kernel) 0 rfl rfl ?_
  refine v_iload (pc := 24) (show decode (tC tTa_setKeys) 24 = .ok (.iload 4, 2) by decide +kernel) 4 rfl ?_
  obtain ⟨S9, e10, h⟩ := ob h
  refine v_putI (pc := 26) oF_Ta_31 (fin_ok (kd := 4) (k := 6) (by decide +kernel)) e10 (show decode (tC tTa_setKeys) 26 = .ok (.putfield 31, 3) by decide +kernel) ?_
  refine v_aload_n (pc := 29) (show decode (tC tTa_setKeys) 29 = .ok (.aload_n 0, 1) by decide +kernel) 0 rfl rfl ?_
  refine v_iload (pc := 30) (show decode (tC tTa_setKeys) 30 = .ok (.iload 5, 2) by decide +kernel) 5 rfl ?_
  refine v_iconst (pc := 32) (v := 2) (show decode (tC tTa_setKeys) 32 = .ok (.iconst 2, 1) by decide +kernel) (by decide) ?_
  refine v_ishr (pc := 33) (show decode (tC tTa_setKeys) 33 = .ok (.ishr, 1) by decide +kernel) ?_
  obtain ⟨S11, e12, h⟩ := ob h
  refine v_putI (pc := 34) oF_Ta_34 (fin_ok (kd := 4) (k := 7) (by decide +kernel)) e12 (show decode (tC tTa_setKeys) 34 = .ok (.putfield 34, 3) by decide +kernel) ?_
  refine v_aload_n (pc := 37) (show decode (tC tTa_setKeys) 37 = .ok (.aload_n 0, 1) by decide +kernel) 0 rfl rfl ?_
  refine v_iconst (pc := 38) (v := 0) (show decode (tC tTa_setKeys) 38 = .ok (.iconst 0, 1) by decide +kernel) (by decide) ?_
  obtain ⟨S13, e14, h⟩ := ob h
  refine v_putI (pc := 39) oF_Ta_37 (fin_ok (kd := 4) (k := 1) (by decide +kernel)) e14 (show decode (tC tTa_setKeys) 39 = .ok (.putfield 37, 3) by decide +kernel) ?_
  obtain rfl := Option.some.inj h
  refine v_wide (ce2 := 0) (sl2 := 0) (by decide) (by decide) ?_
  exact v_vret (pc := 42) rfl (show decode (tC tTa_setKeys) 42 = .ok (.return_, 1) by decide +kernel)
theorem cTa_setKeys {l : Launch} (hl : l.flags = pinnedFlags ++ [noTraceFlag]) {D : va_G} {dA : Nat → ClassId} {B : Nat} {x0 : Nat} {x1 : Int32} {x2 : Int32} {x3 : Int32} {x4 : Int32} {x5 : Int32} {S : Sx} {X : Sx} (h : fTa_setKeys x0 x1 x2 x3 x4 x5 S = some X) : Mx l yTa_setKeys tTa_setKeys rTa_setKeys 0 0 D dA B S [.ref x0, .int x1, .int x2, .int x3, .int x4, .int x5] 0 none X :=
  mx_of hl (by decide) rfl rfl (Nat.le_of_ble_eq_true rfl) (fun Γ e1 e2 e3 e4 e5 => by subst e1; subst e3; subst e4; subst e5; exact wTa_setKeys e2 hl x0 x1 x2 x3 x4 x5 S h)
/-! MatchPipe$Operation.begin(II)V -/
def yOp_begin : MethodName := ⟨"MatchPipe$Operation", "begin", "(II)V"⟩
def tOp_begin : tM := (prog_8_method_2_code, "MatchPipe$Operation", 3, "begin", none, [])
def rOp_begin : Room := { frames := 0, cells := 0, slots := 0, locals := 0 }
theorem kOp_begin : cOf yOp_begin tOp_begin ∈ gT := gT_in 992 (by decide +kernel) rfl
theorem iOp_begin : Cond.initialized yOp_begin.cls ∈ gT := gT_in 64 (by decide +kernel) rfl
theorem mOp_begin : okM yOp_begin 2 := ⟨by decide, by decide, by unfold nPar; decide +kernel⟩
theorem nOp_begin : Cond.instanceMethod yOp_begin ∈ gT := gT_in 990 (by decide +kernel) rfl
theorem lOp_begin : Cond.selects "MatchPipe$Operation" yOp_begin yOp_begin ∈ gT := gT_in 991 (by decide +kernel) rfl
def fOp_begin (x0 : Nat) (x1 : Int32) (x2 : Int32) (S : Sx) : Option (Sx) :=
    (pI S 9 3 x0 x1).bind fun S1 =>
    (pI S1 9 4 x0 x2).bind fun S3 =>
    (pI S3 9 5 x0 0).bind fun S5 =>
    some S5
set_option maxRecDepth 100000 in
set_option maxHeartbeats 4000000 in
theorem wOp_begin {Γ : vG} (hR : gR Γ = rOp_begin) (hl : (gl Γ).flags = pinnedFlags ++ [noTraceFlag]) (x0 : Nat) (x1 : Int32) (x2 : Int32) (S : Sx) {X : Sx} (h : fOp_begin x0 x1 x2 S = some X) : vV Γ tOp_begin (mQ Γ 0 0 0 none X) S 0 0 0 [(0, .ref x0), (1, .int x1), (2, .int x2)] [] := by
  unfold fOp_begin at h
  refine v_aload_n (pc := 0) (show decode (tC tOp_begin) 0 = .ok (.aload_n 0, 1) by decide +kernel) 0 rfl rfl ?_
  refine v_iload_n (pc := 1) (show decode (tC tOp_begin) 1 = .ok (.iload_n 1, 1) by decide +kernel) 1 rfl rfl ?_
  obtain ⟨S1, e2, h⟩ := ob h
  refine v_putI (pc := 2) oF_Op_25 (fin_ok (kd := 9) (k := 3) (by decide +kernel)) e2 (show decode (tC tOp_begin) 2 = .ok (.putfield 25, 3) by decide +kernel) ?_
  refine v_aload_n (pc := 5) (show decode (tC tOp_begin) 5 = .ok (.aload_n 0, 1) by decide +kernel) 0 rfl rfl ?_
  refine v_iload_n (pc := 6) (show decode (tC tOp_begin) 6 = .ok (.iload_n 2, 1) by decide +kernel) 2 rfl rfl ?_
  obtain ⟨S3, e4, h⟩ := ob h
  refine v_putI (pc := 7) oF_Op_29 (fin_ok (kd := 9) (k := 4) (by decide +kernel)) e4 (show decode (tC tOp_begin) 7 = .ok (.putfield 29, 3) by decide +kernel) ?_
  refine v_aload_n (pc := 10) (show decode (tC tOp_begin) 10 = .ok (.aload_n 0, 1) by decide +kernel) 0 rfl rfl ?_
  refine v_iconst (pc := 11) (v := 0) (show decode (tC tOp_begin) 11 = .ok (.iconst 0, 1) by decide +kernel) (by decide) ?_
  obtain ⟨S5, e6, h⟩ := ob h
  refine v_putI (pc := 12) oF_Op_32 (fin_ok (kd := 9) (k := 5) (by decide +kernel)) e6 (show decode (tC tOp_begin) 12 = .ok (.putfield 32, 3) by decide +kernel) ?_
  obtain rfl := Option.some.inj h
  refine v_wide (ce2 := 0) (sl2 := 0) (by decide) (by decide) ?_
  exact v_vret (pc := 15) rfl (show decode (tC tOp_begin) 15 = .ok (.return_, 1) by decide +kernel)
theorem cOp_begin {l : Launch} (hl : l.flags = pinnedFlags ++ [noTraceFlag]) {D : va_G} {dA : Nat → ClassId} {B : Nat} {x0 : Nat} {x1 : Int32} {x2 : Int32} {S : Sx} {X : Sx} (h : fOp_begin x0 x1 x2 S = some X) : Mx l yOp_begin tOp_begin rOp_begin 0 0 D dA B S [.ref x0, .int x1, .int x2] 0 none X :=
  mx_of hl (by decide) rfl rfl (Nat.le_of_ble_eq_true rfl) (fun Γ e1 e2 e3 e4 e5 => by subst e1; subst e3; subst e4; subst e5; exact wOp_begin e2 hl x0 x1 x2 S h)
/-! MatchPipe$Table.placeOf(LMatchPipe$Entry;)I -/
def yTa_placeOf : MethodName := ⟨"MatchPipe$Table", "placeOf", "(LMatchPipe$Entry;)I"⟩
def tTa_placeOf : tM := (prog_12_method_9_code, "MatchPipe$Table", 3, "placeOf", some .int, [])
def rTa_placeOf : Room := { frames := 1, cells := 0, slots := 0, locals := 21 }
theorem kTa_placeOf : cOf yTa_placeOf tTa_placeOf ∈ gT := gT_in 1097 (by decide +kernel) rfl
theorem iTa_placeOf : Cond.initialized yTa_placeOf.cls ∈ gT := gT_in 60 (by decide +kernel) rfl
theorem mTa_placeOf : okM yTa_placeOf 1 := ⟨by decide, by decide, by unfold nPar; decide +kernel⟩
theorem nTa_placeOf : Cond.instanceMethod yTa_placeOf ∈ gT := gT_in 1096 (by decide +kernel) rfl
theorem lTa_placeOf : Cond.selects "MatchPipe$Table" yTa_placeOf yTa_placeOf ∈ gT := gT_in 18 (by decide +kernel) rfl
def fTa_placeOf_2  : Nat → Nat → Nat → Int32 → Sx → Option (Int32 × Sx)
  | 0, _, _, _, _ => none
  | n + 1, x0, x1, x2, S =>
    (gI S 4 1 x0).bind fun v1 =>
    if v1 ≤ x2 then
    (some ((-1), S))
    else
    ((gX S 4 0 x0).bind fun v3 =>
    (aX S 5 v3 x2).bind fun v5 =>
    (ckd S v5 5).bind fun _ =>
    bd2 (fEn_hasKeyOf v5 x1 S) fun r9 S10 =>
    if r9 = 0 then
    (fTa_placeOf_2 n x0 x1 (x2 + 1) S10)
    else
    (some (x2, S10)))
set_option maxRecDepth 100000 in
set_option maxHeartbeats 4000000 in
theorem wTa_placeOf_2 {Γ : vG} (hR : gR Γ = rTa_placeOf) (hl : (gl Γ).flags = pinnedFlags ++ [noTraceFlag]) {X : Int32 × Sx}  : ∀ (n : Nat) (x0 : Nat) (x1 : Nat) (x2 : Int32) (S : Sx), fTa_placeOf_2  n x0 x1 x2 S = some X → vV Γ tTa_placeOf (mQ Γ 0 0 0 (some (.int X.1)) X.2) S 0 0 2 [(0, .ref x0), (1, .ref x1), (2, .int x2)] [] := by
  intro n
  induction n with
  | zero => intro x0 x1 x2 S h; rw [fTa_placeOf_2] at h; cases h
  | succ n ih =>
    intro x0 x1 x2 S h
    rw [fTa_placeOf_2] at h
    refine v_iload_n (pc := 2) (show decode (tC tTa_placeOf) 2 = .ok (.iload_n 2, 1) by decide +kernel) 2 rfl rfl ?_
    refine v_aload_n (pc := 3) (show decode (tC tTa_placeOf) 3 = .ok (.aload_n 0, 1) by decide +kernel) 0 rfl rfl ?_
    obtain ⟨v1, e2, h⟩ := ob h
    refine v_getI (pc := 4) oF_Ta_37 (by decide) e2 (show decode (tC tTa_placeOf) 4 = .ok (.getfield 37, 3) by decide +kernel) ?_
    refine v_icmp_ge (pc := 7) 31 (show decode (tC tTa_placeOf) 7 = .ok (.if_icmp .ge 24, 3) by decide +kernel) (by decide) (fun c => ?_) (fun c => ?_)
    · replace h := ite_t c h
      refine v_iconst (pc := 31) (v := (-1)) (show decode (tC tTa_placeOf) 31 = .ok (.iconst (-1), 1) by decide +kernel) (by decide) ?_
      obtain rfl := Option.some.inj h
      refine v_wide (ce2 := 0) (sl2 := 0) (by decide) (by decide) ?_
      exact v_iret (pc := 32) rfl (show decode (tC tTa_placeOf) 32 = .ok (.ireturn, 1) by decide +kernel)
    · replace h := ite_f c h
      refine v_aload_n (pc := 10) (show decode (tC tTa_placeOf) 10 = .ok (.aload_n 0, 1) by decide +kernel) 0 rfl rfl ?_
      obtain ⟨v3, e4, h⟩ := ob h
      refine v_getX (pc := 11) oF_Ta_11 e4 (show decode (tC tTa_placeOf) 11 = .ok (.getfield 11, 3) by decide +kernel) ?_
      refine v_iload_n (pc := 14) (show decode (tC tTa_placeOf) 14 = .ok (.iload_n 2, 1) by decide +kernel) 2 rfl rfl ?_
      obtain ⟨v5, e6, h⟩ := ob h
      refine v_aald (pc := 15) (kd := 5) rfl e6 (show decode (tC tTa_placeOf) 15 = .ok (.aaload, 1) by decide +kernel) ?_
      refine v_aload_n (pc := 16) (show decode (tC tTa_placeOf) 16 = .ok (.aload_n 1, 1) by decide +kernel) 1 rfl rfl ?_
      obtain ⟨_, e8, h⟩ := ob h
      obtain ⟨r9, S10, e7, h⟩ := ob2 h
      refine v_call (pc := 17) (v := (some (.int r9))) (y := yEn_hasKeyOf) (θ' := tEn_hasKeyOf) (rm := rEn_hasKeyOf) (av := [.ref v5, .ref x1]) (st := []) (cEn_hasKeyOf (l := gl Γ) hl e7) kEn_hasKeyOf iEn_hasKeyOf (iv_virt (y := yEn_hasKeyOf) (θ' := tEn_hasKeyOf) (kd := 5) (As := [.ref x1]) rfl (ckd_of e8) kEn_hasKeyOf (gT_in 1098 (by decide +kernel) rfl) nEn_hasKeyOf lEn_hasKeyOf mEn_hasKeyOf rfl (show decode (tC tTa_placeOf) 17 = .ok (.invokevirtual 94, 3) by decide +kernel)) ⟨by rw [hR]; decide, by rw [hR]; decide, by rw [hR]; decide, by rw [hR]; decide⟩ (Nat.le_of_ble_eq_true rfl) ?_
      refine v_if_eq (pc := 20) 25 (show decode (tC tTa_placeOf) 20 = .ok (.ifCond .eq 5, 3) by decide +kernel) (by decide) (fun c => ?_) (fun c => ?_)
      · replace h := ite_t c h
        refine v_iinc (pc := 25) (j := 2) [(2, .int (x2 + 1)), (0, .ref x0), (1, .ref x1)] (show decode (tC tTa_placeOf) 25 = .ok (.iinc 2 1, 3) by decide +kernel) rfl rfl (by decide) rfl ?_
        refine v_goto (pc := 28) 2 (show decode (tC tTa_placeOf) 28 = .ok (.goto (-26), 3) by decide +kernel) (by decide) ?_
        refine v_sub [(0, .ref x0), (1, .ref x1), (2, .int (x2 + 1))] [1, 2, 0] rfl ?_
        exact ih x0 x1 (x2 + 1) S10 h
      · replace h := ite_f c h
        refine v_iload_n (pc := 23) (show decode (tC tTa_placeOf) 23 = .ok (.iload_n 2, 1) by decide +kernel) 2 rfl rfl ?_
        obtain rfl := Option.some.inj h
        refine v_wide (ce2 := 0) (sl2 := 0) (by decide) (by decide) ?_
        exact v_iret (pc := 24) rfl (show decode (tC tTa_placeOf) 24 = .ok (.ireturn, 1) by decide +kernel)
def fTa_placeOf (x0 : Nat) (x1 : Nat) (S : Sx) : Option (Int32 × Sx) :=
    fTa_placeOf_2  fuel x0 x1 0 S
set_option maxRecDepth 100000 in
set_option maxHeartbeats 4000000 in
theorem wTa_placeOf {Γ : vG} (hR : gR Γ = rTa_placeOf) (hl : (gl Γ).flags = pinnedFlags ++ [noTraceFlag]) (x0 : Nat) (x1 : Nat) (S : Sx) {X : Int32 × Sx} (h : fTa_placeOf x0 x1 S = some X) : vV Γ tTa_placeOf (mQ Γ 0 0 0 (some (.int X.1)) X.2) S 0 0 0 [(0, .ref x0), (1, .ref x1)] [] := by
  unfold fTa_placeOf at h
  refine v_iconst (pc := 0) (v := 0) (show decode (tC tTa_placeOf) 0 = .ok (.iconst 0, 1) by decide +kernel) (by decide) ?_
  refine v_istore_n (pc := 1) [(2, .int 0), (0, .ref x0), (1, .ref x1)] (show decode (tC tTa_placeOf) 1 = .ok (.istore_n 2, 1) by decide +kernel) rfl (by decide) rfl ?_
  refine v_sub [(0, .ref x0), (1, .ref x1), (2, .int 0)] [1, 2, 0] rfl ?_
  exact wTa_placeOf_2 hR hl  fuel x0 x1 0 S h
theorem cTa_placeOf {l : Launch} (hl : l.flags = pinnedFlags ++ [noTraceFlag]) {D : va_G} {dA : Nat → ClassId} {B : Nat} {x0 : Nat} {x1 : Nat} {S : Sx} {X : Int32 × Sx} (h : fTa_placeOf x0 x1 S = some X) : Mx l yTa_placeOf tTa_placeOf rTa_placeOf 0 0 D dA B S [.ref x0, .ref x1] 0 (some (.int X.1)) X.2 :=
  mx_of hl (by decide) rfl rfl (Nat.le_of_ble_eq_true rfl) (fun Γ e1 e2 e3 e4 e5 => by subst e1; subst e3; subst e4; subst e5; exact wTa_placeOf e2 hl x0 x1 S h)
/-! MatchPipe$Table.letsGo(LMatchPipe$Entry;)Z -/
def yTa_letsGo : MethodName := ⟨"MatchPipe$Table", "letsGo", "(LMatchPipe$Entry;)Z"⟩
def tTa_letsGo : tM := (prog_12_method_5_code, "MatchPipe$Table", 5, "letsGo", some .boolean, [])
def rTa_letsGo : Room := { frames := 2, cells := 0, slots := 0, locals := 43 }
theorem kTa_letsGo : cOf yTa_letsGo tTa_letsGo ∈ gT := gT_in 1106 (by decide +kernel) rfl
theorem iTa_letsGo : Cond.initialized yTa_letsGo.cls ∈ gT := gT_in 60 (by decide +kernel) rfl
theorem mTa_letsGo : okM yTa_letsGo 1 := ⟨by decide, by decide, by unfold nPar; decide +kernel⟩
theorem nTa_letsGo : Cond.instanceMethod yTa_letsGo ∈ gT := gT_in 1104 (by decide +kernel) rfl
theorem lTa_letsGo : Cond.selects "MatchPipe$Table" yTa_letsGo yTa_letsGo ∈ gT := gT_in 1105 (by decide +kernel) rfl
def fTa_letsGo_45  : Nat → Nat → Nat → Int32 → Sx → Option (Int32 × Sx)
  | 0, _, _, _, _ => none
  | n + 1, x0, x3, x4, S =>
    (gI S 4 1 x0).bind fun v1 =>
    if v1 ≤ x4 then
    ((gX S 4 0 x0).bind fun v3 =>
    (gI S 4 1 x0).bind fun v5 =>
    (qX S 5 v3 v5 x3).bind fun S7 =>
    some (1, S7))
    else
    ((gX S 4 0 x0).bind fun v9 =>
    (gX S 4 0 x0).bind fun v11 =>
    (aX S 5 v11 (x4 + 1)).bind fun v13 =>
    (qX S 5 v9 x4 v13).bind fun S15 =>
    fTa_letsGo_45 n x0 x3 (x4 + 1) S15)
set_option maxRecDepth 100000 in
set_option maxHeartbeats 4000000 in
theorem wTa_letsGo_45 {Γ : vG} (hR : gR Γ = rTa_letsGo) (hl : (gl Γ).flags = pinnedFlags ++ [noTraceFlag]) {X : Int32 × Sx}  : ∀ (n : Nat) (x0 : Nat) (x3 : Nat) (x4 : Int32) (S : Sx), fTa_letsGo_45  n x0 x3 x4 S = some X → vV Γ tTa_letsGo (mQ Γ 0 0 0 (some (.int X.1)) X.2) S 0 0 45 [(0, .ref x0), (3, .ref x3), (4, .int x4)] [] := by
  intro n
  induction n with
  | zero => intro x0 x3 x4 S h; rw [fTa_letsGo_45] at h; cases h
  | succ n ih =>
    intro x0 x3 x4 S h
    rw [fTa_letsGo_45] at h
    refine v_iload (pc := 45) (show decode (tC tTa_letsGo) 45 = .ok (.iload 4, 2) by decide +kernel) 2 rfl ?_
    refine v_aload_n (pc := 47) (show decode (tC tTa_letsGo) 47 = .ok (.aload_n 0, 1) by decide +kernel) 0 rfl rfl ?_
    obtain ⟨v1, e2, h⟩ := ob h
    refine v_getI (pc := 48) oF_Ta_37 (by decide) e2 (show decode (tC tTa_letsGo) 48 = .ok (.getfield 37, 3) by decide +kernel) ?_
    refine v_icmp_ge (pc := 51) 76 (show decode (tC tTa_letsGo) 51 = .ok (.if_icmp .ge 25, 3) by decide +kernel) (by decide) (fun c => ?_) (fun c => ?_)
    · replace h := ite_t c h
      refine v_aload_n (pc := 76) (show decode (tC tTa_letsGo) 76 = .ok (.aload_n 0, 1) by decide +kernel) 0 rfl rfl ?_
      obtain ⟨v3, e4, h⟩ := ob h
      refine v_getX (pc := 77) oF_Ta_11 e4 (show decode (tC tTa_letsGo) 77 = .ok (.getfield 11, 3) by decide +kernel) ?_
      refine v_aload_n (pc := 80) (show decode (tC tTa_letsGo) 80 = .ok (.aload_n 0, 1) by decide +kernel) 0 rfl rfl ?_
      obtain ⟨v5, e6, h⟩ := ob h
      refine v_getI (pc := 81) oF_Ta_37 (by decide) e6 (show decode (tC tTa_letsGo) 81 = .ok (.getfield 37, 3) by decide +kernel) ?_
      refine v_aload_n (pc := 84) (show decode (tC tTa_letsGo) 84 = .ok (.aload_n 3, 1) by decide +kernel) 1 rfl rfl ?_
      obtain ⟨S7, e8, h⟩ := ob h
      refine v_aast (pc := 85) (kd := 5) rfl e8 (show decode (tC tTa_letsGo) 85 = .ok (.aastore, 1) by decide +kernel) ?_
      refine v_iconst (pc := 86) (v := 1) (show decode (tC tTa_letsGo) 86 = .ok (.iconst 1, 1) by decide +kernel) (by decide) ?_
      obtain rfl := Option.some.inj h
      refine v_wide (ce2 := 0) (sl2 := 0) (by decide) (by decide) ?_
      exact v_zret (pc := 87) rfl (Or.inr rfl) (show decode (tC tTa_letsGo) 87 = .ok (.ireturn, 1) by decide +kernel)
    · replace h := ite_f c h
      refine v_aload_n (pc := 54) (show decode (tC tTa_letsGo) 54 = .ok (.aload_n 0, 1) by decide +kernel) 0 rfl rfl ?_
      obtain ⟨v9, e10, h⟩ := ob h
      refine v_getX (pc := 55) oF_Ta_11 e10 (show decode (tC tTa_letsGo) 55 = .ok (.getfield 11, 3) by decide +kernel) ?_
      refine v_iload (pc := 58) (show decode (tC tTa_letsGo) 58 = .ok (.iload 4, 2) by decide +kernel) 2 rfl ?_
      refine v_aload_n (pc := 60) (show decode (tC tTa_letsGo) 60 = .ok (.aload_n 0, 1) by decide +kernel) 0 rfl rfl ?_
      obtain ⟨v11, e12, h⟩ := ob h
      refine v_getX (pc := 61) oF_Ta_11 e12 (show decode (tC tTa_letsGo) 61 = .ok (.getfield 11, 3) by decide +kernel) ?_
      refine v_iload (pc := 64) (show decode (tC tTa_letsGo) 64 = .ok (.iload 4, 2) by decide +kernel) 2 rfl ?_
      refine v_iconst (pc := 66) (v := 1) (show decode (tC tTa_letsGo) 66 = .ok (.iconst 1, 1) by decide +kernel) (by decide) ?_
      refine v_iadd (pc := 67) (show decode (tC tTa_letsGo) 67 = .ok (.iadd, 1) by decide +kernel) ?_
      obtain ⟨v13, e14, h⟩ := ob h
      refine v_aald (pc := 68) (kd := 5) rfl e14 (show decode (tC tTa_letsGo) 68 = .ok (.aaload, 1) by decide +kernel) ?_
      obtain ⟨S15, e16, h⟩ := ob h
      refine v_aast (pc := 69) (kd := 5) rfl e16 (show decode (tC tTa_letsGo) 69 = .ok (.aastore, 1) by decide +kernel) ?_
      refine v_iinc (pc := 70) (j := 2) [(4, .int (x4 + 1)), (0, .ref x0), (3, .ref x3)] (show decode (tC tTa_letsGo) 70 = .ok (.iinc 4 1, 3) by decide +kernel) rfl rfl (by decide) rfl ?_
      refine v_goto (pc := 73) 45 (show decode (tC tTa_letsGo) 73 = .ok (.goto (-28), 3) by decide +kernel) (by decide) ?_
      refine v_sub [(0, .ref x0), (3, .ref x3), (4, .int (x4 + 1))] [1, 2, 0] rfl ?_
      exact ih x0 x3 (x4 + 1) S15 h
def fTa_letsGo (x0 : Nat) (x1 : Nat) (S : Sx) : Option (Int32 × Sx) :=
    (gI S 4 3 x0).bind fun v1 =>
    (gI S 4 6 x0).bind fun v3 =>
    (ckd S x1 5).bind fun _ =>
    (fEn_cutTo x1 v1 v3 S).bind fun S7 =>
    (ckd S7 x0 4).bind fun _ =>
    bd2 (fTa_placeOf x0 x1 S7) fun r10 S11 =>
    if r10 = (-1) then
    (some (0, S11))
    else
    ((gX S11 4 0 x0).bind fun v12 =>
    (aX S11 5 v12 r10).bind fun v14 =>
    (gI S11 4 1 x0).bind fun v16 =>
    (pI S11 4 1 x0 (v16 - 1)).bind fun S18 =>
    fTa_letsGo_45  fuel x0 v14 r10 S18)
set_option maxRecDepth 100000 in
set_option maxHeartbeats 4000000 in
theorem wTa_letsGo {Γ : vG} (hR : gR Γ = rTa_letsGo) (hl : (gl Γ).flags = pinnedFlags ++ [noTraceFlag]) (x0 : Nat) (x1 : Nat) (S : Sx) {X : Int32 × Sx} (h : fTa_letsGo x0 x1 S = some X) : vV Γ tTa_letsGo (mQ Γ 0 0 0 (some (.int X.1)) X.2) S 0 0 0 [(0, .ref x0), (1, .ref x1)] [] := by
  unfold fTa_letsGo at h
  refine v_aload_n (pc := 0) (show decode (tC tTa_letsGo) 0 = .ok (.aload_n 1, 1) by decide +kernel) 1 rfl rfl ?_
  refine v_aload_n (pc := 1) (show decode (tC tTa_letsGo) 1 = .ok (.aload_n 0, 1) by decide +kernel) 0 rfl rfl ?_
  obtain ⟨v1, e2, h⟩ := ob h
  refine v_getI (pc := 2) oF_Ta_22 (by decide) e2 (show decode (tC tTa_letsGo) 2 = .ok (.getfield 22, 3) by decide +kernel) ?_
  refine v_aload_n (pc := 5) (show decode (tC tTa_letsGo) 5 = .ok (.aload_n 0, 1) by decide +kernel) 0 rfl rfl ?_
  obtain ⟨v3, e4, h⟩ := ob h
  refine v_getI (pc := 6) oF_Ta_31 (by decide) e4 (show decode (tC tTa_letsGo) 6 = .ok (.getfield 31, 3) by decide +kernel) ?_
  obtain ⟨_, e6, h⟩ := ob h
  obtain ⟨S7, e5, h⟩ := ob h
  refine v_call (pc := 9) (v := none) (y := yEn_cutTo) (θ' := tEn_cutTo) (rm := rEn_cutTo) (av := [.ref x1, .int v1, .int v3]) (st := []) (cEn_cutTo (l := gl Γ) hl e5) kEn_cutTo iEn_cutTo (iv_virt (y := yEn_cutTo) (θ' := tEn_cutTo) (kd := 5) (As := [.int v1, .int v3]) rfl (ckd_of e6) kEn_cutTo (gT_in 1086 (by decide +kernel) rfl) nEn_cutTo lEn_cutTo mEn_cutTo rfl (show decode (tC tTa_letsGo) 9 = .ok (.invokevirtual 46, 3) by decide +kernel)) ⟨by rw [hR]; decide, by rw [hR]; decide, by rw [hR]; decide, by rw [hR]; decide⟩ (Nat.le_of_ble_eq_true rfl) ?_
  refine v_aload_n (pc := 12) (show decode (tC tTa_letsGo) 12 = .ok (.aload_n 0, 1) by decide +kernel) 0 rfl rfl ?_
  refine v_aload_n (pc := 13) (show decode (tC tTa_letsGo) 13 = .ok (.aload_n 1, 1) by decide +kernel) 1 rfl rfl ?_
  obtain ⟨_, e9, h⟩ := ob h
  obtain ⟨r10, S11, e8, h⟩ := ob2 h
  refine v_call (pc := 14) (v := (some (.int r10))) (y := yTa_placeOf) (θ' := tTa_placeOf) (rm := rTa_placeOf) (av := [.ref x0, .ref x1]) (st := []) (cTa_placeOf (l := gl Γ) hl e8) kTa_placeOf iTa_placeOf (iv_virt (y := yTa_placeOf) (θ' := tTa_placeOf) (kd := 4) (As := [.ref x1]) rfl (ckd_of e9) kTa_placeOf (gT_in 1094 (by decide +kernel) rfl) nTa_placeOf lTa_placeOf mTa_placeOf rfl (show decode (tC tTa_letsGo) 14 = .ok (.invokevirtual 67, 3) by decide +kernel)) ⟨by rw [hR]; decide, by rw [hR]; decide, by rw [hR]; decide, by rw [hR]; decide⟩ (Nat.le_of_ble_eq_true rfl) ?_
  refine v_istore_n (pc := 17) [(2, .int r10), (0, .ref x0), (1, .ref x1)] (show decode (tC tTa_letsGo) 17 = .ok (.istore_n 2, 1) by decide +kernel) rfl (by decide) rfl ?_
  refine v_iload_n (pc := 18) (show decode (tC tTa_letsGo) 18 = .ok (.iload_n 2, 1) by decide +kernel) 0 rfl rfl ?_
  refine v_iconst (pc := 19) (v := (-1)) (show decode (tC tTa_letsGo) 19 = .ok (.iconst (-1), 1) by decide +kernel) (by decide) ?_
  refine v_icmp_ne (pc := 20) 25 (show decode (tC tTa_letsGo) 20 = .ok (.if_icmp .ne 5, 3) by decide +kernel) (by decide) (fun c => ?_) (fun c => ?_)
  · replace h := ite_f c h
    refine v_aload_n (pc := 25) (show decode (tC tTa_letsGo) 25 = .ok (.aload_n 0, 1) by decide +kernel) 1 rfl rfl ?_
    obtain ⟨v12, e13, h⟩ := ob h
    refine v_getX (pc := 26) oF_Ta_11 e13 (show decode (tC tTa_letsGo) 26 = .ok (.getfield 11, 3) by decide +kernel) ?_
    refine v_iload_n (pc := 29) (show decode (tC tTa_letsGo) 29 = .ok (.iload_n 2, 1) by decide +kernel) 0 rfl rfl ?_
    obtain ⟨v14, e15, h⟩ := ob h
    refine v_aald (pc := 30) (kd := 5) rfl e15 (show decode (tC tTa_letsGo) 30 = .ok (.aaload, 1) by decide +kernel) ?_
    refine v_astore_n (pc := 31) [(3, .ref v14), (2, .int r10), (0, .ref x0), (1, .ref x1)] (show decode (tC tTa_letsGo) 31 = .ok (.astore_n 3, 1) by decide +kernel) rfl (by decide) rfl ?_
    refine v_aload_n (pc := 32) (show decode (tC tTa_letsGo) 32 = .ok (.aload_n 0, 1) by decide +kernel) 2 rfl rfl ?_
    refine v_dup (pc := 33) (show decode (tC tTa_letsGo) 33 = .ok (.dup, 1) by decide +kernel) rfl ?_
    obtain ⟨v16, e17, h⟩ := ob h
    refine v_getI (pc := 34) oF_Ta_37 (by decide) e17 (show decode (tC tTa_letsGo) 34 = .ok (.getfield 37, 3) by decide +kernel) ?_
    refine v_iconst (pc := 37) (v := 1) (show decode (tC tTa_letsGo) 37 = .ok (.iconst 1, 1) by decide +kernel) (by decide) ?_
    refine v_isub (pc := 38) (show decode (tC tTa_letsGo) 38 = .ok (.isub, 1) by decide +kernel) ?_
    obtain ⟨S18, e19, h⟩ := ob h
    refine v_putI (pc := 39) oF_Ta_37 (fin_ok (kd := 4) (k := 1) (by decide +kernel)) e19 (show decode (tC tTa_letsGo) 39 = .ok (.putfield 37, 3) by decide +kernel) ?_
    refine v_iload_n (pc := 42) (show decode (tC tTa_letsGo) 42 = .ok (.iload_n 2, 1) by decide +kernel) 1 rfl rfl ?_
    refine v_istore (pc := 43) [(4, .int r10), (3, .ref v14), (2, .int r10), (0, .ref x0), (1, .ref x1)] (show decode (tC tTa_letsGo) 43 = .ok (.istore 4, 2) by decide +kernel) (by decide) rfl ?_
    refine v_sub [(0, .ref x0), (3, .ref v14), (4, .int r10)] [3, 1, 0] rfl ?_
    exact wTa_letsGo_45 hR hl  fuel x0 v14 r10 S18 h
  · replace h := ite_t c h
    refine v_iconst (pc := 23) (v := 0) (show decode (tC tTa_letsGo) 23 = .ok (.iconst 0, 1) by decide +kernel) (by decide) ?_
    obtain rfl := Option.some.inj h
    refine v_wide (ce2 := 0) (sl2 := 0) (by decide) (by decide) ?_
    exact v_zret (pc := 24) rfl (Or.inl rfl) (show decode (tC tTa_letsGo) 24 = .ok (.ireturn, 1) by decide +kernel)
theorem cTa_letsGo {l : Launch} (hl : l.flags = pinnedFlags ++ [noTraceFlag]) {D : va_G} {dA : Nat → ClassId} {B : Nat} {x0 : Nat} {x1 : Nat} {S : Sx} {X : Int32 × Sx} (h : fTa_letsGo x0 x1 S = some X) : Mx l yTa_letsGo tTa_letsGo rTa_letsGo 0 0 D dA B S [.ref x0, .ref x1] 0 (some (.int X.1)) X.2 :=
  mx_of hl (by decide) rfl rfl (Nat.le_of_ble_eq_true rfl) (fun Γ e1 e2 e3 e4 e5 => by subst e1; subst e3; subst e4; subst e5; exact wTa_letsGo e2 hl x0 x1 S h)
/-! MatchPipe$Table.isMask(III)Z -/
def yTa_isMask : MethodName := ⟨"MatchPipe$Table", "isMask", "(III)Z"⟩
def tTa_isMask : tM := (prog_12_method_10_code, "MatchPipe$Table", 4, "isMask", some .boolean, [])
def rTa_isMask : Room := { frames := 0, cells := 0, slots := 0, locals := 0 }
theorem kTa_isMask : cOf yTa_isMask tTa_isMask ∈ gT := gT_in 1092 (by decide +kernel) rfl
theorem iTa_isMask : Cond.initialized yTa_isMask.cls ∈ gT := gT_in 60 (by decide +kernel) rfl
theorem mTa_isMask : okM yTa_isMask 3 := ⟨by decide, by decide, by unfold nPar; decide +kernel⟩
theorem sTa_isMask : Cond.static yTa_isMask ∈ gT := gT_in 1091 (by decide +kernel) rfl
def fTa_isMask (x0 : Int32) (x1 : Int32) (x2 : Int32) (S : Sx) : Option (Int32 × Sx) :=
    if x0 = 0 then
    (if x1 = x2 then
    (some (1, S))
    else
    (some (0, S)))
    else
    (if x0 = 2 then
    (some (1, S))
    else
    (if ((x2 &&& (x1 ^^^ (-1))) &&& ((x2 &&& (x1 ^^^ (-1))) + 1)) = 0 then
    (some (1, S))
    else
    (some (0, S))))
set_option maxRecDepth 100000 in
set_option maxHeartbeats 4000000 in
theorem wTa_isMask {Γ : vG} (hR : gR Γ = rTa_isMask) (hl : (gl Γ).flags = pinnedFlags ++ [noTraceFlag]) (x0 : Int32) (x1 : Int32) (x2 : Int32) (S : Sx) {X : Int32 × Sx} (h : fTa_isMask x0 x1 x2 S = some X) : vV Γ tTa_isMask (mQ Γ 0 0 0 (some (.int X.1)) X.2) S 0 0 0 [(0, .int x0), (1, .int x1), (2, .int x2)] [] := by
  unfold fTa_isMask at h
  refine v_iload_n (pc := 0) (show decode (tC tTa_isMask) 0 = .ok (.iload_n 0, 1) by decide +kernel) 0 rfl rfl ?_
  refine v_if_ne (pc := 1) 15 (show decode (tC tTa_isMask) 1 = .ok (.ifCond .ne 14, 3) by decide +kernel) (by decide) (fun c => ?_) (fun c => ?_)
  · replace h := ite_f c h
    refine v_iload_n (pc := 15) (show decode (tC tTa_isMask) 15 = .ok (.iload_n 2, 1) by decide +kernel) 2 rfl rfl ?_
    refine v_iload_n (pc := 16) (show decode (tC tTa_isMask) 16 = .ok (.iload_n 1, 1) by decide +kernel) 1 rfl rfl ?_
    refine v_iconst (pc := 17) (v := (-1)) (show decode (tC tTa_isMask) 17 = .ok (.iconst (-1), 1) by decide +kernel) (by decide) ?_
    refine v_ixor (pc := 18) (show decode (tC tTa_isMask) 18 = .ok (.ixor, 1) by decide +kernel) ?_
    refine v_iand (pc := 19) (show decode (tC tTa_isMask) 19 = .ok (.iand, 1) by decide +kernel) ?_
    refine v_istore_n (pc := 20) [(3, .int (x2 &&& (x1 ^^^ (-1)))), (0, .int x0), (1, .int x1), (2, .int x2)] (show decode (tC tTa_isMask) 20 = .ok (.istore_n 3, 1) by decide +kernel) rfl (by decide) rfl ?_
    refine v_iload_n (pc := 21) (show decode (tC tTa_isMask) 21 = .ok (.iload_n 0, 1) by decide +kernel) 1 rfl rfl ?_
    refine v_iconst (pc := 22) (v := 2) (show decode (tC tTa_isMask) 22 = .ok (.iconst 2, 1) by decide +kernel) (by decide) ?_
    refine v_icmp_eq (pc := 23) 34 (show decode (tC tTa_isMask) 23 = .ok (.if_icmp .eq 11, 3) by decide +kernel) (by decide) (fun c => ?_) (fun c => ?_)
    · replace h := ite_t c h
      refine v_iconst (pc := 34) (v := 1) (show decode (tC tTa_isMask) 34 = .ok (.iconst 1, 1) by decide +kernel) (by decide) ?_
      refine v_goto (pc := 35) 39 (show decode (tC tTa_isMask) 35 = .ok (.goto 4, 3) by decide +kernel) (by decide) ?_
      obtain rfl := Option.some.inj h
      refine v_wide (ce2 := 0) (sl2 := 0) (by decide) (by decide) ?_
      exact v_zret (pc := 39) rfl (Or.inr rfl) (show decode (tC tTa_isMask) 39 = .ok (.ireturn, 1) by decide +kernel)
    · replace h := ite_f c h
      refine v_iload_n (pc := 26) (show decode (tC tTa_isMask) 26 = .ok (.iload_n 3, 1) by decide +kernel) 0 rfl rfl ?_
      refine v_iload_n (pc := 27) (show decode (tC tTa_isMask) 27 = .ok (.iload_n 3, 1) by decide +kernel) 0 rfl rfl ?_
      refine v_iconst (pc := 28) (v := 1) (show decode (tC tTa_isMask) 28 = .ok (.iconst 1, 1) by decide +kernel) (by decide) ?_
      refine v_iadd (pc := 29) (show decode (tC tTa_isMask) 29 = .ok (.iadd, 1) by decide +kernel) ?_
      refine v_iand (pc := 30) (show decode (tC tTa_isMask) 30 = .ok (.iand, 1) by decide +kernel) ?_
      refine v_if_ne (pc := 31) 38 (show decode (tC tTa_isMask) 31 = .ok (.ifCond .ne 7, 3) by decide +kernel) (by decide) (fun c => ?_) (fun c => ?_)
      · replace h := ite_f c h
        refine v_iconst (pc := 38) (v := 0) (show decode (tC tTa_isMask) 38 = .ok (.iconst 0, 1) by decide +kernel) (by decide) ?_
        obtain rfl := Option.some.inj h
        refine v_wide (ce2 := 0) (sl2 := 0) (by decide) (by decide) ?_
        exact v_zret (pc := 39) rfl (Or.inl rfl) (show decode (tC tTa_isMask) 39 = .ok (.ireturn, 1) by decide +kernel)
      · replace h := ite_t c h
        refine v_iconst (pc := 34) (v := 1) (show decode (tC tTa_isMask) 34 = .ok (.iconst 1, 1) by decide +kernel) (by decide) ?_
        refine v_goto (pc := 35) 39 (show decode (tC tTa_isMask) 35 = .ok (.goto 4, 3) by decide +kernel) (by decide) ?_
        obtain rfl := Option.some.inj h
        refine v_wide (ce2 := 0) (sl2 := 0) (by decide) (by decide) ?_
        exact v_zret (pc := 39) rfl (Or.inr rfl) (show decode (tC tTa_isMask) 39 = .ok (.ireturn, 1) by decide +kernel)
  · replace h := ite_t c h
    refine v_iload_n (pc := 4) (show decode (tC tTa_isMask) 4 = .ok (.iload_n 1, 1) by decide +kernel) 1 rfl rfl ?_
    refine v_iload_n (pc := 5) (show decode (tC tTa_isMask) 5 = .ok (.iload_n 2, 1) by decide +kernel) 2 rfl rfl ?_
    refine v_icmp_ne (pc := 6) 13 (show decode (tC tTa_isMask) 6 = .ok (.if_icmp .ne 7, 3) by decide +kernel) (by decide) (fun c => ?_) (fun c => ?_)
    · replace h := ite_f c h
      refine v_iconst (pc := 13) (v := 0) (show decode (tC tTa_isMask) 13 = .ok (.iconst 0, 1) by decide +kernel) (by decide) ?_
      obtain rfl := Option.some.inj h
      refine v_wide (ce2 := 0) (sl2 := 0) (by decide) (by decide) ?_
      exact v_zret (pc := 14) rfl (Or.inl rfl) (show decode (tC tTa_isMask) 14 = .ok (.ireturn, 1) by decide +kernel)
    · replace h := ite_t c h
      refine v_iconst (pc := 9) (v := 1) (show decode (tC tTa_isMask) 9 = .ok (.iconst 1, 1) by decide +kernel) (by decide) ?_
      refine v_goto (pc := 10) 14 (show decode (tC tTa_isMask) 10 = .ok (.goto 4, 3) by decide +kernel) (by decide) ?_
      obtain rfl := Option.some.inj h
      refine v_wide (ce2 := 0) (sl2 := 0) (by decide) (by decide) ?_
      exact v_zret (pc := 14) rfl (Or.inr rfl) (show decode (tC tTa_isMask) 14 = .ok (.ireturn, 1) by decide +kernel)
theorem cTa_isMask {l : Launch} (hl : l.flags = pinnedFlags ++ [noTraceFlag]) {D : va_G} {dA : Nat → ClassId} {B : Nat} {x0 : Int32} {x1 : Int32} {x2 : Int32} {S : Sx} {X : Int32 × Sx} (h : fTa_isMask x0 x1 x2 S = some X) : Mx l yTa_isMask tTa_isMask rTa_isMask 0 0 D dA B S [.int x0, .int x1, .int x2] 0 (some (.int X.1)) X.2 :=
  mx_of hl (by decide) rfl rfl (Nat.le_of_ble_eq_true rfl) (fun Γ e1 e2 e3 e4 e5 => by subst e1; subst e3; subst e4; subst e5; exact wTa_isMask e2 hl x0 x1 x2 S h)
/-! MatchPipe$Table.takesIn(LMatchPipe$Entry;)Z -/
def yTa_takesIn : MethodName := ⟨"MatchPipe$Table", "takesIn", "(LMatchPipe$Entry;)Z"⟩
def tTa_takesIn : tM := (prog_12_method_4_code, "MatchPipe$Table", 2, "takesIn", some .boolean, [])
def rTa_takesIn : Room := { frames := 2, cells := 0, slots := 0, locals := 45 }
theorem kTa_takesIn : cOf yTa_takesIn tTa_takesIn ∈ gT := gT_in 1085 (by decide +kernel) rfl
theorem iTa_takesIn : Cond.initialized yTa_takesIn.cls ∈ gT := gT_in 60 (by decide +kernel) rfl
theorem mTa_takesIn : okM yTa_takesIn 1 := ⟨by decide, by decide, by unfold nPar; decide +kernel⟩
theorem nTa_takesIn : Cond.instanceMethod yTa_takesIn ∈ gT := gT_in 1083 (by decide +kernel) rfl
theorem lTa_takesIn : Cond.selects "MatchPipe$Table" yTa_takesIn yTa_takesIn ∈ gT := gT_in 1084 (by decide +kernel) rfl
def fTa_takesIn (x0 : Nat) (x1 : Nat) (S : Sx) : Option (Int32 × Sx) :=
    (gI S 4 3 x0).bind fun v1 =>
    (gI S 4 6 x0).bind fun v3 =>
    (ckd S x1 5).bind fun _ =>
    (fEn_cutTo x1 v1 v3 S).bind fun S7 =>
    (gI S7 4 4 x0).bind fun v8 =>
    (gI S7 5 1 x1).bind fun v10 =>
    (gI S7 4 3 x0).bind fun v12 =>
    bd2 (fTa_isMask v8 v10 v12 S7) fun r15 S16 =>
    if r15 = 0 then
    (some (0, S16))
    else
    ((gI S16 4 7 x0).bind fun v17 =>
    (gI S16 5 3 x1).bind fun v19 =>
    (gI S16 4 6 x0).bind fun v21 =>
    bd2 (fTa_isMask v17 v19 v21 S16) fun r24 S25 =>
    if r24 = 0 then
    (some (0, S25))
    else
    ((gI S25 4 8 x0).bind fun v26 =>
    (gI S25 5 5 x1).bind fun v28 =>
    bd2 (fMp_hasBit v26 v28 S25) fun r31 S32 =>
    if r31 = 0 then
    (some (0, S32))
    else
    ((ckd S32 x0 4).bind fun _ =>
    bd2 (fTa_placeOf x0 x1 S32) fun r35 S36 =>
    if r35 = (-1) then
    ((gI S36 4 1 x0).bind fun v37 =>
    if v37 < 20 then
    ((gX S36 4 0 x0).bind fun v39 =>
    (gI S36 4 1 x0).bind fun v41 =>
    (aX S36 5 v39 v41).bind fun v43 =>
    (ckd S36 v43 5).bind fun _ =>
    (fEn_copy v43 x1 S36).bind fun S47 =>
    (gI S47 4 1 x0).bind fun v48 =>
    (pI S47 4 1 x0 (v48 + 1)).bind fun S50 =>
    some (1, S50))
    else
    (some (0, S36)))
    else
    (some (0, S36)))))
set_option maxRecDepth 100000 in
set_option maxHeartbeats 4000000 in
theorem wTa_takesIn {Γ : vG} (hR : gR Γ = rTa_takesIn) (hl : (gl Γ).flags = pinnedFlags ++ [noTraceFlag]) (x0 : Nat) (x1 : Nat) (S : Sx) {X : Int32 × Sx} (h : fTa_takesIn x0 x1 S = some X) : vV Γ tTa_takesIn (mQ Γ 0 0 0 (some (.int X.1)) X.2) S 0 0 0 [(0, .ref x0), (1, .ref x1)] [] := by
  unfold fTa_takesIn at h
  refine v_aload_n (pc := 0) (show decode (tC tTa_takesIn) 0 = .ok (.aload_n 1, 1) by decide +kernel) 1 rfl rfl ?_
  refine v_aload_n (pc := 1) (show decode (tC tTa_takesIn) 1 = .ok (.aload_n 0, 1) by decide +kernel) 0 rfl rfl ?_
  obtain ⟨v1, e2, h⟩ := ob h
  refine v_getI (pc := 2) oF_Ta_22 (by decide) e2 (show decode (tC tTa_takesIn) 2 = .ok (.getfield 22, 3) by decide +kernel) ?_
  refine v_aload_n (pc := 5) (show decode (tC tTa_takesIn) 5 = .ok (.aload_n 0, 1) by decide +kernel) 0 rfl rfl ?_
  obtain ⟨v3, e4, h⟩ := ob h
  refine v_getI (pc := 6) oF_Ta_31 (by decide) e4 (show decode (tC tTa_takesIn) 6 = .ok (.getfield 31, 3) by decide +kernel) ?_
  obtain ⟨_, e6, h⟩ := ob h
  obtain ⟨S7, e5, h⟩ := ob h
  refine v_call (pc := 9) (v := none) (y := yEn_cutTo) (θ' := tEn_cutTo) (rm := rEn_cutTo) (av := [.ref x1, .int v1, .int v3]) (st := []) (cEn_cutTo (l := gl Γ) hl e5) kEn_cutTo iEn_cutTo (iv_virt (y := yEn_cutTo) (θ' := tEn_cutTo) (kd := 5) (As := [.int v1, .int v3]) rfl (ckd_of e6) kEn_cutTo (gT_in 1086 (by decide +kernel) rfl) nEn_cutTo lEn_cutTo mEn_cutTo rfl (show decode (tC tTa_takesIn) 9 = .ok (.invokevirtual 46, 3) by decide +kernel)) ⟨by rw [hR]; decide, by rw [hR]; decide, by rw [hR]; decide, by rw [hR]; decide⟩ (Nat.le_of_ble_eq_true rfl) ?_
  refine v_aload_n (pc := 12) (show decode (tC tTa_takesIn) 12 = .ok (.aload_n 0, 1) by decide +kernel) 0 rfl rfl ?_
  obtain ⟨v8, e9, h⟩ := ob h
  refine v_getI (pc := 13) oF_Ta_25 (by decide) e9 (show decode (tC tTa_takesIn) 13 = .ok (.getfield 25, 3) by decide +kernel) ?_
  refine v_aload_n (pc := 16) (show decode (tC tTa_takesIn) 16 = .ok (.aload_n 1, 1) by decide +kernel) 1 rfl rfl ?_
  obtain ⟨v10, e11, h⟩ := ob h
  refine v_getI (pc := 17) oF_Ta_50 (by decide) e11 (show decode (tC tTa_takesIn) 17 = .ok (.getfield 50, 3) by decide +kernel) ?_
  refine v_aload_n (pc := 20) (show decode (tC tTa_takesIn) 20 = .ok (.aload_n 0, 1) by decide +kernel) 0 rfl rfl ?_
  obtain ⟨v12, e13, h⟩ := ob h
  refine v_getI (pc := 21) oF_Ta_22 (by decide) e13 (show decode (tC tTa_takesIn) 21 = .ok (.getfield 22, 3) by decide +kernel) ?_
  obtain ⟨r15, S16, e14, h⟩ := ob2 h
  refine v_call (pc := 24) (v := (some (.int r15))) (y := yTa_isMask) (θ' := tTa_isMask) (rm := rTa_isMask) (av := [.int v8, .int v10, .int v12]) (st := []) (cTa_isMask (l := gl Γ) hl e14) kTa_isMask iTa_isMask (iv_static (y := yTa_isMask) (θ' := tTa_isMask) (n := 3) (As := [.int v8, .int v10, .int v12]) kTa_isMask (gT_in 1090 (by decide +kernel) rfl) sTa_isMask iTa_isMask mTa_isMask rfl (show decode (tC tTa_takesIn) 24 = .ok (.invokestatic 53, 3) by decide +kernel)) ⟨by rw [hR]; decide, by rw [hR]; decide, by rw [hR]; decide, by rw [hR]; decide⟩ (Nat.le_of_ble_eq_true rfl) ?_
  refine v_if_eq (pc := 27) 48 (show decode (tC tTa_takesIn) 27 = .ok (.ifCond .eq 21, 3) by decide +kernel) (by decide) (fun c => ?_) (fun c => ?_)
  · replace h := ite_t c h
    refine v_iconst (pc := 48) (v := 0) (show decode (tC tTa_takesIn) 48 = .ok (.iconst 0, 1) by decide +kernel) (by decide) ?_
    obtain rfl := Option.some.inj h
    refine v_wide (ce2 := 0) (sl2 := 0) (by decide) (by decide) ?_
    exact v_zret (pc := 49) rfl (Or.inl rfl) (show decode (tC tTa_takesIn) 49 = .ok (.ireturn, 1) by decide +kernel)
  · replace h := ite_f c h
    refine v_aload_n (pc := 30) (show decode (tC tTa_takesIn) 30 = .ok (.aload_n 0, 1) by decide +kernel) 0 rfl rfl ?_
    obtain ⟨v17, e18, h⟩ := ob h
    refine v_getI (pc := 31) oF_Ta_34 (by decide) e18 (show decode (tC tTa_takesIn) 31 = .ok (.getfield 34, 3) by decide +kernel) ?_
    refine v_aload_n (pc := 34) (show decode (tC tTa_takesIn) 34 = .ok (.aload_n 1, 1) by decide +kernel) 1 rfl rfl ?_
    obtain ⟨v19, e20, h⟩ := ob h
    refine v_getI (pc := 35) oF_Ta_57 (by decide) e20 (show decode (tC tTa_takesIn) 35 = .ok (.getfield 57, 3) by decide +kernel) ?_
    refine v_aload_n (pc := 38) (show decode (tC tTa_takesIn) 38 = .ok (.aload_n 0, 1) by decide +kernel) 0 rfl rfl ?_
    obtain ⟨v21, e22, h⟩ := ob h
    refine v_getI (pc := 39) oF_Ta_31 (by decide) e22 (show decode (tC tTa_takesIn) 39 = .ok (.getfield 31, 3) by decide +kernel) ?_
    obtain ⟨r24, S25, e23, h⟩ := ob2 h
    refine v_call (pc := 42) (v := (some (.int r24))) (y := yTa_isMask) (θ' := tTa_isMask) (rm := rTa_isMask) (av := [.int v17, .int v19, .int v21]) (st := []) (cTa_isMask (l := gl Γ) hl e23) kTa_isMask iTa_isMask (iv_static (y := yTa_isMask) (θ' := tTa_isMask) (n := 3) (As := [.int v17, .int v19, .int v21]) kTa_isMask (gT_in 1090 (by decide +kernel) rfl) sTa_isMask iTa_isMask mTa_isMask rfl (show decode (tC tTa_takesIn) 42 = .ok (.invokestatic 53, 3) by decide +kernel)) ⟨by rw [hR]; decide, by rw [hR]; decide, by rw [hR]; decide, by rw [hR]; decide⟩ (Nat.le_of_ble_eq_true rfl) ?_
    refine v_if_ne (pc := 45) 50 (show decode (tC tTa_takesIn) 45 = .ok (.ifCond .ne 5, 3) by decide +kernel) (by decide) (fun c => ?_) (fun c => ?_)
    · replace h := ite_f c h
      refine v_aload_n (pc := 50) (show decode (tC tTa_takesIn) 50 = .ok (.aload_n 0, 1) by decide +kernel) 0 rfl rfl ?_
      obtain ⟨v26, e27, h⟩ := ob h
      refine v_getI (pc := 51) oF_Ta_40 (by decide) e27 (show decode (tC tTa_takesIn) 51 = .ok (.getfield 40, 3) by decide +kernel) ?_
      refine v_aload_n (pc := 54) (show decode (tC tTa_takesIn) 54 = .ok (.aload_n 1, 1) by decide +kernel) 1 rfl rfl ?_
      obtain ⟨v28, e29, h⟩ := ob h
      refine v_getI (pc := 55) oF_Ta_60 (by decide) e29 (show decode (tC tTa_takesIn) 55 = .ok (.getfield 60, 3) by decide +kernel) ?_
      obtain ⟨r31, S32, e30, h⟩ := ob2 h
      refine v_call (pc := 58) (v := (some (.int r31))) (y := yMp_hasBit) (θ' := tMp_hasBit) (rm := rMp_hasBit) (av := [.int v26, .int v28]) (st := []) (cMp_hasBit (l := gl Γ) hl e30) kMp_hasBit iMp_hasBit (iv_staticN (y := yMp_hasBit) (θ' := tMp_hasBit) (n := 2) (As := [.int v26, .int v28]) kMp_hasBit (List.mem_of_getElem? (l := nN) (i := 14) rfl) sMp_hasBit iMp_hasBit mMp_hasBit rfl (show decode (tC tTa_takesIn) 58 = .ok (.invokestatic 63, 3) by decide +kernel)) ⟨by rw [hR]; decide, by rw [hR]; decide, by rw [hR]; decide, by rw [hR]; decide⟩ (Nat.le_of_ble_eq_true rfl) ?_
      refine v_if_eq (pc := 61) 82 (show decode (tC tTa_takesIn) 61 = .ok (.ifCond .eq 21, 3) by decide +kernel) (by decide) (fun c => ?_) (fun c => ?_)
      · replace h := ite_t c h
        refine v_iconst (pc := 82) (v := 0) (show decode (tC tTa_takesIn) 82 = .ok (.iconst 0, 1) by decide +kernel) (by decide) ?_
        obtain rfl := Option.some.inj h
        refine v_wide (ce2 := 0) (sl2 := 0) (by decide) (by decide) ?_
        exact v_zret (pc := 83) rfl (Or.inl rfl) (show decode (tC tTa_takesIn) 83 = .ok (.ireturn, 1) by decide +kernel)
      · replace h := ite_f c h
        refine v_aload_n (pc := 64) (show decode (tC tTa_takesIn) 64 = .ok (.aload_n 0, 1) by decide +kernel) 0 rfl rfl ?_
        refine v_aload_n (pc := 65) (show decode (tC tTa_takesIn) 65 = .ok (.aload_n 1, 1) by decide +kernel) 1 rfl rfl ?_
        obtain ⟨_, e34, h⟩ := ob h
        obtain ⟨r35, S36, e33, h⟩ := ob2 h
        refine v_call (pc := 66) (v := (some (.int r35))) (y := yTa_placeOf) (θ' := tTa_placeOf) (rm := rTa_placeOf) (av := [.ref x0, .ref x1]) (st := []) (cTa_placeOf (l := gl Γ) hl e33) kTa_placeOf iTa_placeOf (iv_virt (y := yTa_placeOf) (θ' := tTa_placeOf) (kd := 4) (As := [.ref x1]) rfl (ckd_of e34) kTa_placeOf (gT_in 1094 (by decide +kernel) rfl) nTa_placeOf lTa_placeOf mTa_placeOf rfl (show decode (tC tTa_takesIn) 66 = .ok (.invokevirtual 67, 3) by decide +kernel)) ⟨by rw [hR]; decide, by rw [hR]; decide, by rw [hR]; decide, by rw [hR]; decide⟩ (Nat.le_of_ble_eq_true rfl) ?_
        refine v_iconst (pc := 69) (v := (-1)) (show decode (tC tTa_takesIn) 69 = .ok (.iconst (-1), 1) by decide +kernel) (by decide) ?_
        refine v_icmp_ne (pc := 70) 82 (show decode (tC tTa_takesIn) 70 = .ok (.if_icmp .ne 12, 3) by decide +kernel) (by decide) (fun c => ?_) (fun c => ?_)
        · replace h := ite_f c h
          refine v_iconst (pc := 82) (v := 0) (show decode (tC tTa_takesIn) 82 = .ok (.iconst 0, 1) by decide +kernel) (by decide) ?_
          obtain rfl := Option.some.inj h
          refine v_wide (ce2 := 0) (sl2 := 0) (by decide) (by decide) ?_
          exact v_zret (pc := 83) rfl (Or.inl rfl) (show decode (tC tTa_takesIn) 83 = .ok (.ireturn, 1) by decide +kernel)
        · replace h := ite_t c h
          refine v_aload_n (pc := 73) (show decode (tC tTa_takesIn) 73 = .ok (.aload_n 0, 1) by decide +kernel) 0 rfl rfl ?_
          obtain ⟨v37, e38, h⟩ := ob h
          refine v_getI (pc := 74) oF_Ta_37 (by decide) e38 (show decode (tC tTa_takesIn) 74 = .ok (.getfield 37, 3) by decide +kernel) ?_
          refine v_bipush (pc := 77) (v := 20) (show decode (tC tTa_takesIn) 77 = .ok (.bipush 20, 2) by decide +kernel) (by decide) ?_
          refine v_icmp_lt (pc := 79) 84 (show decode (tC tTa_takesIn) 79 = .ok (.if_icmp .lt 5, 3) by decide +kernel) (by decide) (fun c => ?_) (fun c => ?_)
          · replace h := ite_t c h
            refine v_aload_n (pc := 84) (show decode (tC tTa_takesIn) 84 = .ok (.aload_n 0, 1) by decide +kernel) 0 rfl rfl ?_
            obtain ⟨v39, e40, h⟩ := ob h
            refine v_getX (pc := 85) oF_Ta_11 e40 (show decode (tC tTa_takesIn) 85 = .ok (.getfield 11, 3) by decide +kernel) ?_
            refine v_aload_n (pc := 88) (show decode (tC tTa_takesIn) 88 = .ok (.aload_n 0, 1) by decide +kernel) 0 rfl rfl ?_
            obtain ⟨v41, e42, h⟩ := ob h
            refine v_getI (pc := 89) oF_Ta_37 (by decide) e42 (show decode (tC tTa_takesIn) 89 = .ok (.getfield 37, 3) by decide +kernel) ?_
            obtain ⟨v43, e44, h⟩ := ob h
            refine v_aald (pc := 92) (kd := 5) rfl e44 (show decode (tC tTa_takesIn) 92 = .ok (.aaload, 1) by decide +kernel) ?_
            refine v_aload_n (pc := 93) (show decode (tC tTa_takesIn) 93 = .ok (.aload_n 1, 1) by decide +kernel) 1 rfl rfl ?_
            obtain ⟨_, e46, h⟩ := ob h
            obtain ⟨S47, e45, h⟩ := ob h
            refine v_call (pc := 94) (v := none) (y := yEn_copy) (θ' := tEn_copy) (rm := rEn_copy) (av := [.ref v43, .ref x1]) (st := []) (cEn_copy (l := gl Γ) hl e45) kEn_copy iEn_copy (iv_virt (y := yEn_copy) (θ' := tEn_copy) (kd := 5) (As := [.ref x1]) rfl (ckd_of e46) kEn_copy (gT_in 1102 (by decide +kernel) rfl) nEn_copy lEn_copy mEn_copy rfl (show decode (tC tTa_takesIn) 94 = .ok (.invokevirtual 71, 3) by decide +kernel)) ⟨by rw [hR]; decide, by rw [hR]; decide, by rw [hR]; decide, by rw [hR]; decide⟩ (Nat.le_of_ble_eq_true rfl) ?_
            refine v_aload_n (pc := 97) (show decode (tC tTa_takesIn) 97 = .ok (.aload_n 0, 1) by decide +kernel) 0 rfl rfl ?_
            refine v_dup (pc := 98) (show decode (tC tTa_takesIn) 98 = .ok (.dup, 1) by decide +kernel) rfl ?_
            obtain ⟨v48, e49, h⟩ := ob h
            refine v_getI (pc := 99) oF_Ta_37 (by decide) e49 (show decode (tC tTa_takesIn) 99 = .ok (.getfield 37, 3) by decide +kernel) ?_
            refine v_iconst (pc := 102) (v := 1) (show decode (tC tTa_takesIn) 102 = .ok (.iconst 1, 1) by decide +kernel) (by decide) ?_
            refine v_iadd (pc := 103) (show decode (tC tTa_takesIn) 103 = .ok (.iadd, 1) by decide +kernel) ?_
            obtain ⟨S50, e51, h⟩ := ob h
            refine v_putI (pc := 104) oF_Ta_37 (fin_ok (kd := 4) (k := 1) (by decide +kernel)) e51 (show decode (tC tTa_takesIn) 104 = .ok (.putfield 37, 3) by decide +kernel) ?_
            refine v_iconst (pc := 107) (v := 1) (show decode (tC tTa_takesIn) 107 = .ok (.iconst 1, 1) by decide +kernel) (by decide) ?_
            obtain rfl := Option.some.inj h
            refine v_wide (ce2 := 0) (sl2 := 0) (by decide) (by decide) ?_
            exact v_zret (pc := 108) rfl (Or.inr rfl) (show decode (tC tTa_takesIn) 108 = .ok (.ireturn, 1) by decide +kernel)
          · replace h := ite_f c h
            refine v_iconst (pc := 82) (v := 0) (show decode (tC tTa_takesIn) 82 = .ok (.iconst 0, 1) by decide +kernel) (by decide) ?_
            obtain rfl := Option.some.inj h
            refine v_wide (ce2 := 0) (sl2 := 0) (by decide) (by decide) ?_
            exact v_zret (pc := 83) rfl (Or.inl rfl) (show decode (tC tTa_takesIn) 83 = .ok (.ireturn, 1) by decide +kernel)
    · replace h := ite_t c h
      refine v_iconst (pc := 48) (v := 0) (show decode (tC tTa_takesIn) 48 = .ok (.iconst 0, 1) by decide +kernel) (by decide) ?_
      obtain rfl := Option.some.inj h
      refine v_wide (ce2 := 0) (sl2 := 0) (by decide) (by decide) ?_
      exact v_zret (pc := 49) rfl (Or.inl rfl) (show decode (tC tTa_takesIn) 49 = .ok (.ireturn, 1) by decide +kernel)
theorem cTa_takesIn {l : Launch} (hl : l.flags = pinnedFlags ++ [noTraceFlag]) {D : va_G} {dA : Nat → ClassId} {B : Nat} {x0 : Nat} {x1 : Nat} {S : Sx} {X : Int32 × Sx} (h : fTa_takesIn x0 x1 S = some X) : Mx l yTa_takesIn tTa_takesIn rTa_takesIn 0 0 D dA B S [.ref x0, .ref x1] 0 (some (.int X.1)) X.2 :=
  mx_of hl (by decide) rfl rfl (Nat.le_of_ble_eq_true rfl) (fun Γ e1 e2 e3 e4 e5 => by subst e1; subst e3; subst e4; subst e5; exact wTa_takesIn e2 hl x0 x1 S h)
/-! MatchPipe$Table.prefixMask(LMatchPipe$Entry;)I -/
def yTa_prefixMask : MethodName := ⟨"MatchPipe$Table", "prefixMask", "(LMatchPipe$Entry;)I"⟩
def tTa_prefixMask : tM := (prog_12_method_8_code, "MatchPipe$Table", 2, "prefixMask", some .int, [])
def rTa_prefixMask : Room := { frames := 0, cells := 0, slots := 0, locals := 0 }
theorem kTa_prefixMask : cOf yTa_prefixMask tTa_prefixMask ∈ gT := gT_in 1131 (by decide +kernel) rfl
theorem iTa_prefixMask : Cond.initialized yTa_prefixMask.cls ∈ gT := gT_in 60 (by decide +kernel) rfl
theorem mTa_prefixMask : okM yTa_prefixMask 1 := ⟨by decide, by decide, by unfold nPar; decide +kernel⟩
theorem nTa_prefixMask : Cond.instanceMethod yTa_prefixMask ∈ gT := gT_in 1130 (by decide +kernel) rfl
theorem lTa_prefixMask : Cond.selects "MatchPipe$Table" yTa_prefixMask yTa_prefixMask ∈ gT := gT_in 22 (by decide +kernel) rfl
def fTa_prefixMask (x0 : Nat) (x1 : Nat) (S : Sx) : Option (Int32 × Sx) :=
    (gI S 4 4 x0).bind fun v1 =>
    if v1 = 1 then
    ((gI S 5 1 x1).bind fun v7 =>
    some (v7, S))
    else
    ((gI S 4 7 x0).bind fun v3 =>
    if v3 = 1 then
    ((gI S 5 3 x1).bind fun v5 =>
    some (v5, S))
    else
    (some (0, S)))
set_option maxRecDepth 100000 in
set_option maxHeartbeats 4000000 in
theorem wTa_prefixMask {Γ : vG} (hR : gR Γ = rTa_prefixMask) (hl : (gl Γ).flags = pinnedFlags ++ [noTraceFlag]) (x0 : Nat) (x1 : Nat) (S : Sx) {X : Int32 × Sx} (h : fTa_prefixMask x0 x1 S = some X) : vV Γ tTa_prefixMask (mQ Γ 0 0 0 (some (.int X.1)) X.2) S 0 0 0 [(0, .ref x0), (1, .ref x1)] [] := by
  unfold fTa_prefixMask at h
  refine v_aload_n (pc := 0) (show decode (tC tTa_prefixMask) 0 = .ok (.aload_n 0, 1) by decide +kernel) 0 rfl rfl ?_
  obtain ⟨v1, e2, h⟩ := ob h
  refine v_getI (pc := 1) oF_Ta_25 (by decide) e2 (show decode (tC tTa_prefixMask) 1 = .ok (.getfield 25, 3) by decide +kernel) ?_
  refine v_iconst (pc := 4) (v := 1) (show decode (tC tTa_prefixMask) 4 = .ok (.iconst 1, 1) by decide +kernel) (by decide) ?_
  refine v_icmp_ne (pc := 5) 13 (show decode (tC tTa_prefixMask) 5 = .ok (.if_icmp .ne 8, 3) by decide +kernel) (by decide) (fun c => ?_) (fun c => ?_)
  · replace h := ite_f c h
    refine v_aload_n (pc := 13) (show decode (tC tTa_prefixMask) 13 = .ok (.aload_n 0, 1) by decide +kernel) 0 rfl rfl ?_
    obtain ⟨v3, e4, h⟩ := ob h
    refine v_getI (pc := 14) oF_Ta_34 (by decide) e4 (show decode (tC tTa_prefixMask) 14 = .ok (.getfield 34, 3) by decide +kernel) ?_
    refine v_iconst (pc := 17) (v := 1) (show decode (tC tTa_prefixMask) 17 = .ok (.iconst 1, 1) by decide +kernel) (by decide) ?_
    refine v_icmp_ne (pc := 18) 28 (show decode (tC tTa_prefixMask) 18 = .ok (.if_icmp .ne 10, 3) by decide +kernel) (by decide) (fun c => ?_) (fun c => ?_)
    · replace h := ite_f c h
      refine v_iconst (pc := 28) (v := 0) (show decode (tC tTa_prefixMask) 28 = .ok (.iconst 0, 1) by decide +kernel) (by decide) ?_
      obtain rfl := Option.some.inj h
      refine v_wide (ce2 := 0) (sl2 := 0) (by decide) (by decide) ?_
      exact v_iret (pc := 29) rfl (show decode (tC tTa_prefixMask) 29 = .ok (.ireturn, 1) by decide +kernel)
    · replace h := ite_t c h
      refine v_aload_n (pc := 21) (show decode (tC tTa_prefixMask) 21 = .ok (.aload_n 1, 1) by decide +kernel) 1 rfl rfl ?_
      obtain ⟨v5, e6, h⟩ := ob h
      refine v_getI (pc := 22) oF_Ta_57 (by decide) e6 (show decode (tC tTa_prefixMask) 22 = .ok (.getfield 57, 3) by decide +kernel) ?_
      refine v_goto (pc := 25) 29 (show decode (tC tTa_prefixMask) 25 = .ok (.goto 4, 3) by decide +kernel) (by decide) ?_
      obtain rfl := Option.some.inj h
      refine v_wide (ce2 := 0) (sl2 := 0) (by decide) (by decide) ?_
      exact v_iret (pc := 29) rfl (show decode (tC tTa_prefixMask) 29 = .ok (.ireturn, 1) by decide +kernel)
  · replace h := ite_t c h
    refine v_aload_n (pc := 8) (show decode (tC tTa_prefixMask) 8 = .ok (.aload_n 1, 1) by decide +kernel) 1 rfl rfl ?_
    obtain ⟨v7, e8, h⟩ := ob h
    refine v_getI (pc := 9) oF_Ta_50 (by decide) e8 (show decode (tC tTa_prefixMask) 9 = .ok (.getfield 50, 3) by decide +kernel) ?_
    obtain rfl := Option.some.inj h
    refine v_wide (ce2 := 0) (sl2 := 0) (by decide) (by decide) ?_
    exact v_iret (pc := 12) rfl (show decode (tC tTa_prefixMask) 12 = .ok (.ireturn, 1) by decide +kernel)
theorem cTa_prefixMask {l : Launch} (hl : l.flags = pinnedFlags ++ [noTraceFlag]) {D : va_G} {dA : Nat → ClassId} {B : Nat} {x0 : Nat} {x1 : Nat} {S : Sx} {X : Int32 × Sx} (h : fTa_prefixMask x0 x1 S = some X) : Mx l yTa_prefixMask tTa_prefixMask rTa_prefixMask 0 0 D dA B S [.ref x0, .ref x1] 0 (some (.int X.1)) X.2 :=
  mx_of hl (by decide) rfl rfl (Nat.le_of_ble_eq_true rfl) (fun Γ e1 e2 e3 e4 e5 => by subst e1; subst e3; subst e4; subst e5; exact wTa_prefixMask e2 hl x0 x1 S h)
/-! MatchPipe$Table.isBetter(LMatchPipe$Entry;LMatchPipe$Entry;)Z -/
def yTa_isBetter : MethodName := ⟨"MatchPipe$Table", "isBetter", "(LMatchPipe$Entry;LMatchPipe$Entry;)Z"⟩
def tTa_isBetter : tM := (prog_12_method_7_code, "MatchPipe$Table", 4, "isBetter", some .boolean, [])
def rTa_isBetter : Room := { frames := 1, cells := 0, slots := 0, locals := 21 }
theorem kTa_isBetter : cOf yTa_isBetter tTa_isBetter ∈ gT := gT_in 1127 (by decide +kernel) rfl
theorem iTa_isBetter : Cond.initialized yTa_isBetter.cls ∈ gT := gT_in 60 (by decide +kernel) rfl
theorem mTa_isBetter : okM yTa_isBetter 2 := ⟨by decide, by decide, by unfold nPar; decide +kernel⟩
theorem nTa_isBetter : Cond.instanceMethod yTa_isBetter ∈ gT := gT_in 1126 (by decide +kernel) rfl
theorem lTa_isBetter : Cond.selects "MatchPipe$Table" yTa_isBetter yTa_isBetter ∈ gT := gT_in 21 (by decide +kernel) rfl
def fTa_isBetter (x0 : Nat) (x1 : Nat) (x2 : Nat) (S : Sx) : Option (Int32 × Sx) :=
    (ckd S x0 4).bind fun _ =>
    bd2 (fTa_prefixMask x0 x1 S) fun r3 S4 =>
    bd2 (fJI_bitCount r3 S4) fun r6 S7 =>
    (ckd S7 x0 4).bind fun _ =>
    bd2 (fTa_prefixMask x0 x2 S7) fun r10 S11 =>
    bd2 (fJI_bitCount r10 S11) fun r13 S14 =>
    if (0 : Int32) < (r6 - r13) then
    (some (1, S14))
    else
    (if (r6 - r13) = 0 then
    ((gI S14 5 4 x1).bind fun v15 =>
    (gI S14 5 4 x2).bind fun v17 =>
    if v15 ≤ v17 then
    (some (0, S14))
    else
    (some (1, S14)))
    else
    (some (0, S14)))
set_option maxRecDepth 100000 in
set_option maxHeartbeats 4000000 in
theorem wTa_isBetter {Γ : vG} (hR : gR Γ = rTa_isBetter) (hl : (gl Γ).flags = pinnedFlags ++ [noTraceFlag]) (x0 : Nat) (x1 : Nat) (x2 : Nat) (S : Sx) {X : Int32 × Sx} (h : fTa_isBetter x0 x1 x2 S = some X) : vV Γ tTa_isBetter (mQ Γ 0 0 0 (some (.int X.1)) X.2) S 0 0 0 [(0, .ref x0), (1, .ref x1), (2, .ref x2)] [] := by
  unfold fTa_isBetter at h
  refine v_aload_n (pc := 0) (show decode (tC tTa_isBetter) 0 = .ok (.aload_n 0, 1) by decide +kernel) 0 rfl rfl ?_
  refine v_aload_n (pc := 1) (show decode (tC tTa_isBetter) 1 = .ok (.aload_n 1, 1) by decide +kernel) 1 rfl rfl ?_
  obtain ⟨_, e2, h⟩ := ob h
  obtain ⟨r3, S4, e1, h⟩ := ob2 h
  refine v_call (pc := 2) (v := (some (.int r3))) (y := yTa_prefixMask) (θ' := tTa_prefixMask) (rm := rTa_prefixMask) (av := [.ref x0, .ref x1]) (st := []) (cTa_prefixMask (l := gl Γ) hl e1) kTa_prefixMask iTa_prefixMask (iv_virt (y := yTa_prefixMask) (θ' := tTa_prefixMask) (kd := 4) (As := [.ref x1]) rfl (ckd_of e2) kTa_prefixMask (gT_in 1128 (by decide +kernel) rfl) nTa_prefixMask lTa_prefixMask mTa_prefixMask rfl (show decode (tC tTa_isBetter) 2 = .ok (.invokevirtual 82, 3) by decide +kernel)) ⟨by rw [hR]; decide, by rw [hR]; decide, by rw [hR]; decide, by rw [hR]; decide⟩ (Nat.le_of_ble_eq_true rfl) ?_
  obtain ⟨r6, S7, e5, h⟩ := ob2 h
  refine v_call (pc := 5) (v := (some (.int r6))) (y := yJI_bitCount) (θ' := tJI_bitCount) (rm := rJI_bitCount) (av := [.int r3]) (st := []) (cJI_bitCount (l := gl Γ) hl e5) kJI_bitCount iJI_bitCount (iv_static (y := yJI_bitCount) (θ' := tJI_bitCount) (n := 1) (As := [.int r3]) kJI_bitCount (gT_in 1132 (by decide +kernel) rfl) sJI_bitCount iJI_bitCount mJI_bitCount rfl (show decode (tC tTa_isBetter) 5 = .ok (.invokestatic 85, 3) by decide +kernel)) ⟨by rw [hR]; decide, by rw [hR]; decide, by rw [hR]; decide, by rw [hR]; decide⟩ (Nat.le_of_ble_eq_true rfl) ?_
  refine v_aload_n (pc := 8) (show decode (tC tTa_isBetter) 8 = .ok (.aload_n 0, 1) by decide +kernel) 0 rfl rfl ?_
  refine v_aload_n (pc := 9) (show decode (tC tTa_isBetter) 9 = .ok (.aload_n 2, 1) by decide +kernel) 2 rfl rfl ?_
  obtain ⟨_, e9, h⟩ := ob h
  obtain ⟨r10, S11, e8, h⟩ := ob2 h
  refine v_call (pc := 10) (v := (some (.int r10))) (y := yTa_prefixMask) (θ' := tTa_prefixMask) (rm := rTa_prefixMask) (av := [.ref x0, .ref x2]) (st := [.int r6]) (cTa_prefixMask (l := gl Γ) hl e8) kTa_prefixMask iTa_prefixMask (iv_virt (y := yTa_prefixMask) (θ' := tTa_prefixMask) (kd := 4) (As := [.ref x2]) rfl (ckd_of e9) kTa_prefixMask (gT_in 1128 (by decide +kernel) rfl) nTa_prefixMask lTa_prefixMask mTa_prefixMask rfl (show decode (tC tTa_isBetter) 10 = .ok (.invokevirtual 82, 3) by decide +kernel)) ⟨by rw [hR]; decide, by rw [hR]; decide, by rw [hR]; decide, by rw [hR]; decide⟩ (Nat.le_of_ble_eq_true rfl) ?_
  obtain ⟨r13, S14, e12, h⟩ := ob2 h
  refine v_call (pc := 13) (v := (some (.int r13))) (y := yJI_bitCount) (θ' := tJI_bitCount) (rm := rJI_bitCount) (av := [.int r10]) (st := [.int r6]) (cJI_bitCount (l := gl Γ) hl e12) kJI_bitCount iJI_bitCount (iv_static (y := yJI_bitCount) (θ' := tJI_bitCount) (n := 1) (As := [.int r10]) kJI_bitCount (gT_in 1132 (by decide +kernel) rfl) sJI_bitCount iJI_bitCount mJI_bitCount rfl (show decode (tC tTa_isBetter) 13 = .ok (.invokestatic 85, 3) by decide +kernel)) ⟨by rw [hR]; decide, by rw [hR]; decide, by rw [hR]; decide, by rw [hR]; decide⟩ (Nat.le_of_ble_eq_true rfl) ?_
  refine v_isub (pc := 16) (show decode (tC tTa_isBetter) 16 = .ok (.isub, 1) by decide +kernel) ?_
  refine v_istore_n (pc := 17) [(3, .int (r6 - r13)), (0, .ref x0), (1, .ref x1), (2, .ref x2)] (show decode (tC tTa_isBetter) 17 = .ok (.istore_n 3, 1) by decide +kernel) rfl (by decide) rfl ?_
  refine v_iload_n (pc := 18) (show decode (tC tTa_isBetter) 18 = .ok (.iload_n 3, 1) by decide +kernel) 0 rfl rfl ?_
  refine v_if_gt (pc := 19) 37 (show decode (tC tTa_isBetter) 19 = .ok (.ifCond .gt 18, 3) by decide +kernel) (by decide) (fun c => ?_) (fun c => ?_)
  · replace h := ite_t c h
    refine v_iconst (pc := 37) (v := 1) (show decode (tC tTa_isBetter) 37 = .ok (.iconst 1, 1) by decide +kernel) (by decide) ?_
    refine v_goto (pc := 38) 42 (show decode (tC tTa_isBetter) 38 = .ok (.goto 4, 3) by decide +kernel) (by decide) ?_
    obtain rfl := Option.some.inj h
    refine v_wide (ce2 := 0) (sl2 := 0) (by decide) (by decide) ?_
    exact v_zret (pc := 42) rfl (Or.inr rfl) (show decode (tC tTa_isBetter) 42 = .ok (.ireturn, 1) by decide +kernel)
  · replace h := ite_f c h
    refine v_iload_n (pc := 22) (show decode (tC tTa_isBetter) 22 = .ok (.iload_n 3, 1) by decide +kernel) 0 rfl rfl ?_
    refine v_if_ne (pc := 23) 41 (show decode (tC tTa_isBetter) 23 = .ok (.ifCond .ne 18, 3) by decide +kernel) (by decide) (fun c => ?_) (fun c => ?_)
    · replace h := ite_f c h
      refine v_iconst (pc := 41) (v := 0) (show decode (tC tTa_isBetter) 41 = .ok (.iconst 0, 1) by decide +kernel) (by decide) ?_
      obtain rfl := Option.some.inj h
      refine v_wide (ce2 := 0) (sl2 := 0) (by decide) (by decide) ?_
      exact v_zret (pc := 42) rfl (Or.inl rfl) (show decode (tC tTa_isBetter) 42 = .ok (.ireturn, 1) by decide +kernel)
    · replace h := ite_t c h
      refine v_aload_n (pc := 26) (show decode (tC tTa_isBetter) 26 = .ok (.aload_n 1, 1) by decide +kernel) 2 rfl rfl ?_
      obtain ⟨v15, e16, h⟩ := ob h
      refine v_getI (pc := 27) oF_Ta_91 (by decide) e16 (show decode (tC tTa_isBetter) 27 = .ok (.getfield 91, 3) by decide +kernel) ?_
      refine v_aload_n (pc := 30) (show decode (tC tTa_isBetter) 30 = .ok (.aload_n 2, 1) by decide +kernel) 3 rfl rfl ?_
      obtain ⟨v17, e18, h⟩ := ob h
      refine v_getI (pc := 31) oF_Ta_91 (by decide) e18 (show decode (tC tTa_isBetter) 31 = .ok (.getfield 91, 3) by decide +kernel) ?_
      refine v_icmp_le (pc := 34) 41 (show decode (tC tTa_isBetter) 34 = .ok (.if_icmp .le 7, 3) by decide +kernel) (by decide) (fun c => ?_) (fun c => ?_)
      · replace h := ite_t c h
        refine v_iconst (pc := 41) (v := 0) (show decode (tC tTa_isBetter) 41 = .ok (.iconst 0, 1) by decide +kernel) (by decide) ?_
        obtain rfl := Option.some.inj h
        refine v_wide (ce2 := 0) (sl2 := 0) (by decide) (by decide) ?_
        exact v_zret (pc := 42) rfl (Or.inl rfl) (show decode (tC tTa_isBetter) 42 = .ok (.ireturn, 1) by decide +kernel)
      · replace h := ite_f c h
        refine v_iconst (pc := 37) (v := 1) (show decode (tC tTa_isBetter) 37 = .ok (.iconst 1, 1) by decide +kernel) (by decide) ?_
        refine v_goto (pc := 38) 42 (show decode (tC tTa_isBetter) 38 = .ok (.goto 4, 3) by decide +kernel) (by decide) ?_
        obtain rfl := Option.some.inj h
        refine v_wide (ce2 := 0) (sl2 := 0) (by decide) (by decide) ?_
        exact v_zret (pc := 42) rfl (Or.inr rfl) (show decode (tC tTa_isBetter) 42 = .ok (.ireturn, 1) by decide +kernel)
theorem cTa_isBetter {l : Launch} (hl : l.flags = pinnedFlags ++ [noTraceFlag]) {D : va_G} {dA : Nat → ClassId} {B : Nat} {x0 : Nat} {x1 : Nat} {x2 : Nat} {S : Sx} {X : Int32 × Sx} (h : fTa_isBetter x0 x1 x2 S = some X) : Mx l yTa_isBetter tTa_isBetter rTa_isBetter 0 0 D dA B S [.ref x0, .ref x1, .ref x2] 0 (some (.int X.1)) X.2 :=
  mx_of hl (by decide) rfl rfl (Nat.le_of_ble_eq_true rfl) (fun Γ e1 e2 e3 e4 e5 => by subst e1; subst e3; subst e4; subst e5; exact wTa_isBetter e2 hl x0 x1 x2 S h)
/-! MatchPipe$Table.best(II)LMatchPipe$Entry; -/
def yTa_best : MethodName := ⟨"MatchPipe$Table", "best", "(II)LMatchPipe$Entry;"⟩
def tTa_best : tM := (prog_12_method_6_code, "MatchPipe$Table", 5, "best", some (.object "MatchPipe$Entry"), [])
def rTa_best : Room := { frames := 2, cells := 0, slots := 0, locals := 44 }
theorem kTa_best : cOf yTa_best tTa_best ∈ gT := gT_in 1119 (by decide +kernel) rfl
theorem iTa_best : Cond.initialized yTa_best.cls ∈ gT := gT_in 60 (by decide +kernel) rfl
theorem mTa_best : okM yTa_best 2 := ⟨by decide, by decide, by unfold nPar; decide +kernel⟩
theorem nTa_best : Cond.instanceMethod yTa_best ∈ gT := gT_in 1117 (by decide +kernel) rfl
theorem lTa_best : Cond.selects "MatchPipe$Table" yTa_best yTa_best ∈ gT := gT_in 1118 (by decide +kernel) rfl
def fTa_best_48 (k5 : Nat → Int32 → Int32 → Option Nat → Int32 → Sx → Option (Option Nat × Sx)) (x0 : Nat) (x1 : Int32) (x2 : Int32) (x4 : Int32) (S : Sx) : Option (Option Nat × Sx) :=
    (gX S 4 0 x0).bind fun v1 =>
    (aX S 5 v1 x4).bind fun v3 =>
    k5 x0 x1 x2 (some v3) (x4 + 1) S
set_option maxRecDepth 100000 in
set_option maxHeartbeats 4000000 in
theorem wTa_best_48 {Γ : vG} (hR : gR Γ = rTa_best) (hl : (gl Γ).flags = pinnedFlags ++ [noTraceFlag]) {X : Option Nat × Sx} {k5 : Nat → Int32 → Int32 → Option Nat → Int32 → Sx → Option (Option Nat × Sx)} (hk5 : ∀ (x0 : Nat) (x1 : Int32) (x2 : Int32) (x3 : Option Nat) (x4 : Int32) (S : Sx), k5 x0 x1 x2 x3 x4 S = some X → vV Γ tTa_best (mQ Γ 0 0 0 (some (va_rf X.1)) X.2) S 0 0 5 [(0, .ref x0), (1, .int x1), (2, .int x2), (3, va_rf x3), (4, .int x4)] []) : ∀ (x0 : Nat) (x1 : Int32) (x2 : Int32) (x4 : Int32) (S : Sx), fTa_best_48 k5 x0 x1 x2 x4 S = some X → vV Γ tTa_best (mQ Γ 0 0 0 (some (va_rf X.1)) X.2) S 0 0 48 [(0, .ref x0), (1, .int x1), (2, .int x2), (4, .int x4)] [] := by
  intro x0 x1 x2 x4 S h
  unfold fTa_best_48 at h
  refine v_aload_n (pc := 48) (show decode (tC tTa_best) 48 = .ok (.aload_n 0, 1) by decide +kernel) 0 rfl rfl ?_
  obtain ⟨v1, e2, h⟩ := ob h
  refine v_getX (pc := 49) oF_Ta_11 e2 (show decode (tC tTa_best) 49 = .ok (.getfield 11, 3) by decide +kernel) ?_
  refine v_iload (pc := 52) (show decode (tC tTa_best) 52 = .ok (.iload 4, 2) by decide +kernel) 3 rfl ?_
  obtain ⟨v3, e4, h⟩ := ob h
  refine v_aald (pc := 54) (kd := 5) rfl e4 (show decode (tC tTa_best) 54 = .ok (.aaload, 1) by decide +kernel) ?_
  refine v_astore_n (pc := 55) [(3, .ref v3), (0, .ref x0), (1, .int x1), (2, .int x2), (4, .int x4)] (show decode (tC tTa_best) 55 = .ok (.astore_n 3, 1) by decide +kernel) rfl (by decide) rfl ?_
  refine v_iinc (pc := 56) (j := 4) [(4, .int (x4 + 1)), (3, .ref v3), (0, .ref x0), (1, .int x1), (2, .int x2)] (show decode (tC tTa_best) 56 = .ok (.iinc 4 1, 3) by decide +kernel) rfl rfl (by decide) rfl ?_
  refine v_goto (pc := 59) 5 (show decode (tC tTa_best) 59 = .ok (.goto (-54), 3) by decide +kernel) (by decide) ?_
  refine v_sub [(0, .ref x0), (1, .int x1), (2, .int x2), (3, va_rf (some v3)), (4, .int (x4 + 1))] [2, 3, 4, 1, 0] rfl ?_
  exact hk5 x0 x1 x2 (some v3) (x4 + 1) S h
def fTa_best_5  : Nat → Nat → Int32 → Int32 → Option Nat → Int32 → Sx → Option (Option Nat × Sx)
  | 0, _, _, _, _, _, _ => none
  | n + 1, x0, x1, x2, x3, x4, S =>
    (gI S 4 1 x0).bind fun v1 =>
    if v1 ≤ x4 then
    (some (x3, S))
    else
    ((gX S 4 0 x0).bind fun v3 =>
    (aX S 5 v3 x4).bind fun v5 =>
    (ckd S v5 5).bind fun _ =>
    bd2 (fEn_matches v5 x1 x2 S) fun r9 S10 =>
    if r9 = 0 then
    (fTa_best_5 n x0 x1 x2 x3 (x4 + 1) S10)
    else
    (oM x3
    (fTa_best_48 (fun y0 y1 y2 y3 y4 T => fTa_best_5 n y0 y1 y2 y3 y4 T) x0 x1 x2 x4 S10)
    (fun a11 => (gX S10 4 0 x0).bind fun v12 =>
    (aX S10 5 v12 x4).bind fun v14 =>
    (ckd S10 x0 4).bind fun _ =>
    bd2 (fTa_isBetter x0 v14 a11 S10) fun r18 S19 =>
    if r18 = 0 then
    (fTa_best_5 n x0 x1 x2 (some a11) (x4 + 1) S19)
    else
    (fTa_best_48 (fun y0 y1 y2 y3 y4 T => fTa_best_5 n y0 y1 y2 y3 y4 T) x0 x1 x2 x4 S19))))
set_option maxRecDepth 100000 in
set_option maxHeartbeats 4000000 in
theorem wTa_best_5 {Γ : vG} (hR : gR Γ = rTa_best) (hl : (gl Γ).flags = pinnedFlags ++ [noTraceFlag]) {X : Option Nat × Sx}  : ∀ (n : Nat) (x0 : Nat) (x1 : Int32) (x2 : Int32) (x3 : Option Nat) (x4 : Int32) (S : Sx), fTa_best_5  n x0 x1 x2 x3 x4 S = some X → vV Γ tTa_best (mQ Γ 0 0 0 (some (va_rf X.1)) X.2) S 0 0 5 [(0, .ref x0), (1, .int x1), (2, .int x2), (3, va_rf x3), (4, .int x4)] [] := by
  intro n
  induction n with
  | zero => intro x0 x1 x2 x3 x4 S h; rw [fTa_best_5] at h; cases h
  | succ n ih =>
    intro x0 x1 x2 x3 x4 S h
    rw [fTa_best_5] at h
    refine v_iload (pc := 5) (show decode (tC tTa_best) 5 = .ok (.iload 4, 2) by decide +kernel) 4 rfl ?_
    refine v_aload_n (pc := 7) (show decode (tC tTa_best) 7 = .ok (.aload_n 0, 1) by decide +kernel) 0 rfl rfl ?_
    obtain ⟨v1, e2, h⟩ := ob h
    refine v_getI (pc := 8) oF_Ta_37 (by decide) e2 (show decode (tC tTa_best) 8 = .ok (.getfield 37, 3) by decide +kernel) ?_
    refine v_icmp_ge (pc := 11) 62 (show decode (tC tTa_best) 11 = .ok (.if_icmp .ge 51, 3) by decide +kernel) (by decide) (fun c => ?_) (fun c => ?_)
    · replace h := ite_t c h
      refine v_aload_nq (pc := 62) (show decode (tC tTa_best) 62 = .ok (.aload_n 3, 1) by decide +kernel) 3 rfl rfl ?_
      obtain rfl := Option.some.inj h
      refine v_wide (ce2 := 0) (sl2 := 0) (by decide) (by decide) ?_
      exact v_aret (pc := 63) (r := x3) rfl (show decode (tC tTa_best) 63 = .ok (.areturn, 1) by decide +kernel)
    · replace h := ite_f c h
      refine v_aload_n (pc := 14) (show decode (tC tTa_best) 14 = .ok (.aload_n 0, 1) by decide +kernel) 0 rfl rfl ?_
      obtain ⟨v3, e4, h⟩ := ob h
      refine v_getX (pc := 15) oF_Ta_11 e4 (show decode (tC tTa_best) 15 = .ok (.getfield 11, 3) by decide +kernel) ?_
      refine v_iload (pc := 18) (show decode (tC tTa_best) 18 = .ok (.iload 4, 2) by decide +kernel) 4 rfl ?_
      obtain ⟨v5, e6, h⟩ := ob h
      refine v_aald (pc := 20) (kd := 5) rfl e6 (show decode (tC tTa_best) 20 = .ok (.aaload, 1) by decide +kernel) ?_
      refine v_iload_n (pc := 21) (show decode (tC tTa_best) 21 = .ok (.iload_n 1, 1) by decide +kernel) 1 rfl rfl ?_
      refine v_iload_n (pc := 22) (show decode (tC tTa_best) 22 = .ok (.iload_n 2, 1) by decide +kernel) 2 rfl rfl ?_
      obtain ⟨_, e8, h⟩ := ob h
      obtain ⟨r9, S10, e7, h⟩ := ob2 h
      refine v_call (pc := 23) (v := (some (.int r9))) (y := yEn_matches) (θ' := tEn_matches) (rm := rEn_matches) (av := [.ref v5, .int x1, .int x2]) (st := []) (cEn_matches (l := gl Γ) hl e7) kEn_matches iEn_matches (iv_virt (y := yEn_matches) (θ' := tEn_matches) (kd := 5) (As := [.int x1, .int x2]) rfl (ckd_of e8) kEn_matches (gT_in 1120 (by decide +kernel) rfl) nEn_matches lEn_matches mEn_matches rfl (show decode (tC tTa_best) 23 = .ok (.invokevirtual 75, 3) by decide +kernel)) ⟨by rw [hR]; decide, by rw [hR]; decide, by rw [hR]; decide, by rw [hR]; decide⟩ (Nat.le_of_ble_eq_true rfl) ?_
      refine v_if_eq (pc := 26) 56 (show decode (tC tTa_best) 26 = .ok (.ifCond .eq 30, 3) by decide +kernel) (by decide) (fun c => ?_) (fun c => ?_)
      · replace h := ite_t c h
        refine v_iinc (pc := 56) (j := 4) [(4, .int (x4 + 1)), (0, .ref x0), (1, .int x1), (2, .int x2), (3, va_rf x3)] (show decode (tC tTa_best) 56 = .ok (.iinc 4 1, 3) by decide +kernel) rfl rfl (by decide) (by cases x3 <;> rfl) ?_
        refine v_goto (pc := 59) 5 (show decode (tC tTa_best) 59 = .ok (.goto (-54), 3) by decide +kernel) (by decide) ?_
        refine v_sub [(0, .ref x0), (1, .int x1), (2, .int x2), (3, va_rf x3), (4, .int (x4 + 1))] [1, 2, 3, 4, 0] rfl ?_
        exact ih x0 x1 x2 x3 (x4 + 1) S10 h
      · replace h := ite_f c h
        refine v_aload_nq (pc := 29) (show decode (tC tTa_best) 29 = .ok (.aload_n 3, 1) by decide +kernel) 3 rfl rfl ?_
        refine v_ifnull (pc := 30) 48 (show decode (tC tTa_best) 30 = .ok (.ifnull 18, 3) by decide +kernel) (by decide) (fun c => ?_) (fun a11 c => ?_)
        · subst c
          dsimp only [oM] at h
          refine v_sub [(0, .ref x0), (1, .int x1), (2, .int x2), (4, .int x4)] [0, 1, 2, 4] rfl ?_
          exact wTa_best_48 hR hl (fun y0 y1 y2 y3 y4 T h => ih y0 y1 y2 y3 y4 T h) x0 x1 x2 x4 S10 h
        · subst c
          dsimp only [oM] at h
          refine v_aload_n (pc := 33) (show decode (tC tTa_best) 33 = .ok (.aload_n 0, 1) by decide +kernel) 0 rfl rfl ?_
          refine v_aload_n (pc := 34) (show decode (tC tTa_best) 34 = .ok (.aload_n 0, 1) by decide +kernel) 0 rfl rfl ?_
          obtain ⟨v12, e13, h⟩ := ob h
          refine v_getX (pc := 35) oF_Ta_11 e13 (show decode (tC tTa_best) 35 = .ok (.getfield 11, 3) by decide +kernel) ?_
          refine v_iload (pc := 38) (show decode (tC tTa_best) 38 = .ok (.iload 4, 2) by decide +kernel) 4 rfl ?_
          obtain ⟨v14, e15, h⟩ := ob h
          refine v_aald (pc := 40) (kd := 5) rfl e15 (show decode (tC tTa_best) 40 = .ok (.aaload, 1) by decide +kernel) ?_
          refine v_aload_n (pc := 41) (show decode (tC tTa_best) 41 = .ok (.aload_n 3, 1) by decide +kernel) 3 rfl rfl ?_
          obtain ⟨_, e17, h⟩ := ob h
          obtain ⟨r18, S19, e16, h⟩ := ob2 h
          refine v_call (pc := 42) (v := (some (.int r18))) (y := yTa_isBetter) (θ' := tTa_isBetter) (rm := rTa_isBetter) (av := [.ref x0, .ref v14, .ref a11]) (st := []) (cTa_isBetter (l := gl Γ) hl e16) kTa_isBetter iTa_isBetter (iv_virt (y := yTa_isBetter) (θ' := tTa_isBetter) (kd := 4) (As := [.ref v14, .ref a11]) rfl (ckd_of e17) kTa_isBetter (gT_in 1124 (by decide +kernel) rfl) nTa_isBetter lTa_isBetter mTa_isBetter rfl (show decode (tC tTa_best) 42 = .ok (.invokevirtual 78, 3) by decide +kernel)) ⟨by rw [hR]; decide, by rw [hR]; decide, by rw [hR]; decide, by rw [hR]; decide⟩ (Nat.le_of_ble_eq_true rfl) ?_
          refine v_if_eq (pc := 45) 56 (show decode (tC tTa_best) 45 = .ok (.ifCond .eq 11, 3) by decide +kernel) (by decide) (fun c => ?_) (fun c => ?_)
          · replace h := ite_t c h
            refine v_iinc (pc := 56) (j := 4) [(4, .int (x4 + 1)), (0, .ref x0), (1, .int x1), (2, .int x2), (3, .ref a11)] (show decode (tC tTa_best) 56 = .ok (.iinc 4 1, 3) by decide +kernel) rfl rfl (by decide) rfl ?_
            refine v_goto (pc := 59) 5 (show decode (tC tTa_best) 59 = .ok (.goto (-54), 3) by decide +kernel) (by decide) ?_
            refine v_sub [(0, .ref x0), (1, .int x1), (2, .int x2), (3, va_rf (some a11)), (4, .int (x4 + 1))] [1, 2, 3, 4, 0] rfl ?_
            exact ih x0 x1 x2 (some a11) (x4 + 1) S19 h
          · replace h := ite_f c h
            refine v_sub [(0, .ref x0), (1, .int x1), (2, .int x2), (4, .int x4)] [0, 1, 2, 4] rfl ?_
            exact wTa_best_48 hR hl (fun y0 y1 y2 y3 y4 T h => ih y0 y1 y2 y3 y4 T h) x0 x1 x2 x4 S19 h
def fTa_best (x0 : Nat) (x1 : Int32) (x2 : Int32) (S : Sx) : Option (Option Nat × Sx) :=
    fTa_best_5  fuel x0 x1 x2 none 0 S
set_option maxRecDepth 100000 in
set_option maxHeartbeats 4000000 in
theorem wTa_best {Γ : vG} (hR : gR Γ = rTa_best) (hl : (gl Γ).flags = pinnedFlags ++ [noTraceFlag]) (x0 : Nat) (x1 : Int32) (x2 : Int32) (S : Sx) {X : Option Nat × Sx} (h : fTa_best x0 x1 x2 S = some X) : vV Γ tTa_best (mQ Γ 0 0 0 (some (va_rf X.1)) X.2) S 0 0 0 [(0, .ref x0), (1, .int x1), (2, .int x2)] [] := by
  unfold fTa_best at h
  refine v_null (pc := 0) (show decode (tC tTa_best) 0 = .ok (.aconst_null, 1) by decide +kernel) ?_
  refine v_astore_nq (pc := 1) (x := none) [(3, va_rf none), (0, .ref x0), (1, .int x1), (2, .int x2)] (show decode (tC tTa_best) 1 = .ok (.astore_n 3, 1) by decide +kernel) rfl (by decide) rfl ?_
  refine v_iconst (pc := 2) (v := 0) (show decode (tC tTa_best) 2 = .ok (.iconst 0, 1) by decide +kernel) (by decide) ?_
  refine v_istore (pc := 3) [(4, .int 0), (3, va_rf none), (0, .ref x0), (1, .int x1), (2, .int x2)] (show decode (tC tTa_best) 3 = .ok (.istore 4, 2) by decide +kernel) (by decide) rfl ?_
  refine v_sub [(0, .ref x0), (1, .int x1), (2, .int x2), (3, va_rf none), (4, .int 0)] [2, 3, 4, 1, 0] rfl ?_
  exact wTa_best_5 hR hl  fuel x0 x1 x2 none 0 S h
theorem cTa_best {l : Launch} (hl : l.flags = pinnedFlags ++ [noTraceFlag]) {D : va_G} {dA : Nat → ClassId} {B : Nat} {x0 : Nat} {x1 : Int32} {x2 : Int32} {S : Sx} {X : Option Nat × Sx} (h : fTa_best x0 x1 x2 S = some X) : Mx l yTa_best tTa_best rTa_best 0 0 D dA B S [.ref x0, .int x1, .int x2] 0 (some (va_rf X.1)) X.2 :=
  mx_of hl (by decide) rfl rfl (Nat.le_of_ble_eq_true rfl) (fun Γ e1 e2 e3 e4 e5 => by subst e1; subst e3; subst e4; subst e5; exact wTa_best e2 hl x0 x1 x2 S h)
