theorem oF_Pr_9 : okF "MatchPipe$Program" 9 1 0 1 := ⟨_, rfl, by decide, gT_in 281 (by decide +kernel) rfl, rfl⟩
theorem oF_Pr_23 : okF "MatchPipe$Program" 23 1 2 1 := ⟨_, rfl, by decide, gT_in 288 (by decide +kernel) rfl, rfl⟩
theorem oF_Pr_29 : okF "MatchPipe$Program" 29 1 3 1 := ⟨_, rfl, by decide, gT_in 291 (by decide +kernel) rfl, rfl⟩
theorem oF_Pr_43 : okF "MatchPipe$Program" 43 1 5 0 := ⟨_, rfl, by decide, gT_in 298 (by decide +kernel) rfl, rfl⟩
theorem oF_Pr_47 : okF "MatchPipe$Program" 47 1 6 0 := ⟨_, rfl, by decide, gT_in 300 (by decide +kernel) rfl, rfl⟩
theorem oF_Pr_50 : okF "MatchPipe$Program" 50 1 7 0 := ⟨_, rfl, by decide, gT_in 304 (by decide +kernel) rfl, rfl⟩
theorem oF_Pr_53 : okF "MatchPipe$Program" 53 1 8 0 := ⟨_, rfl, by decide, gT_in 306 (by decide +kernel) rfl, rfl⟩
theorem oF_Pr_56 : okF "MatchPipe$Program" 56 1 9 0 := ⟨_, rfl, by decide, gT_in 308 (by decide +kernel) rfl, rfl⟩
theorem oF_Pr_73 : okF "MatchPipe$Program" 73 6 1 0 := ⟨_, rfl, by decide, gT_in 263 (by decide +kernel) rfl, rfl⟩
theorem oF_Pr_76 : okF "MatchPipe$Program" 76 6 0 0 := ⟨_, rfl, by decide, gT_in 259 (by decide +kernel) rfl, rfl⟩
theorem oF_Pr_79 : okF "MatchPipe$Program" 79 4 2 0 := ⟨_, rfl, by decide, gT_in 219 (by decide +kernel) rfl, rfl⟩
theorem oF_Pr_82 : okF "MatchPipe$Program" 82 4 5 0 := ⟨_, rfl, by decide, gT_in 224 (by decide +kernel) rfl, rfl⟩
theorem oF_Pr_85 : okF "MatchPipe$Program" 85 4 8 0 := ⟨_, rfl, by decide, gT_in 229 (by decide +kernel) rfl, rfl⟩
/-! MatchPipe$Program.forget()V -/
def yPr_forget : MethodName := ⟨"MatchPipe$Program", "forget", "()V"⟩
def tPr_forget : tM := (prog_9_method_2_code, "MatchPipe$Program", 1, "forget", none, [])
def rPr_forget : Room := { frames := 0, cells := 0, slots := 0, locals := 0 }
theorem kPr_forget : cOf yPr_forget tPr_forget ∈ gT := gT_in 534 (by decide +kernel) rfl
theorem iPr_forget : Cond.initialized yPr_forget.cls ∈ gT := gT_in 57 (by decide +kernel) rfl
theorem mPr_forget : okM yPr_forget 0 := ⟨by decide, by decide, by unfold nPar; decide +kernel⟩
theorem nPr_forget : Cond.instanceMethod yPr_forget ∈ gT := gT_in 532 (by decide +kernel) rfl
theorem lPr_forget : Cond.selects "MatchPipe$Program" yPr_forget yPr_forget ∈ gT := gT_in 533 (by decide +kernel) rfl
def fPr_forget (x0 : Nat) (S : Sx) : Option (Sx) :=
    (pI S 1 5 x0 0).bind fun S1 =>
    (pI S1 1 6 x0 0).bind fun S3 =>
    (pI S3 1 7 x0 0).bind fun S5 =>
    (pI S5 1 8 x0 0).bind fun S7 =>
    (pI S7 1 9 x0 0).bind fun S9 =>
    some S9
set_option maxRecDepth 100000 in
set_option maxHeartbeats 4000000 in
theorem wPr_forget {Γ : vG} (hR : gR Γ = rPr_forget) (hl : (gl Γ).flags = pinnedFlags ++ [noTraceFlag]) (x0 : Nat) (S : Sx) {X : Sx} (h : fPr_forget x0 S = some X) : vV Γ tPr_forget (mQ Γ 0 0 0 none X) S 0 0 0 [(0, .ref x0)] [] := by
  unfold fPr_forget at h
  refine v_aload_n (pc := 0) (show decode (tC tPr_forget) 0 = .ok (.aload_n 0, 1) by decide +kernel) 0 rfl rfl ?_
  refine v_iconst (pc := 1) (v := 0) (show decode (tC tPr_forget) 1 = .ok (.iconst 0, 1) by decide +kernel) (by decide) ?_
  obtain ⟨S1, e2, h⟩ := ob h
  refine v_putI (pc := 2) oF_Pr_43 (fin_ok (kd := 1) (k := 5) (by decide +kernel)) e2 (show decode (tC tPr_forget) 2 = .ok (.putfield 43, 3) by decide +kernel) ?_
  refine v_aload_n (pc := 5) (show decode (tC tPr_forget) 5 = .ok (.aload_n 0, 1) by decide +kernel) 0 rfl rfl ?_
  refine v_iconst (pc := 6) (v := 0) (show decode (tC tPr_forget) 6 = .ok (.iconst 0, 1) by decide +kernel) (by decide) ?_
  obtain ⟨S3, e4, h⟩ := ob h
  refine v_putI (pc := 7) oF_Pr_47 (fin_ok (kd := 1) (k := 6) (by decide +kernel)) e4 (show decode (tC tPr_forget) 7 = .ok (.putfield 47, 3) by decide +kernel) ?_
  refine v_aload_n (pc := 10) (show decode (tC tPr_forget) 10 = .ok (.aload_n 0, 1) by decide +kernel) 0 rfl rfl ?_
  refine v_iconst (pc := 11) (v := 0) (show decode (tC tPr_forget) 11 = .ok (.iconst 0, 1) by decide +kernel) (by decide) ?_
  obtain ⟨S5, e6, h⟩ := ob h
  refine v_putI (pc := 12) oF_Pr_50 (fin_ok (kd := 1) (k := 7) (by decide +kernel)) e6 (show decode (tC tPr_forget) 12 = .ok (.putfield 50, 3) by decide +kernel) ?_
  refine v_aload_n (pc := 15) (show decode (tC tPr_forget) 15 = .ok (.aload_n 0, 1) by decide +kernel) 0 rfl rfl ?_
  refine v_iconst (pc := 16) (v := 0) (show decode (tC tPr_forget) 16 = .ok (.iconst 0, 1) by decide +kernel) (by decide) ?_
  obtain ⟨S7, e8, h⟩ := ob h
  refine v_putI (pc := 17) oF_Pr_53 (fin_ok (kd := 1) (k := 8) (by decide +kernel)) e8 (show decode (tC tPr_forget) 17 = .ok (.putfield 53, 3) by decide +kernel) ?_
  refine v_aload_n (pc := 20) (show decode (tC tPr_forget) 20 = .ok (.aload_n 0, 1) by decide +kernel) 0 rfl rfl ?_
  refine v_iconst (pc := 21) (v := 0) (show decode (tC tPr_forget) 21 = .ok (.iconst 0, 1) by decide +kernel) (by decide) ?_
  obtain ⟨S9, e10, h⟩ := ob h
  refine v_putI (pc := 22) oF_Pr_56 (fin_ok (kd := 1) (k := 9) (by decide +kernel)) e10 (show decode (tC tPr_forget) 22 = .ok (.putfield 56, 3) by decide +kernel) ?_
  obtain rfl := Option.some.inj h
  refine v_wide (ce2 := 0) (sl2 := 0) (by decide) (by decide) ?_
  exact v_vret (pc := 25) rfl (show decode (tC tPr_forget) 25 = .ok (.return_, 1) by decide +kernel)
theorem cPr_forget {l : Launch} (hl : l.flags = pinnedFlags ++ [noTraceFlag]) {D : va_G} {dA : Nat → ClassId} {B : Nat} {x0 : Nat} {S : Sx} {X : Sx} (h : fPr_forget x0 S = some X) : Mx l yPr_forget tPr_forget rPr_forget 0 0 D dA B S [.ref x0] 0 none X :=
  mx_of hl (by decide) rfl rfl (Nat.le_of_ble_eq_true rfl) (fun Γ e1 e2 e3 e4 e5 => by subst e1; subst e3; subst e4; subst e5; exact wPr_forget e2 hl x0 S h)
/-! MatchPipe$Program.hasField(I)Z -/
def yPr_hasField : MethodName := ⟨"MatchPipe$Program", "hasField", "(I)Z"⟩
def tPr_hasField : tM := (prog_9_method_3_code, "MatchPipe$Program", 2, "hasField", some .boolean, [])
def rPr_hasField : Room := { frames := 0, cells := 0, slots := 0, locals := 0 }
theorem kPr_hasField : cOf yPr_hasField tPr_hasField ∈ gT := gT_in 742 (by decide +kernel) rfl
theorem iPr_hasField : Cond.initialized yPr_hasField.cls ∈ gT := gT_in 57 (by decide +kernel) rfl
theorem mPr_hasField : okM yPr_hasField 1 := ⟨by decide, by decide, by unfold nPar; decide +kernel⟩
theorem nPr_hasField : Cond.instanceMethod yPr_hasField ∈ gT := gT_in 740 (by decide +kernel) rfl
theorem lPr_hasField : Cond.selects "MatchPipe$Program" yPr_hasField yPr_hasField ∈ gT := gT_in 741 (by decide +kernel) rfl
def fPr_hasField (x0 : Nat) (x1 : Int32) (S : Sx) : Option (Int32 × Sx) :=
    if x1 < 0 then
    (some (0, S))
    else
    ((gI S 1 5 x0).bind fun v1 =>
    if v1 ≤ x1 then
    (some (0, S))
    else
    (some (1, S)))
set_option maxRecDepth 100000 in
set_option maxHeartbeats 4000000 in
theorem wPr_hasField {Γ : vG} (hR : gR Γ = rPr_hasField) (hl : (gl Γ).flags = pinnedFlags ++ [noTraceFlag]) (x0 : Nat) (x1 : Int32) (S : Sx) {X : Int32 × Sx} (h : fPr_hasField x0 x1 S = some X) : vV Γ tPr_hasField (mQ Γ 0 0 0 (some (.int X.1)) X.2) S 0 0 0 [(0, .ref x0), (1, .int x1)] [] := by
  unfold fPr_hasField at h
  refine v_iload_n (pc := 0) (show decode (tC tPr_hasField) 0 = .ok (.iload_n 1, 1) by decide +kernel) 1 rfl rfl ?_
  refine v_if_lt (pc := 1) 16 (show decode (tC tPr_hasField) 1 = .ok (.ifCond .lt 15, 3) by decide +kernel) (by decide) (fun c => ?_) (fun c => ?_)
  · replace h := ite_t c h
    refine v_iconst (pc := 16) (v := 0) (show decode (tC tPr_hasField) 16 = .ok (.iconst 0, 1) by decide +kernel) (by decide) ?_
    obtain rfl := Option.some.inj h
    refine v_wide (ce2 := 0) (sl2 := 0) (by decide) (by decide) ?_
    exact v_zret (pc := 17) rfl (Or.inl rfl) (show decode (tC tPr_hasField) 17 = .ok (.ireturn, 1) by decide +kernel)
  · replace h := ite_f c h
    refine v_iload_n (pc := 4) (show decode (tC tPr_hasField) 4 = .ok (.iload_n 1, 1) by decide +kernel) 1 rfl rfl ?_
    refine v_aload_n (pc := 5) (show decode (tC tPr_hasField) 5 = .ok (.aload_n 0, 1) by decide +kernel) 0 rfl rfl ?_
    obtain ⟨v1, e2, h⟩ := ob h
    refine v_getI (pc := 6) oF_Pr_43 (by decide) e2 (show decode (tC tPr_hasField) 6 = .ok (.getfield 43, 3) by decide +kernel) ?_
    refine v_icmp_ge (pc := 9) 16 (show decode (tC tPr_hasField) 9 = .ok (.if_icmp .ge 7, 3) by decide +kernel) (by decide) (fun c => ?_) (fun c => ?_)
    · replace h := ite_t c h
      refine v_iconst (pc := 16) (v := 0) (show decode (tC tPr_hasField) 16 = .ok (.iconst 0, 1) by decide +kernel) (by decide) ?_
      obtain rfl := Option.some.inj h
      refine v_wide (ce2 := 0) (sl2 := 0) (by decide) (by decide) ?_
      exact v_zret (pc := 17) rfl (Or.inl rfl) (show decode (tC tPr_hasField) 17 = .ok (.ireturn, 1) by decide +kernel)
    · replace h := ite_f c h
      refine v_iconst (pc := 12) (v := 1) (show decode (tC tPr_hasField) 12 = .ok (.iconst 1, 1) by decide +kernel) (by decide) ?_
      refine v_goto (pc := 13) 17 (show decode (tC tPr_hasField) 13 = .ok (.goto 4, 3) by decide +kernel) (by decide) ?_
      obtain rfl := Option.some.inj h
      refine v_wide (ce2 := 0) (sl2 := 0) (by decide) (by decide) ?_
      exact v_zret (pc := 17) rfl (Or.inr rfl) (show decode (tC tPr_hasField) 17 = .ok (.ireturn, 1) by decide +kernel)
theorem cPr_hasField {l : Launch} (hl : l.flags = pinnedFlags ++ [noTraceFlag]) {D : va_G} {dA : Nat → ClassId} {B : Nat} {x0 : Nat} {x1 : Int32} {S : Sx} {X : Int32 × Sx} (h : fPr_hasField x0 x1 S = some X) : Mx l yPr_hasField tPr_hasField rPr_hasField 0 0 D dA B S [.ref x0, .int x1] 0 (some (.int X.1)) X.2 :=
  mx_of hl (by decide) rfl rfl (Nat.le_of_ble_eq_true rfl) (fun Γ e1 e2 e3 e4 e5 => by subst e1; subst e3; subst e4; subst e5; exact wPr_hasField e2 hl x0 x1 S h)
/-! MatchPipe$Program.isArray(I)Z -/
def yPr_isArray : MethodName := ⟨"MatchPipe$Program", "isArray", "(I)Z"⟩
def tPr_isArray : tM := (prog_9_method_12_code, "MatchPipe$Program", 1, "isArray", some .boolean, [])
def rPr_isArray : Room := { frames := 0, cells := 0, slots := 0, locals := 0 }
theorem kPr_isArray : cOf yPr_isArray tPr_isArray ∈ gT := gT_in 813 (by decide +kernel) rfl
theorem iPr_isArray : Cond.initialized yPr_isArray.cls ∈ gT := gT_in 57 (by decide +kernel) rfl
theorem mPr_isArray : okM yPr_isArray 1 := ⟨by decide, by decide, by unfold nPar; decide +kernel⟩
theorem sPr_isArray : Cond.static yPr_isArray ∈ gT := gT_in 812 (by decide +kernel) rfl
def fPr_isArray (x0 : Int32) (S : Sx) : Option (Int32 × Sx) :=
    if x0 < 0 then
    (some (0, S))
    else
    (if (4 : Int32) ≤ x0 then
    (some (0, S))
    else
    (some (1, S)))
set_option maxRecDepth 100000 in
set_option maxHeartbeats 4000000 in
theorem wPr_isArray {Γ : vG} (hR : gR Γ = rPr_isArray) (hl : (gl Γ).flags = pinnedFlags ++ [noTraceFlag]) (x0 : Int32) (S : Sx) {X : Int32 × Sx} (h : fPr_isArray x0 S = some X) : vV Γ tPr_isArray (mQ Γ 0 0 0 (some (.int X.1)) X.2) S 0 0 0 [(0, .int x0)] [] := by
  unfold fPr_isArray at h
  refine v_iload_n (pc := 0) (show decode (tC tPr_isArray) 0 = .ok (.iload_n 0, 1) by decide +kernel) 0 rfl rfl ?_
  refine v_if_lt (pc := 1) 13 (show decode (tC tPr_isArray) 1 = .ok (.ifCond .lt 12, 3) by decide +kernel) (by decide) (fun c => ?_) (fun c => ?_)
  · replace h := ite_t c h
    refine v_iconst (pc := 13) (v := 0) (show decode (tC tPr_isArray) 13 = .ok (.iconst 0, 1) by decide +kernel) (by decide) ?_
    obtain rfl := Option.some.inj h
    refine v_wide (ce2 := 0) (sl2 := 0) (by decide) (by decide) ?_
    exact v_zret (pc := 14) rfl (Or.inl rfl) (show decode (tC tPr_isArray) 14 = .ok (.ireturn, 1) by decide +kernel)
  · replace h := ite_f c h
    refine v_iload_n (pc := 4) (show decode (tC tPr_isArray) 4 = .ok (.iload_n 0, 1) by decide +kernel) 0 rfl rfl ?_
    refine v_iconst (pc := 5) (v := 4) (show decode (tC tPr_isArray) 5 = .ok (.iconst 4, 1) by decide +kernel) (by decide) ?_
    refine v_icmp_ge (pc := 6) 13 (show decode (tC tPr_isArray) 6 = .ok (.if_icmp .ge 7, 3) by decide +kernel) (by decide) (fun c => ?_) (fun c => ?_)
    · replace h := ite_t c h
      refine v_iconst (pc := 13) (v := 0) (show decode (tC tPr_isArray) 13 = .ok (.iconst 0, 1) by decide +kernel) (by decide) ?_
      obtain rfl := Option.some.inj h
      refine v_wide (ce2 := 0) (sl2 := 0) (by decide) (by decide) ?_
      exact v_zret (pc := 14) rfl (Or.inl rfl) (show decode (tC tPr_isArray) 14 = .ok (.ireturn, 1) by decide +kernel)
    · replace h := ite_f c h
      refine v_iconst (pc := 9) (v := 1) (show decode (tC tPr_isArray) 9 = .ok (.iconst 1, 1) by decide +kernel) (by decide) ?_
      refine v_goto (pc := 10) 14 (show decode (tC tPr_isArray) 10 = .ok (.goto 4, 3) by decide +kernel) (by decide) ?_
      obtain rfl := Option.some.inj h
      refine v_wide (ce2 := 0) (sl2 := 0) (by decide) (by decide) ?_
      exact v_zret (pc := 14) rfl (Or.inr rfl) (show decode (tC tPr_isArray) 14 = .ok (.ireturn, 1) by decide +kernel)
theorem cPr_isArray {l : Launch} (hl : l.flags = pinnedFlags ++ [noTraceFlag]) {D : va_G} {dA : Nat → ClassId} {B : Nat} {x0 : Int32} {S : Sx} {X : Int32 × Sx} (h : fPr_isArray x0 S = some X) : Mx l yPr_isArray tPr_isArray rPr_isArray 0 0 D dA B S [.int x0] 0 (some (.int X.1)) X.2 :=
  mx_of hl (by decide) rfl rfl (Nat.le_of_ble_eq_true rfl) (fun Γ e1 e2 e3 e4 e5 => by subst e1; subst e3; subst e4; subst e5; exact wPr_isArray e2 hl x0 S h)
/-! MatchPipe$Program.isDatum(I)Z -/
def yPr_isDatum : MethodName := ⟨"MatchPipe$Program", "isDatum", "(I)Z"⟩
def tPr_isDatum : tM := (prog_9_method_11_code, "MatchPipe$Program", 1, "isDatum", some .boolean, [])
def rPr_isDatum : Room := { frames := 0, cells := 0, slots := 0, locals := 0 }
theorem kPr_isDatum : cOf yPr_isDatum tPr_isDatum ∈ gT := gT_in 810 (by decide +kernel) rfl
theorem iPr_isDatum : Cond.initialized yPr_isDatum.cls ∈ gT := gT_in 57 (by decide +kernel) rfl
theorem mPr_isDatum : okM yPr_isDatum 1 := ⟨by decide, by decide, by unfold nPar; decide +kernel⟩
theorem sPr_isDatum : Cond.static yPr_isDatum ∈ gT := gT_in 809 (by decide +kernel) rfl
def fPr_isDatum (x0 : Int32) (S : Sx) : Option (Int32 × Sx) :=
    if x0 < 0 then
    (some (0, S))
    else
    (if (2 : Int32) ≤ x0 then
    (some (0, S))
    else
    (some (1, S)))
set_option maxRecDepth 100000 in
set_option maxHeartbeats 4000000 in
theorem wPr_isDatum {Γ : vG} (hR : gR Γ = rPr_isDatum) (hl : (gl Γ).flags = pinnedFlags ++ [noTraceFlag]) (x0 : Int32) (S : Sx) {X : Int32 × Sx} (h : fPr_isDatum x0 S = some X) : vV Γ tPr_isDatum (mQ Γ 0 0 0 (some (.int X.1)) X.2) S 0 0 0 [(0, .int x0)] [] := by
  unfold fPr_isDatum at h
  refine v_iload_n (pc := 0) (show decode (tC tPr_isDatum) 0 = .ok (.iload_n 0, 1) by decide +kernel) 0 rfl rfl ?_
  refine v_if_lt (pc := 1) 13 (show decode (tC tPr_isDatum) 1 = .ok (.ifCond .lt 12, 3) by decide +kernel) (by decide) (fun c => ?_) (fun c => ?_)
  · replace h := ite_t c h
    refine v_iconst (pc := 13) (v := 0) (show decode (tC tPr_isDatum) 13 = .ok (.iconst 0, 1) by decide +kernel) (by decide) ?_
    obtain rfl := Option.some.inj h
    refine v_wide (ce2 := 0) (sl2 := 0) (by decide) (by decide) ?_
    exact v_zret (pc := 14) rfl (Or.inl rfl) (show decode (tC tPr_isDatum) 14 = .ok (.ireturn, 1) by decide +kernel)
  · replace h := ite_f c h
    refine v_iload_n (pc := 4) (show decode (tC tPr_isDatum) 4 = .ok (.iload_n 0, 1) by decide +kernel) 0 rfl rfl ?_
    refine v_iconst (pc := 5) (v := 2) (show decode (tC tPr_isDatum) 5 = .ok (.iconst 2, 1) by decide +kernel) (by decide) ?_
    refine v_icmp_ge (pc := 6) 13 (show decode (tC tPr_isDatum) 6 = .ok (.if_icmp .ge 7, 3) by decide +kernel) (by decide) (fun c => ?_) (fun c => ?_)
    · replace h := ite_t c h
      refine v_iconst (pc := 13) (v := 0) (show decode (tC tPr_isDatum) 13 = .ok (.iconst 0, 1) by decide +kernel) (by decide) ?_
      obtain rfl := Option.some.inj h
      refine v_wide (ce2 := 0) (sl2 := 0) (by decide) (by decide) ?_
      exact v_zret (pc := 14) rfl (Or.inl rfl) (show decode (tC tPr_isDatum) 14 = .ok (.ireturn, 1) by decide +kernel)
    · replace h := ite_f c h
      refine v_iconst (pc := 9) (v := 1) (show decode (tC tPr_isDatum) 9 = .ok (.iconst 1, 1) by decide +kernel) (by decide) ?_
      refine v_goto (pc := 10) 14 (show decode (tC tPr_isDatum) 10 = .ok (.goto 4, 3) by decide +kernel) (by decide) ?_
      obtain rfl := Option.some.inj h
      refine v_wide (ce2 := 0) (sl2 := 0) (by decide) (by decide) ?_
      exact v_zret (pc := 14) rfl (Or.inr rfl) (show decode (tC tPr_isDatum) 14 = .ok (.ireturn, 1) by decide +kernel)
theorem cPr_isDatum {l : Launch} (hl : l.flags = pinnedFlags ++ [noTraceFlag]) {D : va_G} {dA : Nat → ClassId} {B : Nat} {x0 : Int32} {S : Sx} {X : Int32 × Sx} (h : fPr_isDatum x0 S = some X) : Mx l yPr_isDatum tPr_isDatum rPr_isDatum 0 0 D dA B S [.int x0] 0 (some (.int X.1)) X.2 :=
  mx_of hl (by decide) rfl rfl (Nat.le_of_ble_eq_true rfl) (fun Γ e1 e2 e3 e4 e5 => by subst e1; subst e3; subst e4; subst e5; exact wPr_isDatum e2 hl x0 S h)
/-! MatchPipe$Program.canDo(IIII)Z -/
def yPr_canDo : MethodName := ⟨"MatchPipe$Program", "canDo", "(IIII)Z"⟩
def tPr_canDo : tM := (prog_9_method_7_code, "MatchPipe$Program", 5, "canDo", some .boolean, [])
def rPr_canDo : Room := { frames := 1, cells := 0, slots := 0, locals := 21 }
theorem kPr_canDo : cOf yPr_canDo tPr_canDo ∈ gT := gT_in 806 (by decide +kernel) rfl
theorem iPr_canDo : Cond.initialized yPr_canDo.cls ∈ gT := gT_in 57 (by decide +kernel) rfl
theorem mPr_canDo : okM yPr_canDo 4 := ⟨by decide, by decide, by unfold nPar; decide +kernel⟩
theorem nPr_canDo : Cond.instanceMethod yPr_canDo ∈ gT := gT_in 804 (by decide +kernel) rfl
theorem lPr_canDo : Cond.selects "MatchPipe$Program" yPr_canDo yPr_canDo ∈ gT := gT_in 805 (by decide +kernel) rfl
def fPr_canDo (x0 : Nat) (x1 : Int32) (x2 : Int32) (x3 : Int32) (x4 : Int32) (S : Sx) : Option (Int32 × Sx) :=
    if x1 = 0 then
    ((ckd S x0 1).bind fun _ =>
    bd2 (fPr_hasField x0 x2 S) fun r3 S4 =>
    zb r3 (some (r3, S4)))
    else if x1 = 1 then
    ((ckd S x0 1).bind fun _ =>
    bd2 (fPr_hasField x0 x2 S) fun r8 S9 =>
    if r8 = 0 then
    (some (0, S9))
    else
    ((ckd S9 x0 1).bind fun _ =>
    bd2 (fPr_hasField x0 x3 S9) fun r12 S13 =>
    if r12 = 0 then
    (some (0, S13))
    else
    (some (1, S13))))
    else if x1 = 2 then
    ((ckd S x0 1).bind fun _ =>
    bd2 (fPr_hasField x0 x2 S) fun r16 S17 =>
    if r16 = 0 then
    (some (0, S17))
    else
    ((ckd S17 x0 1).bind fun _ =>
    bd2 (fPr_hasField x0 x3 S17) fun r20 S21 =>
    if r20 = 0 then
    (some (0, S21))
    else
    (some (1, S21))))
    else if x1 = 3 then
    ((ckd S x0 1).bind fun _ =>
    bd2 (fPr_hasField x0 x2 S) fun r24 S25 =>
    if r24 = 0 then
    (some (0, S25))
    else
    (bd2 (fPr_isDatum x3 S25) fun r27 S28 =>
    if r27 = 0 then
    (some (0, S28))
    else
    (some (1, S28))))
    else if x1 = 4 then
    (some (1, S))
    else if x1 = 5 then
    (bd2 (fPr_isDatum x3 S) fun r30 S31 =>
    zb r30 (some (r30, S31)))
    else if x1 = 6 then
    (some (1, S))
    else if x1 = 7 then
    (bd2 (fPr_isArray x2 S) fun r34 S35 =>
    if r34 = 0 then
    (some (0, S35))
    else
    ((ckd S35 x0 1).bind fun _ =>
    bd2 (fPr_hasField x0 x3 S35) fun r38 S39 =>
    if r38 = 0 then
    (some (0, S39))
    else
    (some (1, S39))))
    else if x1 = 8 then
    ((ckd S x0 1).bind fun _ =>
    bd2 (fPr_hasField x0 x2 S) fun r42 S43 =>
    if r42 = 0 then
    (some (0, S43))
    else
    ((ckd S43 x0 1).bind fun _ =>
    bd2 (fPr_hasField x0 x3 S43) fun r46 S47 =>
    if r46 = 0 then
    (some (0, S47))
    else
    (bd2 (fPr_isArray x4 S47) fun r49 S50 =>
    if r49 = 0 then
    (some (0, S50))
    else
    (some (1, S50)))))
    else 
    (some (1, S))
set_option maxRecDepth 100000 in
set_option maxHeartbeats 4000000 in
theorem wPr_canDo {Γ : vG} (hR : gR Γ = rPr_canDo) (hl : (gl Γ).flags = pinnedFlags ++ [noTraceFlag]) (x0 : Nat) (x1 : Int32) (x2 : Int32) (x3 : Int32) (x4 : Int32) (S : Sx) {X : Int32 × Sx} (h : fPr_canDo x0 x1 x2 x3 x4 S = some X) : vV Γ tPr_canDo (mQ Γ 0 0 0 (some (.int X.1)) X.2) S 0 0 0 [(0, .ref x0), (1, .int x1), (2, .int x2), (3, .int x3), (4, .int x4)] [] := by
  unfold fPr_canDo at h
  refine v_iload_n (pc := 0) (show decode (tC tPr_canDo) 0 = .ok (.iload_n 1, 1) by decide +kernel) 1 rfl rfl ?_
  by_cases c0 : x1 = 0
  · replace h := ite_t c0 h
    refine v_tblIn (pc := 1) (off := 51) 52 (show decode (tC tPr_canDo) 1 = .ok (.tableswitch 156 0 8 #[51, 57, 57, 79, 156, 100, 156, 105, 126], 51) by decide +kernel) (by rw [c0]; decide) (by rw [c0]; decide) (by rw [c0]; decide) (by decide) ?_
    refine v_aload_n (pc := 52) (show decode (tC tPr_canDo) 52 = .ok (.aload_n 0, 1) by decide +kernel) 0 rfl rfl ?_
    refine v_iload_n (pc := 53) (show decode (tC tPr_canDo) 53 = .ok (.iload_n 2, 1) by decide +kernel) 2 rfl rfl ?_
    obtain ⟨_, e2, h⟩ := ob h
    obtain ⟨r3, S4, e1, h⟩ := ob2 h
    refine v_call (pc := 54) (v := (some (.int r3))) (y := yPr_hasField) (θ' := tPr_hasField) (rm := rPr_hasField) (av := [.ref x0, .int x2]) (st := []) (cPr_hasField (l := gl Γ) hl e1) kPr_hasField iPr_hasField (iv_virt (y := yPr_hasField) (θ' := tPr_hasField) (kd := 1) (As := [.int x2]) rfl (ckd_of e2) kPr_hasField (gT_in 807 (by decide +kernel) rfl) nPr_hasField lPr_hasField mPr_hasField rfl (show decode (tC tPr_canDo) 54 = .ok (.invokevirtual 59, 3) by decide +kernel)) ⟨by rw [hR]; decide, by rw [hR]; decide, by rw [hR]; decide, by rw [hR]; decide⟩ (Nat.le_of_ble_eq_true rfl) ?_
    obtain ⟨e5, h⟩ := zb_of h
    obtain rfl := Option.some.inj h
    refine v_wide (ce2 := 0) (sl2 := 0) (by decide) (by decide) ?_
    exact v_zret (pc := 57) rfl e5 (show decode (tC tPr_canDo) 57 = .ok (.ireturn, 1) by decide +kernel)
  · replace h := ite_f c0 h
    by_cases c1 : x1 = 1
    · replace h := ite_t c1 h
      refine v_tblIn (pc := 1) (off := 57) 58 (show decode (tC tPr_canDo) 1 = .ok (.tableswitch 156 0 8 #[51, 57, 57, 79, 156, 100, 156, 105, 126], 51) by decide +kernel) (by rw [c1]; decide) (by rw [c1]; decide) (by rw [c1]; decide) (by decide) ?_
      refine v_aload_n (pc := 58) (show decode (tC tPr_canDo) 58 = .ok (.aload_n 0, 1) by decide +kernel) 0 rfl rfl ?_
      refine v_iload_n (pc := 59) (show decode (tC tPr_canDo) 59 = .ok (.iload_n 2, 1) by decide +kernel) 2 rfl rfl ?_
      obtain ⟨_, e7, h⟩ := ob h
      obtain ⟨r8, S9, e6, h⟩ := ob2 h
      refine v_call (pc := 60) (v := (some (.int r8))) (y := yPr_hasField) (θ' := tPr_hasField) (rm := rPr_hasField) (av := [.ref x0, .int x2]) (st := []) (cPr_hasField (l := gl Γ) hl e6) kPr_hasField iPr_hasField (iv_virt (y := yPr_hasField) (θ' := tPr_hasField) (kd := 1) (As := [.int x2]) rfl (ckd_of e7) kPr_hasField (gT_in 807 (by decide +kernel) rfl) nPr_hasField lPr_hasField mPr_hasField rfl (show decode (tC tPr_canDo) 60 = .ok (.invokevirtual 59, 3) by decide +kernel)) ⟨by rw [hR]; decide, by rw [hR]; decide, by rw [hR]; decide, by rw [hR]; decide⟩ (Nat.le_of_ble_eq_true rfl) ?_
      refine v_if_eq (pc := 63) 78 (show decode (tC tPr_canDo) 63 = .ok (.ifCond .eq 15, 3) by decide +kernel) (by decide) (fun c => ?_) (fun c => ?_)
      · replace h := ite_t c h
        refine v_iconst (pc := 78) (v := 0) (show decode (tC tPr_canDo) 78 = .ok (.iconst 0, 1) by decide +kernel) (by decide) ?_
        obtain rfl := Option.some.inj h
        refine v_wide (ce2 := 0) (sl2 := 0) (by decide) (by decide) ?_
        exact v_zret (pc := 79) rfl (Or.inl rfl) (show decode (tC tPr_canDo) 79 = .ok (.ireturn, 1) by decide +kernel)
      · replace h := ite_f c h
        refine v_aload_n (pc := 66) (show decode (tC tPr_canDo) 66 = .ok (.aload_n 0, 1) by decide +kernel) 0 rfl rfl ?_
        refine v_iload_n (pc := 67) (show decode (tC tPr_canDo) 67 = .ok (.iload_n 3, 1) by decide +kernel) 3 rfl rfl ?_
        obtain ⟨_, e11, h⟩ := ob h
        obtain ⟨r12, S13, e10, h⟩ := ob2 h
        refine v_call (pc := 68) (v := (some (.int r12))) (y := yPr_hasField) (θ' := tPr_hasField) (rm := rPr_hasField) (av := [.ref x0, .int x3]) (st := []) (cPr_hasField (l := gl Γ) hl e10) kPr_hasField iPr_hasField (iv_virt (y := yPr_hasField) (θ' := tPr_hasField) (kd := 1) (As := [.int x3]) rfl (ckd_of e11) kPr_hasField (gT_in 807 (by decide +kernel) rfl) nPr_hasField lPr_hasField mPr_hasField rfl (show decode (tC tPr_canDo) 68 = .ok (.invokevirtual 59, 3) by decide +kernel)) ⟨by rw [hR]; decide, by rw [hR]; decide, by rw [hR]; decide, by rw [hR]; decide⟩ (Nat.le_of_ble_eq_true rfl) ?_
        refine v_if_eq (pc := 71) 78 (show decode (tC tPr_canDo) 71 = .ok (.ifCond .eq 7, 3) by decide +kernel) (by decide) (fun c => ?_) (fun c => ?_)
        · replace h := ite_t c h
          refine v_iconst (pc := 78) (v := 0) (show decode (tC tPr_canDo) 78 = .ok (.iconst 0, 1) by decide +kernel) (by decide) ?_
          obtain rfl := Option.some.inj h
          refine v_wide (ce2 := 0) (sl2 := 0) (by decide) (by decide) ?_
          exact v_zret (pc := 79) rfl (Or.inl rfl) (show decode (tC tPr_canDo) 79 = .ok (.ireturn, 1) by decide +kernel)
        · replace h := ite_f c h
          refine v_iconst (pc := 74) (v := 1) (show decode (tC tPr_canDo) 74 = .ok (.iconst 1, 1) by decide +kernel) (by decide) ?_
          refine v_goto (pc := 75) 79 (show decode (tC tPr_canDo) 75 = .ok (.goto 4, 3) by decide +kernel) (by decide) ?_
          obtain rfl := Option.some.inj h
          refine v_wide (ce2 := 0) (sl2 := 0) (by decide) (by decide) ?_
          exact v_zret (pc := 79) rfl (Or.inr rfl) (show decode (tC tPr_canDo) 79 = .ok (.ireturn, 1) by decide +kernel)
    · replace h := ite_f c1 h
      by_cases c2 : x1 = 2
      · replace h := ite_t c2 h
        refine v_tblIn (pc := 1) (off := 57) 58 (show decode (tC tPr_canDo) 1 = .ok (.tableswitch 156 0 8 #[51, 57, 57, 79, 156, 100, 156, 105, 126], 51) by decide +kernel) (by rw [c2]; decide) (by rw [c2]; decide) (by rw [c2]; decide) (by decide) ?_
        refine v_aload_n (pc := 58) (show decode (tC tPr_canDo) 58 = .ok (.aload_n 0, 1) by decide +kernel) 0 rfl rfl ?_
        refine v_iload_n (pc := 59) (show decode (tC tPr_canDo) 59 = .ok (.iload_n 2, 1) by decide +kernel) 2 rfl rfl ?_
        obtain ⟨_, e15, h⟩ := ob h
        obtain ⟨r16, S17, e14, h⟩ := ob2 h
        refine v_call (pc := 60) (v := (some (.int r16))) (y := yPr_hasField) (θ' := tPr_hasField) (rm := rPr_hasField) (av := [.ref x0, .int x2]) (st := []) (cPr_hasField (l := gl Γ) hl e14) kPr_hasField iPr_hasField (iv_virt (y := yPr_hasField) (θ' := tPr_hasField) (kd := 1) (As := [.int x2]) rfl (ckd_of e15) kPr_hasField (gT_in 807 (by decide +kernel) rfl) nPr_hasField lPr_hasField mPr_hasField rfl (show decode (tC tPr_canDo) 60 = .ok (.invokevirtual 59, 3) by decide +kernel)) ⟨by rw [hR]; decide, by rw [hR]; decide, by rw [hR]; decide, by rw [hR]; decide⟩ (Nat.le_of_ble_eq_true rfl) ?_
        refine v_if_eq (pc := 63) 78 (show decode (tC tPr_canDo) 63 = .ok (.ifCond .eq 15, 3) by decide +kernel) (by decide) (fun c => ?_) (fun c => ?_)
        · replace h := ite_t c h
          refine v_iconst (pc := 78) (v := 0) (show decode (tC tPr_canDo) 78 = .ok (.iconst 0, 1) by decide +kernel) (by decide) ?_
          obtain rfl := Option.some.inj h
          refine v_wide (ce2 := 0) (sl2 := 0) (by decide) (by decide) ?_
          exact v_zret (pc := 79) rfl (Or.inl rfl) (show decode (tC tPr_canDo) 79 = .ok (.ireturn, 1) by decide +kernel)
        · replace h := ite_f c h
          refine v_aload_n (pc := 66) (show decode (tC tPr_canDo) 66 = .ok (.aload_n 0, 1) by decide +kernel) 0 rfl rfl ?_
          refine v_iload_n (pc := 67) (show decode (tC tPr_canDo) 67 = .ok (.iload_n 3, 1) by decide +kernel) 3 rfl rfl ?_
          obtain ⟨_, e19, h⟩ := ob h
          obtain ⟨r20, S21, e18, h⟩ := ob2 h
          refine v_call (pc := 68) (v := (some (.int r20))) (y := yPr_hasField) (θ' := tPr_hasField) (rm := rPr_hasField) (av := [.ref x0, .int x3]) (st := []) (cPr_hasField (l := gl Γ) hl e18) kPr_hasField iPr_hasField (iv_virt (y := yPr_hasField) (θ' := tPr_hasField) (kd := 1) (As := [.int x3]) rfl (ckd_of e19) kPr_hasField (gT_in 807 (by decide +kernel) rfl) nPr_hasField lPr_hasField mPr_hasField rfl (show decode (tC tPr_canDo) 68 = .ok (.invokevirtual 59, 3) by decide +kernel)) ⟨by rw [hR]; decide, by rw [hR]; decide, by rw [hR]; decide, by rw [hR]; decide⟩ (Nat.le_of_ble_eq_true rfl) ?_
          refine v_if_eq (pc := 71) 78 (show decode (tC tPr_canDo) 71 = .ok (.ifCond .eq 7, 3) by decide +kernel) (by decide) (fun c => ?_) (fun c => ?_)
          · replace h := ite_t c h
            refine v_iconst (pc := 78) (v := 0) (show decode (tC tPr_canDo) 78 = .ok (.iconst 0, 1) by decide +kernel) (by decide) ?_
            obtain rfl := Option.some.inj h
            refine v_wide (ce2 := 0) (sl2 := 0) (by decide) (by decide) ?_
            exact v_zret (pc := 79) rfl (Or.inl rfl) (show decode (tC tPr_canDo) 79 = .ok (.ireturn, 1) by decide +kernel)
          · replace h := ite_f c h
            refine v_iconst (pc := 74) (v := 1) (show decode (tC tPr_canDo) 74 = .ok (.iconst 1, 1) by decide +kernel) (by decide) ?_
            refine v_goto (pc := 75) 79 (show decode (tC tPr_canDo) 75 = .ok (.goto 4, 3) by decide +kernel) (by decide) ?_
            obtain rfl := Option.some.inj h
            refine v_wide (ce2 := 0) (sl2 := 0) (by decide) (by decide) ?_
            exact v_zret (pc := 79) rfl (Or.inr rfl) (show decode (tC tPr_canDo) 79 = .ok (.ireturn, 1) by decide +kernel)
      · replace h := ite_f c2 h
        by_cases c3 : x1 = 3
        · replace h := ite_t c3 h
          refine v_tblIn (pc := 1) (off := 79) 80 (show decode (tC tPr_canDo) 1 = .ok (.tableswitch 156 0 8 #[51, 57, 57, 79, 156, 100, 156, 105, 126], 51) by decide +kernel) (by rw [c3]; decide) (by rw [c3]; decide) (by rw [c3]; decide) (by decide) ?_
          refine v_aload_n (pc := 80) (show decode (tC tPr_canDo) 80 = .ok (.aload_n 0, 1) by decide +kernel) 0 rfl rfl ?_
          refine v_iload_n (pc := 81) (show decode (tC tPr_canDo) 81 = .ok (.iload_n 2, 1) by decide +kernel) 2 rfl rfl ?_
          obtain ⟨_, e23, h⟩ := ob h
          obtain ⟨r24, S25, e22, h⟩ := ob2 h
          refine v_call (pc := 82) (v := (some (.int r24))) (y := yPr_hasField) (θ' := tPr_hasField) (rm := rPr_hasField) (av := [.ref x0, .int x2]) (st := []) (cPr_hasField (l := gl Γ) hl e22) kPr_hasField iPr_hasField (iv_virt (y := yPr_hasField) (θ' := tPr_hasField) (kd := 1) (As := [.int x2]) rfl (ckd_of e23) kPr_hasField (gT_in 807 (by decide +kernel) rfl) nPr_hasField lPr_hasField mPr_hasField rfl (show decode (tC tPr_canDo) 82 = .ok (.invokevirtual 59, 3) by decide +kernel)) ⟨by rw [hR]; decide, by rw [hR]; decide, by rw [hR]; decide, by rw [hR]; decide⟩ (Nat.le_of_ble_eq_true rfl) ?_
          refine v_if_eq (pc := 85) 99 (show decode (tC tPr_canDo) 85 = .ok (.ifCond .eq 14, 3) by decide +kernel) (by decide) (fun c => ?_) (fun c => ?_)
          · replace h := ite_t c h
            refine v_iconst (pc := 99) (v := 0) (show decode (tC tPr_canDo) 99 = .ok (.iconst 0, 1) by decide +kernel) (by decide) ?_
            obtain rfl := Option.some.inj h
            refine v_wide (ce2 := 0) (sl2 := 0) (by decide) (by decide) ?_
            exact v_zret (pc := 100) rfl (Or.inl rfl) (show decode (tC tPr_canDo) 100 = .ok (.ireturn, 1) by decide +kernel)
          · replace h := ite_f c h
            refine v_iload_n (pc := 88) (show decode (tC tPr_canDo) 88 = .ok (.iload_n 3, 1) by decide +kernel) 3 rfl rfl ?_
            obtain ⟨r27, S28, e26, h⟩ := ob2 h
            refine v_call (pc := 89) (v := (some (.int r27))) (y := yPr_isDatum) (θ' := tPr_isDatum) (rm := rPr_isDatum) (av := [.int x3]) (st := []) (cPr_isDatum (l := gl Γ) hl e26) kPr_isDatum iPr_isDatum (iv_static (y := yPr_isDatum) (θ' := tPr_isDatum) (n := 1) (As := [.int x3]) kPr_isDatum (gT_in 808 (by decide +kernel) rfl) sPr_isDatum iPr_isDatum mPr_isDatum rfl (show decode (tC tPr_canDo) 89 = .ok (.invokestatic 63, 3) by decide +kernel)) ⟨by rw [hR]; decide, by rw [hR]; decide, by rw [hR]; decide, by rw [hR]; decide⟩ (Nat.le_of_ble_eq_true rfl) ?_
            refine v_if_eq (pc := 92) 99 (show decode (tC tPr_canDo) 92 = .ok (.ifCond .eq 7, 3) by decide +kernel) (by decide) (fun c => ?_) (fun c => ?_)
            · replace h := ite_t c h
              refine v_iconst (pc := 99) (v := 0) (show decode (tC tPr_canDo) 99 = .ok (.iconst 0, 1) by decide +kernel) (by decide) ?_
              obtain rfl := Option.some.inj h
              refine v_wide (ce2 := 0) (sl2 := 0) (by decide) (by decide) ?_
              exact v_zret (pc := 100) rfl (Or.inl rfl) (show decode (tC tPr_canDo) 100 = .ok (.ireturn, 1) by decide +kernel)
            · replace h := ite_f c h
              refine v_iconst (pc := 95) (v := 1) (show decode (tC tPr_canDo) 95 = .ok (.iconst 1, 1) by decide +kernel) (by decide) ?_
              refine v_goto (pc := 96) 100 (show decode (tC tPr_canDo) 96 = .ok (.goto 4, 3) by decide +kernel) (by decide) ?_
              obtain rfl := Option.some.inj h
              refine v_wide (ce2 := 0) (sl2 := 0) (by decide) (by decide) ?_
              exact v_zret (pc := 100) rfl (Or.inr rfl) (show decode (tC tPr_canDo) 100 = .ok (.ireturn, 1) by decide +kernel)
        · replace h := ite_f c3 h
          by_cases c4 : x1 = 4
          · replace h := ite_t c4 h
            refine v_tblIn (pc := 1) (off := 156) 157 (show decode (tC tPr_canDo) 1 = .ok (.tableswitch 156 0 8 #[51, 57, 57, 79, 156, 100, 156, 105, 126], 51) by decide +kernel) (by rw [c4]; decide) (by rw [c4]; decide) (by rw [c4]; decide) (by decide) ?_
            refine v_iconst (pc := 157) (v := 1) (show decode (tC tPr_canDo) 157 = .ok (.iconst 1, 1) by decide +kernel) (by decide) ?_
            obtain rfl := Option.some.inj h
            refine v_wide (ce2 := 0) (sl2 := 0) (by decide) (by decide) ?_
            exact v_zret (pc := 158) rfl (Or.inr rfl) (show decode (tC tPr_canDo) 158 = .ok (.ireturn, 1) by decide +kernel)
          · replace h := ite_f c4 h
            by_cases c5 : x1 = 5
            · replace h := ite_t c5 h
              refine v_tblIn (pc := 1) (off := 100) 101 (show decode (tC tPr_canDo) 1 = .ok (.tableswitch 156 0 8 #[51, 57, 57, 79, 156, 100, 156, 105, 126], 51) by decide +kernel) (by rw [c5]; decide) (by rw [c5]; decide) (by rw [c5]; decide) (by decide) ?_
              refine v_iload_n (pc := 101) (show decode (tC tPr_canDo) 101 = .ok (.iload_n 3, 1) by decide +kernel) 3 rfl rfl ?_
              obtain ⟨r30, S31, e29, h⟩ := ob2 h
              refine v_call (pc := 102) (v := (some (.int r30))) (y := yPr_isDatum) (θ' := tPr_isDatum) (rm := rPr_isDatum) (av := [.int x3]) (st := []) (cPr_isDatum (l := gl Γ) hl e29) kPr_isDatum iPr_isDatum (iv_static (y := yPr_isDatum) (θ' := tPr_isDatum) (n := 1) (As := [.int x3]) kPr_isDatum (gT_in 808 (by decide +kernel) rfl) sPr_isDatum iPr_isDatum mPr_isDatum rfl (show decode (tC tPr_canDo) 102 = .ok (.invokestatic 63, 3) by decide +kernel)) ⟨by rw [hR]; decide, by rw [hR]; decide, by rw [hR]; decide, by rw [hR]; decide⟩ (Nat.le_of_ble_eq_true rfl) ?_
              obtain ⟨e32, h⟩ := zb_of h
              obtain rfl := Option.some.inj h
              refine v_wide (ce2 := 0) (sl2 := 0) (by decide) (by decide) ?_
              exact v_zret (pc := 105) rfl e32 (show decode (tC tPr_canDo) 105 = .ok (.ireturn, 1) by decide +kernel)
            · replace h := ite_f c5 h
              by_cases c6 : x1 = 6
              · replace h := ite_t c6 h
                refine v_tblIn (pc := 1) (off := 156) 157 (show decode (tC tPr_canDo) 1 = .ok (.tableswitch 156 0 8 #[51, 57, 57, 79, 156, 100, 156, 105, 126], 51) by decide +kernel) (by rw [c6]; decide) (by rw [c6]; decide) (by rw [c6]; decide) (by decide) ?_
                refine v_iconst (pc := 157) (v := 1) (show decode (tC tPr_canDo) 157 = .ok (.iconst 1, 1) by decide +kernel) (by decide) ?_
                obtain rfl := Option.some.inj h
                refine v_wide (ce2 := 0) (sl2 := 0) (by decide) (by decide) ?_
                exact v_zret (pc := 158) rfl (Or.inr rfl) (show decode (tC tPr_canDo) 158 = .ok (.ireturn, 1) by decide +kernel)
              · replace h := ite_f c6 h
                by_cases c7 : x1 = 7
                · replace h := ite_t c7 h
                  refine v_tblIn (pc := 1) (off := 105) 106 (show decode (tC tPr_canDo) 1 = .ok (.tableswitch 156 0 8 #[51, 57, 57, 79, 156, 100, 156, 105, 126], 51) by decide +kernel) (by rw [c7]; decide) (by rw [c7]; decide) (by rw [c7]; decide) (by decide) ?_
                  refine v_iload_n (pc := 106) (show decode (tC tPr_canDo) 106 = .ok (.iload_n 2, 1) by decide +kernel) 2 rfl rfl ?_
                  obtain ⟨r34, S35, e33, h⟩ := ob2 h
                  refine v_call (pc := 107) (v := (some (.int r34))) (y := yPr_isArray) (θ' := tPr_isArray) (rm := rPr_isArray) (av := [.int x2]) (st := []) (cPr_isArray (l := gl Γ) hl e33) kPr_isArray iPr_isArray (iv_static (y := yPr_isArray) (θ' := tPr_isArray) (n := 1) (As := [.int x2]) kPr_isArray (gT_in 811 (by decide +kernel) rfl) sPr_isArray iPr_isArray mPr_isArray rfl (show decode (tC tPr_canDo) 107 = .ok (.invokestatic 66, 3) by decide +kernel)) ⟨by rw [hR]; decide, by rw [hR]; decide, by rw [hR]; decide, by rw [hR]; decide⟩ (Nat.le_of_ble_eq_true rfl) ?_
                  refine v_if_eq (pc := 110) 125 (show decode (tC tPr_canDo) 110 = .ok (.ifCond .eq 15, 3) by decide +kernel) (by decide) (fun c => ?_) (fun c => ?_)
                  · replace h := ite_t c h
                    refine v_iconst (pc := 125) (v := 0) (show decode (tC tPr_canDo) 125 = .ok (.iconst 0, 1) by decide +kernel) (by decide) ?_
                    obtain rfl := Option.some.inj h
                    refine v_wide (ce2 := 0) (sl2 := 0) (by decide) (by decide) ?_
                    exact v_zret (pc := 126) rfl (Or.inl rfl) (show decode (tC tPr_canDo) 126 = .ok (.ireturn, 1) by decide +kernel)
                  · replace h := ite_f c h
                    refine v_aload_n (pc := 113) (show decode (tC tPr_canDo) 113 = .ok (.aload_n 0, 1) by decide +kernel) 0 rfl rfl ?_
                    refine v_iload_n (pc := 114) (show decode (tC tPr_canDo) 114 = .ok (.iload_n 3, 1) by decide +kernel) 3 rfl rfl ?_
                    obtain ⟨_, e37, h⟩ := ob h
                    obtain ⟨r38, S39, e36, h⟩ := ob2 h
                    refine v_call (pc := 115) (v := (some (.int r38))) (y := yPr_hasField) (θ' := tPr_hasField) (rm := rPr_hasField) (av := [.ref x0, .int x3]) (st := []) (cPr_hasField (l := gl Γ) hl e36) kPr_hasField iPr_hasField (iv_virt (y := yPr_hasField) (θ' := tPr_hasField) (kd := 1) (As := [.int x3]) rfl (ckd_of e37) kPr_hasField (gT_in 807 (by decide +kernel) rfl) nPr_hasField lPr_hasField mPr_hasField rfl (show decode (tC tPr_canDo) 115 = .ok (.invokevirtual 59, 3) by decide +kernel)) ⟨by rw [hR]; decide, by rw [hR]; decide, by rw [hR]; decide, by rw [hR]; decide⟩ (Nat.le_of_ble_eq_true rfl) ?_
                    refine v_if_eq (pc := 118) 125 (show decode (tC tPr_canDo) 118 = .ok (.ifCond .eq 7, 3) by decide +kernel) (by decide) (fun c => ?_) (fun c => ?_)
                    · replace h := ite_t c h
                      refine v_iconst (pc := 125) (v := 0) (show decode (tC tPr_canDo) 125 = .ok (.iconst 0, 1) by decide +kernel) (by decide) ?_
                      obtain rfl := Option.some.inj h
                      refine v_wide (ce2 := 0) (sl2 := 0) (by decide) (by decide) ?_
                      exact v_zret (pc := 126) rfl (Or.inl rfl) (show decode (tC tPr_canDo) 126 = .ok (.ireturn, 1) by decide +kernel)
                    · replace h := ite_f c h
                      refine v_iconst (pc := 121) (v := 1) (show decode (tC tPr_canDo) 121 = .ok (.iconst 1, 1) by decide +kernel) (by decide) ?_
                      refine v_goto (pc := 122) 126 (show decode (tC tPr_canDo) 122 = .ok (.goto 4, 3) by decide +kernel) (by decide) ?_
                      obtain rfl := Option.some.inj h
                      refine v_wide (ce2 := 0) (sl2 := 0) (by decide) (by decide) ?_
                      exact v_zret (pc := 126) rfl (Or.inr rfl) (show decode (tC tPr_canDo) 126 = .ok (.ireturn, 1) by decide +kernel)
                · replace h := ite_f c7 h
                  by_cases c8 : x1 = 8
                  · replace h := ite_t c8 h
                    refine v_tblIn (pc := 1) (off := 126) 127 (show decode (tC tPr_canDo) 1 = .ok (.tableswitch 156 0 8 #[51, 57, 57, 79, 156, 100, 156, 105, 126], 51) by decide +kernel) (by rw [c8]; decide) (by rw [c8]; decide) (by rw [c8]; decide) (by decide) ?_
                    refine v_aload_n (pc := 127) (show decode (tC tPr_canDo) 127 = .ok (.aload_n 0, 1) by decide +kernel) 0 rfl rfl ?_
                    refine v_iload_n (pc := 128) (show decode (tC tPr_canDo) 128 = .ok (.iload_n 2, 1) by decide +kernel) 2 rfl rfl ?_
                    obtain ⟨_, e41, h⟩ := ob h
                    obtain ⟨r42, S43, e40, h⟩ := ob2 h
                    refine v_call (pc := 129) (v := (some (.int r42))) (y := yPr_hasField) (θ' := tPr_hasField) (rm := rPr_hasField) (av := [.ref x0, .int x2]) (st := []) (cPr_hasField (l := gl Γ) hl e40) kPr_hasField iPr_hasField (iv_virt (y := yPr_hasField) (θ' := tPr_hasField) (kd := 1) (As := [.int x2]) rfl (ckd_of e41) kPr_hasField (gT_in 807 (by decide +kernel) rfl) nPr_hasField lPr_hasField mPr_hasField rfl (show decode (tC tPr_canDo) 129 = .ok (.invokevirtual 59, 3) by decide +kernel)) ⟨by rw [hR]; decide, by rw [hR]; decide, by rw [hR]; decide, by rw [hR]; decide⟩ (Nat.le_of_ble_eq_true rfl) ?_
                    refine v_if_eq (pc := 132) 155 (show decode (tC tPr_canDo) 132 = .ok (.ifCond .eq 23, 3) by decide +kernel) (by decide) (fun c => ?_) (fun c => ?_)
                    · replace h := ite_t c h
                      refine v_iconst (pc := 155) (v := 0) (show decode (tC tPr_canDo) 155 = .ok (.iconst 0, 1) by decide +kernel) (by decide) ?_
                      obtain rfl := Option.some.inj h
                      refine v_wide (ce2 := 0) (sl2 := 0) (by decide) (by decide) ?_
                      exact v_zret (pc := 156) rfl (Or.inl rfl) (show decode (tC tPr_canDo) 156 = .ok (.ireturn, 1) by decide +kernel)
                    · replace h := ite_f c h
                      refine v_aload_n (pc := 135) (show decode (tC tPr_canDo) 135 = .ok (.aload_n 0, 1) by decide +kernel) 0 rfl rfl ?_
                      refine v_iload_n (pc := 136) (show decode (tC tPr_canDo) 136 = .ok (.iload_n 3, 1) by decide +kernel) 3 rfl rfl ?_
                      obtain ⟨_, e45, h⟩ := ob h
                      obtain ⟨r46, S47, e44, h⟩ := ob2 h
                      refine v_call (pc := 137) (v := (some (.int r46))) (y := yPr_hasField) (θ' := tPr_hasField) (rm := rPr_hasField) (av := [.ref x0, .int x3]) (st := []) (cPr_hasField (l := gl Γ) hl e44) kPr_hasField iPr_hasField (iv_virt (y := yPr_hasField) (θ' := tPr_hasField) (kd := 1) (As := [.int x3]) rfl (ckd_of e45) kPr_hasField (gT_in 807 (by decide +kernel) rfl) nPr_hasField lPr_hasField mPr_hasField rfl (show decode (tC tPr_canDo) 137 = .ok (.invokevirtual 59, 3) by decide +kernel)) ⟨by rw [hR]; decide, by rw [hR]; decide, by rw [hR]; decide, by rw [hR]; decide⟩ (Nat.le_of_ble_eq_true rfl) ?_
                      refine v_if_eq (pc := 140) 155 (show decode (tC tPr_canDo) 140 = .ok (.ifCond .eq 15, 3) by decide +kernel) (by decide) (fun c => ?_) (fun c => ?_)
                      · replace h := ite_t c h
                        refine v_iconst (pc := 155) (v := 0) (show decode (tC tPr_canDo) 155 = .ok (.iconst 0, 1) by decide +kernel) (by decide) ?_
                        obtain rfl := Option.some.inj h
                        refine v_wide (ce2 := 0) (sl2 := 0) (by decide) (by decide) ?_
                        exact v_zret (pc := 156) rfl (Or.inl rfl) (show decode (tC tPr_canDo) 156 = .ok (.ireturn, 1) by decide +kernel)
                      · replace h := ite_f c h
                        refine v_iload (pc := 143) (show decode (tC tPr_canDo) 143 = .ok (.iload 4, 2) by decide +kernel) 4 rfl ?_
                        obtain ⟨r49, S50, e48, h⟩ := ob2 h
                        refine v_call (pc := 145) (v := (some (.int r49))) (y := yPr_isArray) (θ' := tPr_isArray) (rm := rPr_isArray) (av := [.int x4]) (st := []) (cPr_isArray (l := gl Γ) hl e48) kPr_isArray iPr_isArray (iv_static (y := yPr_isArray) (θ' := tPr_isArray) (n := 1) (As := [.int x4]) kPr_isArray (gT_in 811 (by decide +kernel) rfl) sPr_isArray iPr_isArray mPr_isArray rfl (show decode (tC tPr_canDo) 145 = .ok (.invokestatic 66, 3) by decide +kernel)) ⟨by rw [hR]; decide, by rw [hR]; decide, by rw [hR]; decide, by rw [hR]; decide⟩ (Nat.le_of_ble_eq_true rfl) ?_
                        refine v_if_eq (pc := 148) 155 (show decode (tC tPr_canDo) 148 = .ok (.ifCond .eq 7, 3) by decide +kernel) (by decide) (fun c => ?_) (fun c => ?_)
                        · replace h := ite_t c h
                          refine v_iconst (pc := 155) (v := 0) (show decode (tC tPr_canDo) 155 = .ok (.iconst 0, 1) by decide +kernel) (by decide) ?_
                          obtain rfl := Option.some.inj h
                          refine v_wide (ce2 := 0) (sl2 := 0) (by decide) (by decide) ?_
                          exact v_zret (pc := 156) rfl (Or.inl rfl) (show decode (tC tPr_canDo) 156 = .ok (.ireturn, 1) by decide +kernel)
                        · replace h := ite_f c h
                          refine v_iconst (pc := 151) (v := 1) (show decode (tC tPr_canDo) 151 = .ok (.iconst 1, 1) by decide +kernel) (by decide) ?_
                          refine v_goto (pc := 152) 156 (show decode (tC tPr_canDo) 152 = .ok (.goto 4, 3) by decide +kernel) (by decide) ?_
                          obtain rfl := Option.some.inj h
                          refine v_wide (ce2 := 0) (sl2 := 0) (by decide) (by decide) ?_
                          exact v_zret (pc := 156) rfl (Or.inr rfl) (show decode (tC tPr_canDo) 156 = .ok (.ireturn, 1) by decide +kernel)
                  · replace h := ite_f c8 h
                    refine v_tblOut (pc := 1) 157 (show decode (tC tPr_canDo) 1 = .ok (.tableswitch 156 0 8 #[51, 57, 57, 79, 156, 100, 156, 105, 126], 51) by decide +kernel) (tbl_out 9 (fun i hi => match i, hi with | 0, _ => by have := toInt_ne c0; exact this | 1, _ => by have := toInt_ne c1; exact this | 2, _ => by have := toInt_ne c2; exact this | 3, _ => by have := toInt_ne c3; exact this | 4, _ => by have := toInt_ne c4; exact this | 5, _ => by have := toInt_ne c5; exact this | 6, _ => by have := toInt_ne c6; exact this | 7, _ => by have := toInt_ne c7; exact this | 8, _ => by have := toInt_ne c8; exact this | i + 9, hi => absurd hi (by omega)) (by decide)) (by decide) ?_
                    refine v_iconst (pc := 157) (v := 1) (show decode (tC tPr_canDo) 157 = .ok (.iconst 1, 1) by decide +kernel) (by decide) ?_
                    obtain rfl := Option.some.inj h
                    refine v_wide (ce2 := 0) (sl2 := 0) (by decide) (by decide) ?_
                    exact v_zret (pc := 158) rfl (Or.inr rfl) (show decode (tC tPr_canDo) 158 = .ok (.ireturn, 1) by decide +kernel)
theorem cPr_canDo {l : Launch} (hl : l.flags = pinnedFlags ++ [noTraceFlag]) {D : va_G} {dA : Nat → ClassId} {B : Nat} {x0 : Nat} {x1 : Int32} {x2 : Int32} {x3 : Int32} {x4 : Int32} {S : Sx} {X : Int32 × Sx} (h : fPr_canDo x0 x1 x2 x3 x4 S = some X) : Mx l yPr_canDo tPr_canDo rPr_canDo 0 0 D dA B S [.ref x0, .int x1, .int x2, .int x3, .int x4] 0 (some (.int X.1)) X.2 :=
  mx_of hl (by decide) rfl rfl (Nat.le_of_ble_eq_true rfl) (fun Γ e1 e2 e3 e4 e5 => by subst e1; subst e3; subst e4; subst e5; exact wPr_canDo e2 hl x0 x1 x2 x3 x4 S h)
/-! MatchPipe$Program.hasActions(I)Z -/
def yPr_hasActions : MethodName := ⟨"MatchPipe$Program", "hasActions", "(I)Z"⟩
def tPr_hasActions : tM := (prog_9_method_5_code, "MatchPipe$Program", 2, "hasActions", some .boolean, [])
def rPr_hasActions : Room := { frames := 0, cells := 0, slots := 0, locals := 0 }
theorem kPr_hasActions : cOf yPr_hasActions tPr_hasActions ∈ gT := gT_in 830 (by decide +kernel) rfl
theorem iPr_hasActions : Cond.initialized yPr_hasActions.cls ∈ gT := gT_in 57 (by decide +kernel) rfl
theorem mPr_hasActions : okM yPr_hasActions 1 := ⟨by decide, by decide, by unfold nPar; decide +kernel⟩
theorem nPr_hasActions : Cond.instanceMethod yPr_hasActions ∈ gT := gT_in 828 (by decide +kernel) rfl
theorem lPr_hasActions : Cond.selects "MatchPipe$Program" yPr_hasActions yPr_hasActions ∈ gT := gT_in 829 (by decide +kernel) rfl
def fPr_hasActions (x0 : Nat) (x1 : Int32) (S : Sx) : Option (Int32 × Sx) :=
    (gI S 1 7 x0).bind fun v1 =>
    if (iushr x1 v1) = 0 then
    (some (1, S))
    else
    (some (0, S))
set_option maxRecDepth 100000 in
set_option maxHeartbeats 4000000 in
theorem wPr_hasActions {Γ : vG} (hR : gR Γ = rPr_hasActions) (hl : (gl Γ).flags = pinnedFlags ++ [noTraceFlag]) (x0 : Nat) (x1 : Int32) (S : Sx) {X : Int32 × Sx} (h : fPr_hasActions x0 x1 S = some X) : vV Γ tPr_hasActions (mQ Γ 0 0 0 (some (.int X.1)) X.2) S 0 0 0 [(0, .ref x0), (1, .int x1)] [] := by
  unfold fPr_hasActions at h
  refine v_iload_n (pc := 0) (show decode (tC tPr_hasActions) 0 = .ok (.iload_n 1, 1) by decide +kernel) 1 rfl rfl ?_
  refine v_aload_n (pc := 1) (show decode (tC tPr_hasActions) 1 = .ok (.aload_n 0, 1) by decide +kernel) 0 rfl rfl ?_
  obtain ⟨v1, e2, h⟩ := ob h
  refine v_getI (pc := 2) oF_Pr_50 (by decide) e2 (show decode (tC tPr_hasActions) 2 = .ok (.getfield 50, 3) by decide +kernel) ?_
  refine v_iushr (pc := 5) (show decode (tC tPr_hasActions) 5 = .ok (.iushr, 1) by decide +kernel) ?_
  refine v_if_ne (pc := 6) 13 (show decode (tC tPr_hasActions) 6 = .ok (.ifCond .ne 7, 3) by decide +kernel) (by decide) (fun c => ?_) (fun c => ?_)
  · replace h := ite_f c h
    refine v_iconst (pc := 13) (v := 0) (show decode (tC tPr_hasActions) 13 = .ok (.iconst 0, 1) by decide +kernel) (by decide) ?_
    obtain rfl := Option.some.inj h
    refine v_wide (ce2 := 0) (sl2 := 0) (by decide) (by decide) ?_
    exact v_zret (pc := 14) rfl (Or.inl rfl) (show decode (tC tPr_hasActions) 14 = .ok (.ireturn, 1) by decide +kernel)
  · replace h := ite_t c h
    refine v_iconst (pc := 9) (v := 1) (show decode (tC tPr_hasActions) 9 = .ok (.iconst 1, 1) by decide +kernel) (by decide) ?_
    refine v_goto (pc := 10) 14 (show decode (tC tPr_hasActions) 10 = .ok (.goto 4, 3) by decide +kernel) (by decide) ?_
    obtain rfl := Option.some.inj h
    refine v_wide (ce2 := 0) (sl2 := 0) (by decide) (by decide) ?_
    exact v_zret (pc := 14) rfl (Or.inr rfl) (show decode (tC tPr_hasActions) 14 = .ok (.ireturn, 1) by decide +kernel)
theorem cPr_hasActions {l : Launch} (hl : l.flags = pinnedFlags ++ [noTraceFlag]) {D : va_G} {dA : Nat → ClassId} {B : Nat} {x0 : Nat} {x1 : Int32} {S : Sx} {X : Int32 × Sx} (h : fPr_hasActions x0 x1 S = some X) : Mx l yPr_hasActions tPr_hasActions rPr_hasActions 0 0 D dA B S [.ref x0, .int x1] 0 (some (.int X.1)) X.2 :=
  mx_of hl (by decide) rfl rfl (Nat.le_of_ble_eq_true rfl) (fun Γ e1 e2 e3 e4 e5 => by subst e1; subst e3; subst e4; subst e5; exact wPr_hasActions e2 hl x0 x1 S h)
/-! MatchPipe$Program.ones(I)I -/
def yPr_ones : MethodName := ⟨"MatchPipe$Program", "ones", "(I)I"⟩
def tPr_ones : tM := (prog_9_method_6_code, "MatchPipe$Program", 2, "ones", some .int, [])
def rPr_ones : Room := { frames := 0, cells := 0, slots := 0, locals := 0 }
theorem kPr_ones : cOf yPr_ones tPr_ones ∈ gT := gT_in 842 (by decide +kernel) rfl
theorem iPr_ones : Cond.initialized yPr_ones.cls ∈ gT := gT_in 57 (by decide +kernel) rfl
theorem mPr_ones : okM yPr_ones 1 := ⟨by decide, by decide, by unfold nPar; decide +kernel⟩
theorem nPr_ones : Cond.instanceMethod yPr_ones ∈ gT := gT_in 840 (by decide +kernel) rfl
theorem lPr_ones : Cond.selects "MatchPipe$Program" yPr_ones yPr_ones ∈ gT := gT_in 841 (by decide +kernel) rfl
def fPr_ones (x0 : Nat) (x1 : Int32) (S : Sx) : Option (Int32 × Sx) :=
    (gX S 1 0 x0).bind fun v1 =>
    (aI S v1 x1).bind fun v3 =>
    some (iushr (-1) (32 - v3), S)
set_option maxRecDepth 100000 in
set_option maxHeartbeats 4000000 in
theorem wPr_ones {Γ : vG} (hR : gR Γ = rPr_ones) (hl : (gl Γ).flags = pinnedFlags ++ [noTraceFlag]) (x0 : Nat) (x1 : Int32) (S : Sx) {X : Int32 × Sx} (h : fPr_ones x0 x1 S = some X) : vV Γ tPr_ones (mQ Γ 0 0 0 (some (.int X.1)) X.2) S 0 0 0 [(0, .ref x0), (1, .int x1)] [] := by
  unfold fPr_ones at h
  refine v_iconst (pc := 0) (v := (-1)) (show decode (tC tPr_ones) 0 = .ok (.iconst (-1), 1) by decide +kernel) (by decide) ?_
  refine v_bipush (pc := 1) (v := 32) (show decode (tC tPr_ones) 1 = .ok (.bipush 32, 2) by decide +kernel) (by decide) ?_
  refine v_aload_n (pc := 3) (show decode (tC tPr_ones) 3 = .ok (.aload_n 0, 1) by decide +kernel) 0 rfl rfl ?_
  obtain ⟨v1, e2, h⟩ := ob h
  refine v_getX (pc := 4) oF_Pr_9 e2 (show decode (tC tPr_ones) 4 = .ok (.getfield 9, 3) by decide +kernel) ?_
  refine v_iload_n (pc := 7) (show decode (tC tPr_ones) 7 = .ok (.iload_n 1, 1) by decide +kernel) 1 rfl rfl ?_
  obtain ⟨v3, e4, h⟩ := ob h
  refine v_iald (pc := 8) e4 (show decode (tC tPr_ones) 8 = .ok (.iaload, 1) by decide +kernel) ?_
  refine v_isub (pc := 9) (show decode (tC tPr_ones) 9 = .ok (.isub, 1) by decide +kernel) ?_
  refine v_iushr (pc := 10) (show decode (tC tPr_ones) 10 = .ok (.iushr, 1) by decide +kernel) ?_
  obtain rfl := Option.some.inj h
  refine v_wide (ce2 := 0) (sl2 := 0) (by decide) (by decide) ?_
  exact v_iret (pc := 11) rfl (show decode (tC tPr_ones) 11 = .ok (.ireturn, 1) by decide +kernel)
theorem cPr_ones {l : Launch} (hl : l.flags = pinnedFlags ++ [noTraceFlag]) {D : va_G} {dA : Nat → ClassId} {B : Nat} {x0 : Nat} {x1 : Int32} {S : Sx} {X : Int32 × Sx} (h : fPr_ones x0 x1 S = some X) : Mx l yPr_ones tPr_ones rPr_ones 0 0 D dA B S [.ref x0, .int x1] 0 (some (.int X.1)) X.2 :=
  mx_of hl (by decide) rfl rfl (Nat.le_of_ble_eq_true rfl) (fun Γ e1 e2 e3 e4 e5 => by subst e1; subst e3; subst e4; subst e5; exact wPr_ones e2 hl x0 x1 S h)
/-! MatchPipe$Program.hasTable(I)Z -/
def yPr_hasTable : MethodName := ⟨"MatchPipe$Program", "hasTable", "(I)Z"⟩
def tPr_hasTable : tM := (prog_9_method_4_code, "MatchPipe$Program", 2, "hasTable", some .boolean, [])
def rPr_hasTable : Room := { frames := 0, cells := 0, slots := 0, locals := 0 }
theorem kPr_hasTable : cOf yPr_hasTable tPr_hasTable ∈ gT := gT_in 865 (by decide +kernel) rfl
theorem iPr_hasTable : Cond.initialized yPr_hasTable.cls ∈ gT := gT_in 57 (by decide +kernel) rfl
theorem mPr_hasTable : okM yPr_hasTable 1 := ⟨by decide, by decide, by unfold nPar; decide +kernel⟩
theorem nPr_hasTable : Cond.instanceMethod yPr_hasTable ∈ gT := gT_in 863 (by decide +kernel) rfl
theorem lPr_hasTable : Cond.selects "MatchPipe$Program" yPr_hasTable yPr_hasTable ∈ gT := gT_in 864 (by decide +kernel) rfl
def fPr_hasTable (x0 : Nat) (x1 : Int32) (S : Sx) : Option (Int32 × Sx) :=
    if x1 < 0 then
    (some (0, S))
    else
    ((gI S 1 8 x0).bind fun v1 =>
    if v1 ≤ x1 then
    (some (0, S))
    else
    (some (1, S)))
set_option maxRecDepth 100000 in
set_option maxHeartbeats 4000000 in
theorem wPr_hasTable {Γ : vG} (hR : gR Γ = rPr_hasTable) (hl : (gl Γ).flags = pinnedFlags ++ [noTraceFlag]) (x0 : Nat) (x1 : Int32) (S : Sx) {X : Int32 × Sx} (h : fPr_hasTable x0 x1 S = some X) : vV Γ tPr_hasTable (mQ Γ 0 0 0 (some (.int X.1)) X.2) S 0 0 0 [(0, .ref x0), (1, .int x1)] [] := by
  unfold fPr_hasTable at h
  refine v_iload_n (pc := 0) (show decode (tC tPr_hasTable) 0 = .ok (.iload_n 1, 1) by decide +kernel) 1 rfl rfl ?_
  refine v_if_lt (pc := 1) 16 (show decode (tC tPr_hasTable) 1 = .ok (.ifCond .lt 15, 3) by decide +kernel) (by decide) (fun c => ?_) (fun c => ?_)
  · replace h := ite_t c h
    refine v_iconst (pc := 16) (v := 0) (show decode (tC tPr_hasTable) 16 = .ok (.iconst 0, 1) by decide +kernel) (by decide) ?_
    obtain rfl := Option.some.inj h
    refine v_wide (ce2 := 0) (sl2 := 0) (by decide) (by decide) ?_
    exact v_zret (pc := 17) rfl (Or.inl rfl) (show decode (tC tPr_hasTable) 17 = .ok (.ireturn, 1) by decide +kernel)
  · replace h := ite_f c h
    refine v_iload_n (pc := 4) (show decode (tC tPr_hasTable) 4 = .ok (.iload_n 1, 1) by decide +kernel) 1 rfl rfl ?_
    refine v_aload_n (pc := 5) (show decode (tC tPr_hasTable) 5 = .ok (.aload_n 0, 1) by decide +kernel) 0 rfl rfl ?_
    obtain ⟨v1, e2, h⟩ := ob h
    refine v_getI (pc := 6) oF_Pr_53 (by decide) e2 (show decode (tC tPr_hasTable) 6 = .ok (.getfield 53, 3) by decide +kernel) ?_
    refine v_icmp_ge (pc := 9) 16 (show decode (tC tPr_hasTable) 9 = .ok (.if_icmp .ge 7, 3) by decide +kernel) (by decide) (fun c => ?_) (fun c => ?_)
    · replace h := ite_t c h
      refine v_iconst (pc := 16) (v := 0) (show decode (tC tPr_hasTable) 16 = .ok (.iconst 0, 1) by decide +kernel) (by decide) ?_
      obtain rfl := Option.some.inj h
      refine v_wide (ce2 := 0) (sl2 := 0) (by decide) (by decide) ?_
      exact v_zret (pc := 17) rfl (Or.inl rfl) (show decode (tC tPr_hasTable) 17 = .ok (.ireturn, 1) by decide +kernel)
    · replace h := ite_f c h
      refine v_iconst (pc := 12) (v := 1) (show decode (tC tPr_hasTable) 12 = .ok (.iconst 1, 1) by decide +kernel) (by decide) ?_
      refine v_goto (pc := 13) 17 (show decode (tC tPr_hasTable) 13 = .ok (.goto 4, 3) by decide +kernel) (by decide) ?_
      obtain rfl := Option.some.inj h
      refine v_wide (ce2 := 0) (sl2 := 0) (by decide) (by decide) ?_
      exact v_zret (pc := 17) rfl (Or.inr rfl) (show decode (tC tPr_hasTable) 17 = .ok (.ireturn, 1) by decide +kernel)
theorem cPr_hasTable {l : Launch} (hl : l.flags = pinnedFlags ++ [noTraceFlag]) {D : va_G} {dA : Nat → ClassId} {B : Nat} {x0 : Nat} {x1 : Int32} {S : Sx} {X : Int32 × Sx} (h : fPr_hasTable x0 x1 S = some X) : Mx l yPr_hasTable tPr_hasTable rPr_hasTable 0 0 D dA B S [.ref x0, .int x1] 0 (some (.int X.1)) X.2 :=
  mx_of hl (by decide) rfl rfl (Nat.le_of_ble_eq_true rfl) (fun Γ e1 e2 e3 e4 e5 => by subst e1; subst e3; subst e4; subst e5; exact wPr_hasTable e2 hl x0 x1 S h)
/-! MatchPipe$Program.arraysOf(LMatchPipe$Step;)I -/
def yPr_arraysOf : MethodName := ⟨"MatchPipe$Program", "arraysOf", "(LMatchPipe$Step;)I"⟩
def tPr_arraysOf : tM := (prog_9_method_10_code, "MatchPipe$Program", 4, "arraysOf", some .int, [])
def rPr_arraysOf : Room := { frames := 1, cells := 0, slots := 0, locals := 22 }
theorem kPr_arraysOf : cOf yPr_arraysOf tPr_arraysOf ∈ gT := gT_in 936 (by decide +kernel) rfl
theorem iPr_arraysOf : Cond.initialized yPr_arraysOf.cls ∈ gT := gT_in 57 (by decide +kernel) rfl
theorem mPr_arraysOf : okM yPr_arraysOf 1 := ⟨by decide, by decide, by unfold nPar; decide +kernel⟩
theorem nPr_arraysOf : Cond.instanceMethod yPr_arraysOf ∈ gT := gT_in 934 (by decide +kernel) rfl
theorem lPr_arraysOf : Cond.selects "MatchPipe$Program" yPr_arraysOf yPr_arraysOf ∈ gT := gT_in 935 (by decide +kernel) rfl
def fPr_arraysOf_4  : Nat → Nat → Nat → Int32 → Int32 → Sx → Option (Int32 × Sx)
  | 0, _, _, _, _, _ => none
  | n + 1, x0, x1, x2, x3, S =>
    (gI S 1 7 x0).bind fun v1 =>
    if v1 ≤ x3 then
    (some (x2, S))
    else
    ((ckd S x1 6).bind fun _ =>
    bd2 (fSp_isTest x1 S) fun r5 S6 =>
    if r5 = 0 then
    ((gX S6 1 3 x0).bind fun v7 =>
    (gI S6 6 0 x1).bind fun v9 =>
    (aX S6 4 v7 v9).bind fun v11 =>
    (gI S6 4 8 v11).bind fun v13 =>
    bd2 (fMp_hasBit v13 x3 S6) fun r16 S17 =>
    if r16 = 0 then
    (fPr_arraysOf_4 n x0 x1 (x2 ||| 0) (x3 + 1) S17)
    else
    ((gX S17 1 2 x0).bind fun v18 =>
    (aX S17 3 v18 x3).bind fun v20 =>
    (ckd S17 v20 3).bind fun _ =>
    bd2 (fAc_usedArrays v20 S17) fun r24 S25 =>
    fPr_arraysOf_4 n x0 x1 (x2 ||| r24) (x3 + 1) S25))
    else
    (some (x2, S6)))
set_option maxRecDepth 100000 in
set_option maxHeartbeats 4000000 in
theorem wPr_arraysOf_4 {Γ : vG} (hR : gR Γ = rPr_arraysOf) (hl : (gl Γ).flags = pinnedFlags ++ [noTraceFlag]) {X : Int32 × Sx}  : ∀ (n : Nat) (x0 : Nat) (x1 : Nat) (x2 : Int32) (x3 : Int32) (S : Sx), fPr_arraysOf_4  n x0 x1 x2 x3 S = some X → vV Γ tPr_arraysOf (mQ Γ 0 0 0 (some (.int X.1)) X.2) S 0 0 4 [(0, .ref x0), (1, .ref x1), (2, .int x2), (3, .int x3)] [] := by
  intro n
  induction n with
  | zero => intro x0 x1 x2 x3 S h; rw [fPr_arraysOf_4] at h; cases h
  | succ n ih =>
    intro x0 x1 x2 x3 S h
    rw [fPr_arraysOf_4] at h
    refine v_iload_n (pc := 4) (show decode (tC tPr_arraysOf) 4 = .ok (.iload_n 3, 1) by decide +kernel) 3 rfl rfl ?_
    refine v_aload_n (pc := 5) (show decode (tC tPr_arraysOf) 5 = .ok (.aload_n 0, 1) by decide +kernel) 0 rfl rfl ?_
    obtain ⟨v1, e2, h⟩ := ob h
    refine v_getI (pc := 6) oF_Pr_50 (by decide) e2 (show decode (tC tPr_arraysOf) 6 = .ok (.getfield 50, 3) by decide +kernel) ?_
    refine v_icmp_ge (pc := 9) 60 (show decode (tC tPr_arraysOf) 9 = .ok (.if_icmp .ge 51, 3) by decide +kernel) (by decide) (fun c => ?_) (fun c => ?_)
    · replace h := ite_t c h
      refine v_iload_n (pc := 60) (show decode (tC tPr_arraysOf) 60 = .ok (.iload_n 2, 1) by decide +kernel) 2 rfl rfl ?_
      obtain rfl := Option.some.inj h
      refine v_wide (ce2 := 0) (sl2 := 0) (by decide) (by decide) ?_
      exact v_iret (pc := 61) rfl (show decode (tC tPr_arraysOf) 61 = .ok (.ireturn, 1) by decide +kernel)
    · replace h := ite_f c h
      refine v_aload_n (pc := 12) (show decode (tC tPr_arraysOf) 12 = .ok (.aload_n 1, 1) by decide +kernel) 1 rfl rfl ?_
      obtain ⟨_, e4, h⟩ := ob h
      obtain ⟨r5, S6, e3, h⟩ := ob2 h
      refine v_call (pc := 13) (v := (some (.int r5))) (y := ySp_isTest) (θ' := tSp_isTest) (rm := rSp_isTest) (av := [.ref x1]) (st := []) (cSp_isTest (l := gl Γ) hl e3) kSp_isTest iSp_isTest (iv_virt (y := ySp_isTest) (θ' := tSp_isTest) (kd := 6) (As := []) rfl (ckd_of e4) kSp_isTest (gT_in 937 (by decide +kernel) rfl) nSp_isTest lSp_isTest mSp_isTest rfl (show decode (tC tPr_arraysOf) 13 = .ok (.invokevirtual 69, 3) by decide +kernel)) ⟨by rw [hR]; decide, by rw [hR]; decide, by rw [hR]; decide, by rw [hR]; decide⟩ (Nat.le_of_ble_eq_true rfl) ?_
      refine v_if_ne (pc := 16) 60 (show decode (tC tPr_arraysOf) 16 = .ok (.ifCond .ne 44, 3) by decide +kernel) (by decide) (fun c => ?_) (fun c => ?_)
      · replace h := ite_f c h
        refine v_iload_n (pc := 60) (show decode (tC tPr_arraysOf) 60 = .ok (.iload_n 2, 1) by decide +kernel) 2 rfl rfl ?_
        obtain rfl := Option.some.inj h
        refine v_wide (ce2 := 0) (sl2 := 0) (by decide) (by decide) ?_
        exact v_iret (pc := 61) rfl (show decode (tC tPr_arraysOf) 61 = .ok (.ireturn, 1) by decide +kernel)
      · replace h := ite_t c h
        refine v_iload_n (pc := 19) (show decode (tC tPr_arraysOf) 19 = .ok (.iload_n 2, 1) by decide +kernel) 2 rfl rfl ?_
        refine v_aload_n (pc := 20) (show decode (tC tPr_arraysOf) 20 = .ok (.aload_n 0, 1) by decide +kernel) 0 rfl rfl ?_
        obtain ⟨v7, e8, h⟩ := ob h
        refine v_getX (pc := 21) oF_Pr_29 e8 (show decode (tC tPr_arraysOf) 21 = .ok (.getfield 29, 3) by decide +kernel) ?_
        refine v_aload_n (pc := 24) (show decode (tC tPr_arraysOf) 24 = .ok (.aload_n 1, 1) by decide +kernel) 1 rfl rfl ?_
        obtain ⟨v9, e10, h⟩ := ob h
        refine v_getI (pc := 25) oF_Pr_76 (by decide) e10 (show decode (tC tPr_arraysOf) 25 = .ok (.getfield 76, 3) by decide +kernel) ?_
        obtain ⟨v11, e12, h⟩ := ob h
        refine v_aald (pc := 28) (kd := 4) rfl e12 (show decode (tC tPr_arraysOf) 28 = .ok (.aaload, 1) by decide +kernel) ?_
        obtain ⟨v13, e14, h⟩ := ob h
        refine v_getI (pc := 29) oF_Pr_85 (by decide) e14 (show decode (tC tPr_arraysOf) 29 = .ok (.getfield 85, 3) by decide +kernel) ?_
        refine v_iload_n (pc := 32) (show decode (tC tPr_arraysOf) 32 = .ok (.iload_n 3, 1) by decide +kernel) 3 rfl rfl ?_
        obtain ⟨r16, S17, e15, h⟩ := ob2 h
        refine v_call (pc := 33) (v := (some (.int r16))) (y := yMp_hasBit) (θ' := tMp_hasBit) (rm := rMp_hasBit) (av := [.int v13, .int x3]) (st := [.int x2]) (cMp_hasBit (l := gl Γ) hl e15) kMp_hasBit iMp_hasBit (iv_staticN (y := yMp_hasBit) (θ' := tMp_hasBit) (n := 2) (As := [.int v13, .int x3]) kMp_hasBit (List.mem_of_getElem? (l := nN) (i := 12) rfl) sMp_hasBit iMp_hasBit mMp_hasBit rfl (show decode (tC tPr_arraysOf) 33 = .ok (.invokestatic 87, 3) by decide +kernel)) ⟨by rw [hR]; decide, by rw [hR]; decide, by rw [hR]; decide, by rw [hR]; decide⟩ (Nat.le_of_ble_eq_true rfl) ?_
        refine v_if_eq (pc := 36) 51 (show decode (tC tPr_arraysOf) 36 = .ok (.ifCond .eq 15, 3) by decide +kernel) (by decide) (fun c => ?_) (fun c => ?_)
        · replace h := ite_t c h
          refine v_iconst (pc := 51) (v := 0) (show decode (tC tPr_arraysOf) 51 = .ok (.iconst 0, 1) by decide +kernel) (by decide) ?_
          refine v_ior (pc := 52) (show decode (tC tPr_arraysOf) 52 = .ok (.ior, 1) by decide +kernel) ?_
          refine v_istore_n (pc := 53) [(2, .int (x2 ||| 0)), (0, .ref x0), (1, .ref x1), (3, .int x3)] (show decode (tC tPr_arraysOf) 53 = .ok (.istore_n 2, 1) by decide +kernel) rfl (by decide) rfl ?_
          refine v_iinc (pc := 54) (j := 3) [(3, .int (x3 + 1)), (2, .int (x2 ||| 0)), (0, .ref x0), (1, .ref x1)] (show decode (tC tPr_arraysOf) 54 = .ok (.iinc 3 1, 3) by decide +kernel) rfl rfl (by decide) rfl ?_
          refine v_goto (pc := 57) 4 (show decode (tC tPr_arraysOf) 57 = .ok (.goto (-53), 3) by decide +kernel) (by decide) ?_
          refine v_sub [(0, .ref x0), (1, .ref x1), (2, .int (x2 ||| 0)), (3, .int (x3 + 1))] [2, 3, 1, 0] rfl ?_
          exact ih x0 x1 (x2 ||| 0) (x3 + 1) S17 h
        · replace h := ite_f c h
          refine v_aload_n (pc := 39) (show decode (tC tPr_arraysOf) 39 = .ok (.aload_n 0, 1) by decide +kernel) 0 rfl rfl ?_
          obtain ⟨v18, e19, h⟩ := ob h
          refine v_getX (pc := 40) oF_Pr_23 e19 (show decode (tC tPr_arraysOf) 40 = .ok (.getfield 23, 3) by decide +kernel) ?_
          refine v_iload_n (pc := 43) (show decode (tC tPr_arraysOf) 43 = .ok (.iload_n 3, 1) by decide +kernel) 3 rfl rfl ?_
          obtain ⟨v20, e21, h⟩ := ob h
          refine v_aald (pc := 44) (kd := 3) rfl e21 (show decode (tC tPr_arraysOf) 44 = .ok (.aaload, 1) by decide +kernel) ?_
          obtain ⟨_, e23, h⟩ := ob h
          obtain ⟨r24, S25, e22, h⟩ := ob2 h
          refine v_call (pc := 45) (v := (some (.int r24))) (y := yAc_usedArrays) (θ' := tAc_usedArrays) (rm := rAc_usedArrays) (av := [.ref v20]) (st := [.int x2]) (cAc_usedArrays (l := gl Γ) hl e22) kAc_usedArrays iAc_usedArrays (iv_virt (y := yAc_usedArrays) (θ' := tAc_usedArrays) (kd := 3) (As := []) rfl (ckd_of e23) kAc_usedArrays (gT_in 939 (by decide +kernel) rfl) nAc_usedArrays lAc_usedArrays mAc_usedArrays rfl (show decode (tC tPr_arraysOf) 45 = .ok (.invokevirtual 98, 3) by decide +kernel)) ⟨by rw [hR]; decide, by rw [hR]; decide, by rw [hR]; decide, by rw [hR]; decide⟩ (Nat.le_of_ble_eq_true rfl) ?_
          refine v_goto (pc := 48) 52 (show decode (tC tPr_arraysOf) 48 = .ok (.goto 4, 3) by decide +kernel) (by decide) ?_
          refine v_ior (pc := 52) (show decode (tC tPr_arraysOf) 52 = .ok (.ior, 1) by decide +kernel) ?_
          refine v_istore_n (pc := 53) [(2, .int (x2 ||| r24)), (0, .ref x0), (1, .ref x1), (3, .int x3)] (show decode (tC tPr_arraysOf) 53 = .ok (.istore_n 2, 1) by decide +kernel) rfl (by decide) rfl ?_
          refine v_iinc (pc := 54) (j := 3) [(3, .int (x3 + 1)), (2, .int (x2 ||| r24)), (0, .ref x0), (1, .ref x1)] (show decode (tC tPr_arraysOf) 54 = .ok (.iinc 3 1, 3) by decide +kernel) rfl rfl (by decide) rfl ?_
          refine v_goto (pc := 57) 4 (show decode (tC tPr_arraysOf) 57 = .ok (.goto (-53), 3) by decide +kernel) (by decide) ?_
          refine v_sub [(0, .ref x0), (1, .ref x1), (2, .int (x2 ||| r24)), (3, .int (x3 + 1))] [2, 3, 1, 0] rfl ?_
          exact ih x0 x1 (x2 ||| r24) (x3 + 1) S25 h
def fPr_arraysOf (x0 : Nat) (x1 : Nat) (S : Sx) : Option (Int32 × Sx) :=
    fPr_arraysOf_4  fuel x0 x1 0 0 S
set_option maxRecDepth 100000 in
set_option maxHeartbeats 4000000 in
theorem wPr_arraysOf {Γ : vG} (hR : gR Γ = rPr_arraysOf) (hl : (gl Γ).flags = pinnedFlags ++ [noTraceFlag]) (x0 : Nat) (x1 : Nat) (S : Sx) {X : Int32 × Sx} (h : fPr_arraysOf x0 x1 S = some X) : vV Γ tPr_arraysOf (mQ Γ 0 0 0 (some (.int X.1)) X.2) S 0 0 0 [(0, .ref x0), (1, .ref x1)] [] := by
  unfold fPr_arraysOf at h
  refine v_iconst (pc := 0) (v := 0) (show decode (tC tPr_arraysOf) 0 = .ok (.iconst 0, 1) by decide +kernel) (by decide) ?_
  refine v_istore_n (pc := 1) [(2, .int 0), (0, .ref x0), (1, .ref x1)] (show decode (tC tPr_arraysOf) 1 = .ok (.istore_n 2, 1) by decide +kernel) rfl (by decide) rfl ?_
  refine v_iconst (pc := 2) (v := 0) (show decode (tC tPr_arraysOf) 2 = .ok (.iconst 0, 1) by decide +kernel) (by decide) ?_
  refine v_istore_n (pc := 3) [(3, .int 0), (2, .int 0), (0, .ref x0), (1, .ref x1)] (show decode (tC tPr_arraysOf) 3 = .ok (.istore_n 3, 1) by decide +kernel) rfl (by decide) rfl ?_
  refine v_sub [(0, .ref x0), (1, .ref x1), (2, .int 0), (3, .int 0)] [2, 3, 1, 0] rfl ?_
  exact wPr_arraysOf_4 hR hl  fuel x0 x1 0 0 S h
theorem cPr_arraysOf {l : Launch} (hl : l.flags = pinnedFlags ++ [noTraceFlag]) {D : va_G} {dA : Nat → ClassId} {B : Nat} {x0 : Nat} {x1 : Nat} {S : Sx} {X : Int32 × Sx} (h : fPr_arraysOf x0 x1 S = some X) : Mx l yPr_arraysOf tPr_arraysOf rPr_arraysOf 0 0 D dA B S [.ref x0, .ref x1] 0 (some (.int X.1)) X.2 :=
  mx_of hl (by decide) rfl rfl (Nat.le_of_ble_eq_true rfl) (fun Γ e1 e2 e3 e4 e5 => by subst e1; subst e3; subst e4; subst e5; exact wPr_arraysOf e2 hl x0 x1 S h)
/-! MatchPipe$Program.readsOf(LMatchPipe$Step;)I -/
def yPr_readsOf : MethodName := ⟨"MatchPipe$Program", "readsOf", "(LMatchPipe$Step;)I"⟩
def tPr_readsOf : tM := (prog_9_method_8_code, "MatchPipe$Program", 5, "readsOf", some .int, [])
def rPr_readsOf : Room := { frames := 1, cells := 0, slots := 0, locals := 22 }
theorem kPr_readsOf : cOf yPr_readsOf tPr_readsOf ∈ gT := gT_in 961 (by decide +kernel) rfl
theorem iPr_readsOf : Cond.initialized yPr_readsOf.cls ∈ gT := gT_in 57 (by decide +kernel) rfl
theorem mPr_readsOf : okM yPr_readsOf 1 := ⟨by decide, by decide, by unfold nPar; decide +kernel⟩
theorem nPr_readsOf : Cond.instanceMethod yPr_readsOf ∈ gT := gT_in 959 (by decide +kernel) rfl
theorem lPr_readsOf : Cond.selects "MatchPipe$Program" yPr_readsOf yPr_readsOf ∈ gT := gT_in 960 (by decide +kernel) rfl
def fPr_readsOf_53  : Nat → Nat → Nat → Int32 → Int32 → Sx → Option (Int32 × Sx)
  | 0, _, _, _, _, _ => none
  | n + 1, x0, x2, x3, x4, S =>
    (gI S 1 7 x0).bind fun v1 =>
    if v1 ≤ x4 then
    (some (x3, S))
    else
    ((gI S 4 8 x2).bind fun v3 =>
    bd2 (fMp_hasBit v3 x4 S) fun r6 S7 =>
    if r6 = 0 then
    (fPr_readsOf_53 n x0 x2 (x3 ||| 0) (x4 + 1) S7)
    else
    ((gX S7 1 2 x0).bind fun v8 =>
    (aX S7 3 v8 x4).bind fun v10 =>
    (ckd S7 v10 3).bind fun _ =>
    bd2 (fAc_reads v10 S7) fun r14 S15 =>
    fPr_readsOf_53 n x0 x2 (x3 ||| r14) (x4 + 1) S15))
set_option maxRecDepth 100000 in
set_option maxHeartbeats 4000000 in
theorem wPr_readsOf_53 {Γ : vG} (hR : gR Γ = rPr_readsOf) (hl : (gl Γ).flags = pinnedFlags ++ [noTraceFlag]) {X : Int32 × Sx}  : ∀ (n : Nat) (x0 : Nat) (x2 : Nat) (x3 : Int32) (x4 : Int32) (S : Sx), fPr_readsOf_53  n x0 x2 x3 x4 S = some X → vV Γ tPr_readsOf (mQ Γ 0 0 0 (some (.int X.1)) X.2) S 0 0 53 [(0, .ref x0), (2, .ref x2), (3, .int x3), (4, .int x4)] [] := by
  intro n
  induction n with
  | zero => intro x0 x2 x3 x4 S h; rw [fPr_readsOf_53] at h; cases h
  | succ n ih =>
    intro x0 x2 x3 x4 S h
    rw [fPr_readsOf_53] at h
    refine v_iload (pc := 53) (show decode (tC tPr_readsOf) 53 = .ok (.iload 4, 2) by decide +kernel) 3 rfl ?_
    refine v_aload_n (pc := 55) (show decode (tC tPr_readsOf) 55 = .ok (.aload_n 0, 1) by decide +kernel) 0 rfl rfl ?_
    obtain ⟨v1, e2, h⟩ := ob h
    refine v_getI (pc := 56) oF_Pr_50 (by decide) e2 (show decode (tC tPr_readsOf) 56 = .ok (.getfield 50, 3) by decide +kernel) ?_
    refine v_icmp_ge (pc := 59) 97 (show decode (tC tPr_readsOf) 59 = .ok (.if_icmp .ge 38, 3) by decide +kernel) (by decide) (fun c => ?_) (fun c => ?_)
    · replace h := ite_t c h
      refine v_iload_n (pc := 97) (show decode (tC tPr_readsOf) 97 = .ok (.iload_n 3, 1) by decide +kernel) 2 rfl rfl ?_
      obtain rfl := Option.some.inj h
      refine v_wide (ce2 := 0) (sl2 := 0) (by decide) (by decide) ?_
      exact v_iret (pc := 98) rfl (show decode (tC tPr_readsOf) 98 = .ok (.ireturn, 1) by decide +kernel)
    · replace h := ite_f c h
      refine v_iload_n (pc := 62) (show decode (tC tPr_readsOf) 62 = .ok (.iload_n 3, 1) by decide +kernel) 2 rfl rfl ?_
      refine v_aload_n (pc := 63) (show decode (tC tPr_readsOf) 63 = .ok (.aload_n 2, 1) by decide +kernel) 1 rfl rfl ?_
      obtain ⟨v3, e4, h⟩ := ob h
      refine v_getI (pc := 64) oF_Pr_85 (by decide) e4 (show decode (tC tPr_readsOf) 64 = .ok (.getfield 85, 3) by decide +kernel) ?_
      refine v_iload (pc := 67) (show decode (tC tPr_readsOf) 67 = .ok (.iload 4, 2) by decide +kernel) 3 rfl ?_
      obtain ⟨r6, S7, e5, h⟩ := ob2 h
      refine v_call (pc := 69) (v := (some (.int r6))) (y := yMp_hasBit) (θ' := tMp_hasBit) (rm := rMp_hasBit) (av := [.int v3, .int x4]) (st := [.int x3]) (cMp_hasBit (l := gl Γ) hl e5) kMp_hasBit iMp_hasBit (iv_staticN (y := yMp_hasBit) (θ' := tMp_hasBit) (n := 2) (As := [.int v3, .int x4]) kMp_hasBit (List.mem_of_getElem? (l := nN) (i := 12) rfl) sMp_hasBit iMp_hasBit mMp_hasBit rfl (show decode (tC tPr_readsOf) 69 = .ok (.invokestatic 87, 3) by decide +kernel)) ⟨by rw [hR]; decide, by rw [hR]; decide, by rw [hR]; decide, by rw [hR]; decide⟩ (Nat.le_of_ble_eq_true rfl) ?_
      refine v_if_eq (pc := 72) 88 (show decode (tC tPr_readsOf) 72 = .ok (.ifCond .eq 16, 3) by decide +kernel) (by decide) (fun c => ?_) (fun c => ?_)
      · replace h := ite_t c h
        refine v_iconst (pc := 88) (v := 0) (show decode (tC tPr_readsOf) 88 = .ok (.iconst 0, 1) by decide +kernel) (by decide) ?_
        refine v_ior (pc := 89) (show decode (tC tPr_readsOf) 89 = .ok (.ior, 1) by decide +kernel) ?_
        refine v_istore_n (pc := 90) [(3, .int (x3 ||| 0)), (0, .ref x0), (2, .ref x2), (4, .int x4)] (show decode (tC tPr_readsOf) 90 = .ok (.istore_n 3, 1) by decide +kernel) rfl (by decide) rfl ?_
        refine v_iinc (pc := 91) (j := 3) [(4, .int (x4 + 1)), (3, .int (x3 ||| 0)), (0, .ref x0), (2, .ref x2)] (show decode (tC tPr_readsOf) 91 = .ok (.iinc 4 1, 3) by decide +kernel) rfl rfl (by decide) rfl ?_
        refine v_goto (pc := 94) 53 (show decode (tC tPr_readsOf) 94 = .ok (.goto (-41), 3) by decide +kernel) (by decide) ?_
        refine v_sub [(0, .ref x0), (2, .ref x2), (3, .int (x3 ||| 0)), (4, .int (x4 + 1))] [2, 3, 1, 0] rfl ?_
        exact ih x0 x2 (x3 ||| 0) (x4 + 1) S7 h
      · replace h := ite_f c h
        refine v_aload_n (pc := 75) (show decode (tC tPr_readsOf) 75 = .ok (.aload_n 0, 1) by decide +kernel) 0 rfl rfl ?_
        obtain ⟨v8, e9, h⟩ := ob h
        refine v_getX (pc := 76) oF_Pr_23 e9 (show decode (tC tPr_readsOf) 76 = .ok (.getfield 23, 3) by decide +kernel) ?_
        refine v_iload (pc := 79) (show decode (tC tPr_readsOf) 79 = .ok (.iload 4, 2) by decide +kernel) 3 rfl ?_
        obtain ⟨v10, e11, h⟩ := ob h
        refine v_aald (pc := 81) (kd := 3) rfl e11 (show decode (tC tPr_readsOf) 81 = .ok (.aaload, 1) by decide +kernel) ?_
        obtain ⟨_, e13, h⟩ := ob h
        obtain ⟨r14, S15, e12, h⟩ := ob2 h
        refine v_call (pc := 82) (v := (some (.int r14))) (y := yAc_reads) (θ' := tAc_reads) (rm := rAc_reads) (av := [.ref v10]) (st := [.int x3]) (cAc_reads (l := gl Γ) hl e12) kAc_reads iAc_reads (iv_virt (y := yAc_reads) (θ' := tAc_reads) (kd := 3) (As := []) rfl (ckd_of e13) kAc_reads (gT_in 962 (by decide +kernel) rfl) nAc_reads lAc_reads mAc_reads rfl (show decode (tC tPr_readsOf) 82 = .ok (.invokevirtual 91, 3) by decide +kernel)) ⟨by rw [hR]; decide, by rw [hR]; decide, by rw [hR]; decide, by rw [hR]; decide⟩ (Nat.le_of_ble_eq_true rfl) ?_
        refine v_goto (pc := 85) 89 (show decode (tC tPr_readsOf) 85 = .ok (.goto 4, 3) by decide +kernel) (by decide) ?_
        refine v_ior (pc := 89) (show decode (tC tPr_readsOf) 89 = .ok (.ior, 1) by decide +kernel) ?_
        refine v_istore_n (pc := 90) [(3, .int (x3 ||| r14)), (0, .ref x0), (2, .ref x2), (4, .int x4)] (show decode (tC tPr_readsOf) 90 = .ok (.istore_n 3, 1) by decide +kernel) rfl (by decide) rfl ?_
        refine v_iinc (pc := 91) (j := 3) [(4, .int (x4 + 1)), (3, .int (x3 ||| r14)), (0, .ref x0), (2, .ref x2)] (show decode (tC tPr_readsOf) 91 = .ok (.iinc 4 1, 3) by decide +kernel) rfl rfl (by decide) rfl ?_
        refine v_goto (pc := 94) 53 (show decode (tC tPr_readsOf) 94 = .ok (.goto (-41), 3) by decide +kernel) (by decide) ?_
        refine v_sub [(0, .ref x0), (2, .ref x2), (3, .int (x3 ||| r14)), (4, .int (x4 + 1))] [2, 3, 1, 0] rfl ?_
        exact ih x0 x2 (x3 ||| r14) (x4 + 1) S15 h
def fPr_readsOf (x0 : Nat) (x1 : Nat) (S : Sx) : Option (Int32 × Sx) :=
    (ckd S x1 6).bind fun _ =>
    bd2 (fSp_isTest x1 S) fun r3 S4 =>
    if r3 = 0 then
    ((gX S4 1 3 x0).bind fun v5 =>
    (gI S4 6 0 x1).bind fun v7 =>
    (aX S4 4 v5 v7).bind fun v9 =>
    (gI S4 4 2 v9).bind fun v11 =>
    (gI S4 4 5 v9).bind fun v13 =>
    if v13 = (-1) then
    (fPr_readsOf_53  fuel x0 v9 ((1 <<< (v11 &&& 31)) ||| 0) 0 S4)
    else
    ((gI S4 4 5 v9).bind fun v15 =>
    fPr_readsOf_53  fuel x0 v9 ((1 <<< (v11 &&& 31)) ||| (1 <<< (v15 &&& 31))) 0 S4))
    else
    ((gI S4 6 1 x1).bind fun v17 =>
    some (1 <<< (v17 &&& 31), S4))
set_option maxRecDepth 100000 in
set_option maxHeartbeats 4000000 in
theorem wPr_readsOf {Γ : vG} (hR : gR Γ = rPr_readsOf) (hl : (gl Γ).flags = pinnedFlags ++ [noTraceFlag]) (x0 : Nat) (x1 : Nat) (S : Sx) {X : Int32 × Sx} (h : fPr_readsOf x0 x1 S = some X) : vV Γ tPr_readsOf (mQ Γ 0 0 0 (some (.int X.1)) X.2) S 0 0 0 [(0, .ref x0), (1, .ref x1)] [] := by
  unfold fPr_readsOf at h
  refine v_aload_n (pc := 0) (show decode (tC tPr_readsOf) 0 = .ok (.aload_n 1, 1) by decide +kernel) 1 rfl rfl ?_
  obtain ⟨_, e2, h⟩ := ob h
  obtain ⟨r3, S4, e1, h⟩ := ob2 h
  refine v_call (pc := 1) (v := (some (.int r3))) (y := ySp_isTest) (θ' := tSp_isTest) (rm := rSp_isTest) (av := [.ref x1]) (st := []) (cSp_isTest (l := gl Γ) hl e1) kSp_isTest iSp_isTest (iv_virt (y := ySp_isTest) (θ' := tSp_isTest) (kd := 6) (As := []) rfl (ckd_of e2) kSp_isTest (gT_in 937 (by decide +kernel) rfl) nSp_isTest lSp_isTest mSp_isTest rfl (show decode (tC tPr_readsOf) 1 = .ok (.invokevirtual 69, 3) by decide +kernel)) ⟨by rw [hR]; decide, by rw [hR]; decide, by rw [hR]; decide, by rw [hR]; decide⟩ (Nat.le_of_ble_eq_true rfl) ?_
  refine v_if_eq (pc := 4) 14 (show decode (tC tPr_readsOf) 4 = .ok (.ifCond .eq 10, 3) by decide +kernel) (by decide) (fun c => ?_) (fun c => ?_)
  · replace h := ite_t c h
    refine v_aload_n (pc := 14) (show decode (tC tPr_readsOf) 14 = .ok (.aload_n 0, 1) by decide +kernel) 0 rfl rfl ?_
    obtain ⟨v5, e6, h⟩ := ob h
    refine v_getX (pc := 15) oF_Pr_29 e6 (show decode (tC tPr_readsOf) 15 = .ok (.getfield 29, 3) by decide +kernel) ?_
    refine v_aload_n (pc := 18) (show decode (tC tPr_readsOf) 18 = .ok (.aload_n 1, 1) by decide +kernel) 1 rfl rfl ?_
    obtain ⟨v7, e8, h⟩ := ob h
    refine v_getI (pc := 19) oF_Pr_76 (by decide) e8 (show decode (tC tPr_readsOf) 19 = .ok (.getfield 76, 3) by decide +kernel) ?_
    obtain ⟨v9, e10, h⟩ := ob h
    refine v_aald (pc := 22) (kd := 4) rfl e10 (show decode (tC tPr_readsOf) 22 = .ok (.aaload, 1) by decide +kernel) ?_
    refine v_astore_n (pc := 23) [(2, .ref v9), (0, .ref x0), (1, .ref x1)] (show decode (tC tPr_readsOf) 23 = .ok (.astore_n 2, 1) by decide +kernel) rfl (by decide) rfl ?_
    refine v_iconst (pc := 24) (v := 1) (show decode (tC tPr_readsOf) 24 = .ok (.iconst 1, 1) by decide +kernel) (by decide) ?_
    refine v_aload_n (pc := 25) (show decode (tC tPr_readsOf) 25 = .ok (.aload_n 2, 1) by decide +kernel) 0 rfl rfl ?_
    obtain ⟨v11, e12, h⟩ := ob h
    refine v_getI (pc := 26) oF_Pr_79 (by decide) e12 (show decode (tC tPr_readsOf) 26 = .ok (.getfield 79, 3) by decide +kernel) ?_
    refine v_ishl (pc := 29) (show decode (tC tPr_readsOf) 29 = .ok (.ishl, 1) by decide +kernel) ?_
    refine v_aload_n (pc := 30) (show decode (tC tPr_readsOf) 30 = .ok (.aload_n 2, 1) by decide +kernel) 0 rfl rfl ?_
    obtain ⟨v13, e14, h⟩ := ob h
    refine v_getI (pc := 31) oF_Pr_82 (by decide) e14 (show decode (tC tPr_readsOf) 31 = .ok (.getfield 82, 3) by decide +kernel) ?_
    refine v_iconst (pc := 34) (v := (-1)) (show decode (tC tPr_readsOf) 34 = .ok (.iconst (-1), 1) by decide +kernel) (by decide) ?_
    refine v_icmp_ne (pc := 35) 42 (show decode (tC tPr_readsOf) 35 = .ok (.if_icmp .ne 7, 3) by decide +kernel) (by decide) (fun c => ?_) (fun c => ?_)
    · replace h := ite_f c h
      refine v_iconst (pc := 42) (v := 1) (show decode (tC tPr_readsOf) 42 = .ok (.iconst 1, 1) by decide +kernel) (by decide) ?_
      refine v_aload_n (pc := 43) (show decode (tC tPr_readsOf) 43 = .ok (.aload_n 2, 1) by decide +kernel) 0 rfl rfl ?_
      obtain ⟨v15, e16, h⟩ := ob h
      refine v_getI (pc := 44) oF_Pr_82 (by decide) e16 (show decode (tC tPr_readsOf) 44 = .ok (.getfield 82, 3) by decide +kernel) ?_
      refine v_ishl (pc := 47) (show decode (tC tPr_readsOf) 47 = .ok (.ishl, 1) by decide +kernel) ?_
      refine v_ior (pc := 48) (show decode (tC tPr_readsOf) 48 = .ok (.ior, 1) by decide +kernel) ?_
      refine v_istore_n (pc := 49) [(3, .int ((1 <<< (v11 &&& 31)) ||| (1 <<< (v15 &&& 31)))), (2, .ref v9), (0, .ref x0), (1, .ref x1)] (show decode (tC tPr_readsOf) 49 = .ok (.istore_n 3, 1) by decide +kernel) rfl (by decide) rfl ?_
      refine v_iconst (pc := 50) (v := 0) (show decode (tC tPr_readsOf) 50 = .ok (.iconst 0, 1) by decide +kernel) (by decide) ?_
      refine v_istore (pc := 51) [(4, .int 0), (3, .int ((1 <<< (v11 &&& 31)) ||| (1 <<< (v15 &&& 31)))), (2, .ref v9), (0, .ref x0), (1, .ref x1)] (show decode (tC tPr_readsOf) 51 = .ok (.istore 4, 2) by decide +kernel) (by decide) rfl ?_
      refine v_sub [(0, .ref x0), (2, .ref v9), (3, .int ((1 <<< (v11 &&& 31)) ||| (1 <<< (v15 &&& 31)))), (4, .int 0)] [3, 2, 1, 0] rfl ?_
      exact wPr_readsOf_53 hR hl  fuel x0 v9 ((1 <<< (v11 &&& 31)) ||| (1 <<< (v15 &&& 31))) 0 S4 h
    · replace h := ite_t c h
      refine v_iconst (pc := 38) (v := 0) (show decode (tC tPr_readsOf) 38 = .ok (.iconst 0, 1) by decide +kernel) (by decide) ?_
      refine v_goto (pc := 39) 48 (show decode (tC tPr_readsOf) 39 = .ok (.goto 9, 3) by decide +kernel) (by decide) ?_
      refine v_ior (pc := 48) (show decode (tC tPr_readsOf) 48 = .ok (.ior, 1) by decide +kernel) ?_
      refine v_istore_n (pc := 49) [(3, .int ((1 <<< (v11 &&& 31)) ||| 0)), (2, .ref v9), (0, .ref x0), (1, .ref x1)] (show decode (tC tPr_readsOf) 49 = .ok (.istore_n 3, 1) by decide +kernel) rfl (by decide) rfl ?_
      refine v_iconst (pc := 50) (v := 0) (show decode (tC tPr_readsOf) 50 = .ok (.iconst 0, 1) by decide +kernel) (by decide) ?_
      refine v_istore (pc := 51) [(4, .int 0), (3, .int ((1 <<< (v11 &&& 31)) ||| 0)), (2, .ref v9), (0, .ref x0), (1, .ref x1)] (show decode (tC tPr_readsOf) 51 = .ok (.istore 4, 2) by decide +kernel) (by decide) rfl ?_
      refine v_sub [(0, .ref x0), (2, .ref v9), (3, .int ((1 <<< (v11 &&& 31)) ||| 0)), (4, .int 0)] [3, 2, 1, 0] rfl ?_
      exact wPr_readsOf_53 hR hl  fuel x0 v9 ((1 <<< (v11 &&& 31)) ||| 0) 0 S4 h
  · replace h := ite_f c h
    refine v_iconst (pc := 7) (v := 1) (show decode (tC tPr_readsOf) 7 = .ok (.iconst 1, 1) by decide +kernel) (by decide) ?_
    refine v_aload_n (pc := 8) (show decode (tC tPr_readsOf) 8 = .ok (.aload_n 1, 1) by decide +kernel) 1 rfl rfl ?_
    obtain ⟨v17, e18, h⟩ := ob h
    refine v_getI (pc := 9) oF_Pr_73 (by decide) e18 (show decode (tC tPr_readsOf) 9 = .ok (.getfield 73, 3) by decide +kernel) ?_
    refine v_ishl (pc := 12) (show decode (tC tPr_readsOf) 12 = .ok (.ishl, 1) by decide +kernel) ?_
    obtain rfl := Option.some.inj h
    refine v_wide (ce2 := 0) (sl2 := 0) (by decide) (by decide) ?_
    exact v_iret (pc := 13) rfl (show decode (tC tPr_readsOf) 13 = .ok (.ireturn, 1) by decide +kernel)
theorem cPr_readsOf {l : Launch} (hl : l.flags = pinnedFlags ++ [noTraceFlag]) {D : va_G} {dA : Nat → ClassId} {B : Nat} {x0 : Nat} {x1 : Nat} {S : Sx} {X : Int32 × Sx} (h : fPr_readsOf x0 x1 S = some X) : Mx l yPr_readsOf tPr_readsOf rPr_readsOf 0 0 D dA B S [.ref x0, .ref x1] 0 (some (.int X.1)) X.2 :=
  mx_of hl (by decide) rfl rfl (Nat.le_of_ble_eq_true rfl) (fun Γ e1 e2 e3 e4 e5 => by subst e1; subst e3; subst e4; subst e5; exact wPr_readsOf e2 hl x0 x1 S h)
/-! MatchPipe$Program.writesOf(LMatchPipe$Step;)I -/
def yPr_writesOf : MethodName := ⟨"MatchPipe$Program", "writesOf", "(LMatchPipe$Step;)I"⟩
def tPr_writesOf : tM := (prog_9_method_9_code, "MatchPipe$Program", 4, "writesOf", some .int, [])
def rPr_writesOf : Room := { frames := 1, cells := 0, slots := 0, locals := 22 }
theorem kPr_writesOf : cOf yPr_writesOf tPr_writesOf ∈ gT := gT_in 951 (by decide +kernel) rfl
theorem iPr_writesOf : Cond.initialized yPr_writesOf.cls ∈ gT := gT_in 57 (by decide +kernel) rfl
theorem mPr_writesOf : okM yPr_writesOf 1 := ⟨by decide, by decide, by unfold nPar; decide +kernel⟩
theorem nPr_writesOf : Cond.instanceMethod yPr_writesOf ∈ gT := gT_in 949 (by decide +kernel) rfl
theorem lPr_writesOf : Cond.selects "MatchPipe$Program" yPr_writesOf yPr_writesOf ∈ gT := gT_in 950 (by decide +kernel) rfl
def fPr_writesOf_4  : Nat → Nat → Nat → Int32 → Int32 → Sx → Option (Int32 × Sx)
  | 0, _, _, _, _, _ => none
  | n + 1, x0, x1, x2, x3, S =>
    (gI S 1 7 x0).bind fun v1 =>
    if v1 ≤ x3 then
    (some (x2, S))
    else
    ((ckd S x1 6).bind fun _ =>
    bd2 (fSp_isTest x1 S) fun r5 S6 =>
    if r5 = 0 then
    ((gX S6 1 3 x0).bind fun v7 =>
    (gI S6 6 0 x1).bind fun v9 =>
    (aX S6 4 v7 v9).bind fun v11 =>
    (gI S6 4 8 v11).bind fun v13 =>
    bd2 (fMp_hasBit v13 x3 S6) fun r16 S17 =>
    if r16 = 0 then
    (fPr_writesOf_4 n x0 x1 (x2 ||| 0) (x3 + 1) S17)
    else
    ((gX S17 1 2 x0).bind fun v18 =>
    (aX S17 3 v18 x3).bind fun v20 =>
    (ckd S17 v20 3).bind fun _ =>
    bd2 (fAc_writes v20 S17) fun r24 S25 =>
    fPr_writesOf_4 n x0 x1 (x2 ||| r24) (x3 + 1) S25))
    else
    (some (x2, S6)))
set_option maxRecDepth 100000 in
set_option maxHeartbeats 4000000 in
theorem wPr_writesOf_4 {Γ : vG} (hR : gR Γ = rPr_writesOf) (hl : (gl Γ).flags = pinnedFlags ++ [noTraceFlag]) {X : Int32 × Sx}  : ∀ (n : Nat) (x0 : Nat) (x1 : Nat) (x2 : Int32) (x3 : Int32) (S : Sx), fPr_writesOf_4  n x0 x1 x2 x3 S = some X → vV Γ tPr_writesOf (mQ Γ 0 0 0 (some (.int X.1)) X.2) S 0 0 4 [(0, .ref x0), (1, .ref x1), (2, .int x2), (3, .int x3)] [] := by
  intro n
  induction n with
  | zero => intro x0 x1 x2 x3 S h; rw [fPr_writesOf_4] at h; cases h
  | succ n ih =>
    intro x0 x1 x2 x3 S h
    rw [fPr_writesOf_4] at h
    refine v_iload_n (pc := 4) (show decode (tC tPr_writesOf) 4 = .ok (.iload_n 3, 1) by decide +kernel) 3 rfl rfl ?_
    refine v_aload_n (pc := 5) (show decode (tC tPr_writesOf) 5 = .ok (.aload_n 0, 1) by decide +kernel) 0 rfl rfl ?_
    obtain ⟨v1, e2, h⟩ := ob h
    refine v_getI (pc := 6) oF_Pr_50 (by decide) e2 (show decode (tC tPr_writesOf) 6 = .ok (.getfield 50, 3) by decide +kernel) ?_
    refine v_icmp_ge (pc := 9) 60 (show decode (tC tPr_writesOf) 9 = .ok (.if_icmp .ge 51, 3) by decide +kernel) (by decide) (fun c => ?_) (fun c => ?_)
    · replace h := ite_t c h
      refine v_iload_n (pc := 60) (show decode (tC tPr_writesOf) 60 = .ok (.iload_n 2, 1) by decide +kernel) 2 rfl rfl ?_
      obtain rfl := Option.some.inj h
      refine v_wide (ce2 := 0) (sl2 := 0) (by decide) (by decide) ?_
      exact v_iret (pc := 61) rfl (show decode (tC tPr_writesOf) 61 = .ok (.ireturn, 1) by decide +kernel)
    · replace h := ite_f c h
      refine v_aload_n (pc := 12) (show decode (tC tPr_writesOf) 12 = .ok (.aload_n 1, 1) by decide +kernel) 1 rfl rfl ?_
      obtain ⟨_, e4, h⟩ := ob h
      obtain ⟨r5, S6, e3, h⟩ := ob2 h
      refine v_call (pc := 13) (v := (some (.int r5))) (y := ySp_isTest) (θ' := tSp_isTest) (rm := rSp_isTest) (av := [.ref x1]) (st := []) (cSp_isTest (l := gl Γ) hl e3) kSp_isTest iSp_isTest (iv_virt (y := ySp_isTest) (θ' := tSp_isTest) (kd := 6) (As := []) rfl (ckd_of e4) kSp_isTest (gT_in 937 (by decide +kernel) rfl) nSp_isTest lSp_isTest mSp_isTest rfl (show decode (tC tPr_writesOf) 13 = .ok (.invokevirtual 69, 3) by decide +kernel)) ⟨by rw [hR]; decide, by rw [hR]; decide, by rw [hR]; decide, by rw [hR]; decide⟩ (Nat.le_of_ble_eq_true rfl) ?_
      refine v_if_ne (pc := 16) 60 (show decode (tC tPr_writesOf) 16 = .ok (.ifCond .ne 44, 3) by decide +kernel) (by decide) (fun c => ?_) (fun c => ?_)
      · replace h := ite_f c h
        refine v_iload_n (pc := 60) (show decode (tC tPr_writesOf) 60 = .ok (.iload_n 2, 1) by decide +kernel) 2 rfl rfl ?_
        obtain rfl := Option.some.inj h
        refine v_wide (ce2 := 0) (sl2 := 0) (by decide) (by decide) ?_
        exact v_iret (pc := 61) rfl (show decode (tC tPr_writesOf) 61 = .ok (.ireturn, 1) by decide +kernel)
      · replace h := ite_t c h
        refine v_iload_n (pc := 19) (show decode (tC tPr_writesOf) 19 = .ok (.iload_n 2, 1) by decide +kernel) 2 rfl rfl ?_
        refine v_aload_n (pc := 20) (show decode (tC tPr_writesOf) 20 = .ok (.aload_n 0, 1) by decide +kernel) 0 rfl rfl ?_
        obtain ⟨v7, e8, h⟩ := ob h
        refine v_getX (pc := 21) oF_Pr_29 e8 (show decode (tC tPr_writesOf) 21 = .ok (.getfield 29, 3) by decide +kernel) ?_
        refine v_aload_n (pc := 24) (show decode (tC tPr_writesOf) 24 = .ok (.aload_n 1, 1) by decide +kernel) 1 rfl rfl ?_
        obtain ⟨v9, e10, h⟩ := ob h
        refine v_getI (pc := 25) oF_Pr_76 (by decide) e10 (show decode (tC tPr_writesOf) 25 = .ok (.getfield 76, 3) by decide +kernel) ?_
        obtain ⟨v11, e12, h⟩ := ob h
        refine v_aald (pc := 28) (kd := 4) rfl e12 (show decode (tC tPr_writesOf) 28 = .ok (.aaload, 1) by decide +kernel) ?_
        obtain ⟨v13, e14, h⟩ := ob h
        refine v_getI (pc := 29) oF_Pr_85 (by decide) e14 (show decode (tC tPr_writesOf) 29 = .ok (.getfield 85, 3) by decide +kernel) ?_
        refine v_iload_n (pc := 32) (show decode (tC tPr_writesOf) 32 = .ok (.iload_n 3, 1) by decide +kernel) 3 rfl rfl ?_
        obtain ⟨r16, S17, e15, h⟩ := ob2 h
        refine v_call (pc := 33) (v := (some (.int r16))) (y := yMp_hasBit) (θ' := tMp_hasBit) (rm := rMp_hasBit) (av := [.int v13, .int x3]) (st := [.int x2]) (cMp_hasBit (l := gl Γ) hl e15) kMp_hasBit iMp_hasBit (iv_staticN (y := yMp_hasBit) (θ' := tMp_hasBit) (n := 2) (As := [.int v13, .int x3]) kMp_hasBit (List.mem_of_getElem? (l := nN) (i := 12) rfl) sMp_hasBit iMp_hasBit mMp_hasBit rfl (show decode (tC tPr_writesOf) 33 = .ok (.invokestatic 87, 3) by decide +kernel)) ⟨by rw [hR]; decide, by rw [hR]; decide, by rw [hR]; decide, by rw [hR]; decide⟩ (Nat.le_of_ble_eq_true rfl) ?_
        refine v_if_eq (pc := 36) 51 (show decode (tC tPr_writesOf) 36 = .ok (.ifCond .eq 15, 3) by decide +kernel) (by decide) (fun c => ?_) (fun c => ?_)
        · replace h := ite_t c h
          refine v_iconst (pc := 51) (v := 0) (show decode (tC tPr_writesOf) 51 = .ok (.iconst 0, 1) by decide +kernel) (by decide) ?_
          refine v_ior (pc := 52) (show decode (tC tPr_writesOf) 52 = .ok (.ior, 1) by decide +kernel) ?_
          refine v_istore_n (pc := 53) [(2, .int (x2 ||| 0)), (0, .ref x0), (1, .ref x1), (3, .int x3)] (show decode (tC tPr_writesOf) 53 = .ok (.istore_n 2, 1) by decide +kernel) rfl (by decide) rfl ?_
          refine v_iinc (pc := 54) (j := 3) [(3, .int (x3 + 1)), (2, .int (x2 ||| 0)), (0, .ref x0), (1, .ref x1)] (show decode (tC tPr_writesOf) 54 = .ok (.iinc 3 1, 3) by decide +kernel) rfl rfl (by decide) rfl ?_
          refine v_goto (pc := 57) 4 (show decode (tC tPr_writesOf) 57 = .ok (.goto (-53), 3) by decide +kernel) (by decide) ?_
          refine v_sub [(0, .ref x0), (1, .ref x1), (2, .int (x2 ||| 0)), (3, .int (x3 + 1))] [2, 3, 1, 0] rfl ?_
          exact ih x0 x1 (x2 ||| 0) (x3 + 1) S17 h
        · replace h := ite_f c h
          refine v_aload_n (pc := 39) (show decode (tC tPr_writesOf) 39 = .ok (.aload_n 0, 1) by decide +kernel) 0 rfl rfl ?_
          obtain ⟨v18, e19, h⟩ := ob h
          refine v_getX (pc := 40) oF_Pr_23 e19 (show decode (tC tPr_writesOf) 40 = .ok (.getfield 23, 3) by decide +kernel) ?_
          refine v_iload_n (pc := 43) (show decode (tC tPr_writesOf) 43 = .ok (.iload_n 3, 1) by decide +kernel) 3 rfl rfl ?_
          obtain ⟨v20, e21, h⟩ := ob h
          refine v_aald (pc := 44) (kd := 3) rfl e21 (show decode (tC tPr_writesOf) 44 = .ok (.aaload, 1) by decide +kernel) ?_
          obtain ⟨_, e23, h⟩ := ob h
          obtain ⟨r24, S25, e22, h⟩ := ob2 h
          refine v_call (pc := 45) (v := (some (.int r24))) (y := yAc_writes) (θ' := tAc_writes) (rm := rAc_writes) (av := [.ref v20]) (st := [.int x2]) (cAc_writes (l := gl Γ) hl e22) kAc_writes iAc_writes (iv_virt (y := yAc_writes) (θ' := tAc_writes) (kd := 3) (As := []) rfl (ckd_of e23) kAc_writes (gT_in 952 (by decide +kernel) rfl) nAc_writes lAc_writes mAc_writes rfl (show decode (tC tPr_writesOf) 45 = .ok (.invokevirtual 95, 3) by decide +kernel)) ⟨by rw [hR]; decide, by rw [hR]; decide, by rw [hR]; decide, by rw [hR]; decide⟩ (Nat.le_of_ble_eq_true rfl) ?_
          refine v_goto (pc := 48) 52 (show decode (tC tPr_writesOf) 48 = .ok (.goto 4, 3) by decide +kernel) (by decide) ?_
          refine v_ior (pc := 52) (show decode (tC tPr_writesOf) 52 = .ok (.ior, 1) by decide +kernel) ?_
          refine v_istore_n (pc := 53) [(2, .int (x2 ||| r24)), (0, .ref x0), (1, .ref x1), (3, .int x3)] (show decode (tC tPr_writesOf) 53 = .ok (.istore_n 2, 1) by decide +kernel) rfl (by decide) rfl ?_
          refine v_iinc (pc := 54) (j := 3) [(3, .int (x3 + 1)), (2, .int (x2 ||| r24)), (0, .ref x0), (1, .ref x1)] (show decode (tC tPr_writesOf) 54 = .ok (.iinc 3 1, 3) by decide +kernel) rfl rfl (by decide) rfl ?_
          refine v_goto (pc := 57) 4 (show decode (tC tPr_writesOf) 57 = .ok (.goto (-53), 3) by decide +kernel) (by decide) ?_
          refine v_sub [(0, .ref x0), (1, .ref x1), (2, .int (x2 ||| r24)), (3, .int (x3 + 1))] [2, 3, 1, 0] rfl ?_
          exact ih x0 x1 (x2 ||| r24) (x3 + 1) S25 h
def fPr_writesOf (x0 : Nat) (x1 : Nat) (S : Sx) : Option (Int32 × Sx) :=
    fPr_writesOf_4  fuel x0 x1 0 0 S
set_option maxRecDepth 100000 in
set_option maxHeartbeats 4000000 in
theorem wPr_writesOf {Γ : vG} (hR : gR Γ = rPr_writesOf) (hl : (gl Γ).flags = pinnedFlags ++ [noTraceFlag]) (x0 : Nat) (x1 : Nat) (S : Sx) {X : Int32 × Sx} (h : fPr_writesOf x0 x1 S = some X) : vV Γ tPr_writesOf (mQ Γ 0 0 0 (some (.int X.1)) X.2) S 0 0 0 [(0, .ref x0), (1, .ref x1)] [] := by
  unfold fPr_writesOf at h
  refine v_iconst (pc := 0) (v := 0) (show decode (tC tPr_writesOf) 0 = .ok (.iconst 0, 1) by decide +kernel) (by decide) ?_
  refine v_istore_n (pc := 1) [(2, .int 0), (0, .ref x0), (1, .ref x1)] (show decode (tC tPr_writesOf) 1 = .ok (.istore_n 2, 1) by decide +kernel) rfl (by decide) rfl ?_
  refine v_iconst (pc := 2) (v := 0) (show decode (tC tPr_writesOf) 2 = .ok (.iconst 0, 1) by decide +kernel) (by decide) ?_
  refine v_istore_n (pc := 3) [(3, .int 0), (2, .int 0), (0, .ref x0), (1, .ref x1)] (show decode (tC tPr_writesOf) 3 = .ok (.istore_n 3, 1) by decide +kernel) rfl (by decide) rfl ?_
  refine v_sub [(0, .ref x0), (1, .ref x1), (2, .int 0), (3, .int 0)] [2, 3, 1, 0] rfl ?_
  exact wPr_writesOf_4 hR hl  fuel x0 x1 0 0 S h
theorem cPr_writesOf {l : Launch} (hl : l.flags = pinnedFlags ++ [noTraceFlag]) {D : va_G} {dA : Nat → ClassId} {B : Nat} {x0 : Nat} {x1 : Nat} {S : Sx} {X : Int32 × Sx} (h : fPr_writesOf x0 x1 S = some X) : Mx l yPr_writesOf tPr_writesOf rPr_writesOf 0 0 D dA B S [.ref x0, .ref x1] 0 (some (.int X.1)) X.2 :=
  mx_of hl (by decide) rfl rfl (Nat.le_of_ble_eq_true rfl) (fun Γ e1 e2 e3 e4 e5 => by subst e1; subst e3; subst e4; subst e5; exact wPr_writesOf e2 hl x0 x1 S h)
