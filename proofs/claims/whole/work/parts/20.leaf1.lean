theorem oF_En_7 : okF "MatchPipe$Entry" 7 5 0 0 := ⟨_, rfl, by decide, gT_in 183 (by decide +kernel) rfl, rfl⟩
theorem oF_En_13 : okF "MatchPipe$Entry" 13 5 1 0 := ⟨_, rfl, by decide, gT_in 184 (by decide +kernel) rfl, rfl⟩
theorem oF_En_16 : okF "MatchPipe$Entry" 16 5 2 0 := ⟨_, rfl, by decide, gT_in 186 (by decide +kernel) rfl, rfl⟩
theorem oF_En_19 : okF "MatchPipe$Entry" 19 5 3 0 := ⟨_, rfl, by decide, gT_in 187 (by decide +kernel) rfl, rfl⟩
theorem oF_En_22 : okF "MatchPipe$Entry" 22 5 4 0 := ⟨_, rfl, by decide, gT_in 189 (by decide +kernel) rfl, rfl⟩
theorem oF_En_25 : okF "MatchPipe$Entry" 25 5 5 0 := ⟨_, rfl, by decide, gT_in 191 (by decide +kernel) rfl, rfl⟩
theorem oF_En_28 : okF "MatchPipe$Entry" 28 5 6 0 := ⟨_, rfl, by decide, gT_in 194 (by decide +kernel) rfl, rfl⟩
theorem oF_En_31 : okF "MatchPipe$Entry" 31 5 7 0 := ⟨_, rfl, by decide, gT_in 196 (by decide +kernel) rfl, rfl⟩
theorem oF_Sp_9 : okF "MatchPipe$Step" 9 6 0 0 := ⟨_, rfl, by decide, gT_in 258 (by decide +kernel) rfl, rfl⟩
theorem oF_Sp_15 : okF "MatchPipe$Step" 15 6 1 0 := ⟨_, rfl, by decide, gT_in 262 (by decide +kernel) rfl, rfl⟩
theorem oF_Sp_18 : okF "MatchPipe$Step" 18 6 2 0 := ⟨_, rfl, by decide, gT_in 265 (by decide +kernel) rfl, rfl⟩
theorem oF_Sp_21 : okF "MatchPipe$Step" 21 6 3 0 := ⟨_, rfl, by decide, gT_in 266 (by decide +kernel) rfl, rfl⟩
theorem oF_Sp_24 : okF "MatchPipe$Step" 24 6 4 0 := ⟨_, rfl, by decide, gT_in 267 (by decide +kernel) rfl, rfl⟩
/-! MatchPipe$Entry.setKey(IIII)V -/
def yEn_setKey : MethodName := ⟨"MatchPipe$Entry", "setKey", "(IIII)V"⟩
def tEn_setKey : tM := (prog_4_method_2_code, "MatchPipe$Entry", 5, "setKey", none, [])
def rEn_setKey : Room := { frames := 0, cells := 0, slots := 0, locals := 0 }
theorem kEn_setKey : cOf yEn_setKey tEn_setKey ∈ gT := gT_in 546 (by decide +kernel) rfl
theorem iEn_setKey : Cond.initialized yEn_setKey.cls ∈ gT := gT_in 61 (by decide +kernel) rfl
theorem mEn_setKey : okM yEn_setKey 4 := ⟨by decide, by decide, by unfold nPar; decide +kernel⟩
theorem nEn_setKey : Cond.instanceMethod yEn_setKey ∈ gT := gT_in 544 (by decide +kernel) rfl
theorem lEn_setKey : Cond.selects "MatchPipe$Entry" yEn_setKey yEn_setKey ∈ gT := gT_in 545 (by decide +kernel) rfl
def fEn_setKey (x0 : Nat) (x1 : Int32) (x2 : Int32) (x3 : Int32) (x4 : Int32) (S : Sx) : Option (Sx) :=
    (pI S 5 0 x0 x1).bind fun S1 =>
    (pI S1 5 1 x0 x2).bind fun S3 =>
    (pI S3 5 2 x0 x3).bind fun S5 =>
    (pI S5 5 3 x0 x4).bind fun S7 =>
    some S7
set_option maxRecDepth 100000 in
set_option maxHeartbeats 4000000 in
theorem wEn_setKey {Γ : vG} (hR : gR Γ = rEn_setKey) (hl : (gl Γ).flags = pinnedFlags ++ [noTraceFlag]) (x0 : Nat) (x1 : Int32) (x2 : Int32) (x3 : Int32) (x4 : Int32) (S : Sx) {X : Sx} (h : fEn_setKey x0 x1 x2 x3 x4 S = some X) : vV Γ tEn_setKey (mQ Γ 0 0 0 none X) S 0 0 0 [(0, .ref x0), (1, .int x1), (2, .int x2), (3, .int x3), (4, .int x4)] [] := by
  unfold fEn_setKey at h
  refine v_aload_n (pc := 0) (show decode (tC tEn_setKey) 0 = .ok (.aload_n 0, 1) by decide +kernel) 0 rfl rfl ?_
  refine v_iload_n (pc := 1) (show decode (tC tEn_setKey) 1 = .ok (.iload_n 1, 1) by decide +kernel) 1 rfl rfl ?_
  obtain ⟨S1, e2, h⟩ := ob h
  refine v_putI (pc := 2) oF_En_7 (fin_ok (kd := 5) (k := 0) (by decide +kernel)) e2 (show decode (tC tEn_setKey) 2 = .ok (.putfield 7, 3) by decide +kernel) ?_
  refine v_aload_n (pc := 5) (show decode (tC tEn_setKey) 5 = .ok (.aload_n 0, 1) by decide +kernel) 0 rfl rfl ?_
  refine v_iload_n (pc := 6) (show decode (tC tEn_setKey) 6 = .ok (.iload_n 2, 1) by decide +kernel) 2 rfl rfl ?_
  obtain ⟨S3, e4, h⟩ := ob h
  refine v_putI (pc := 7) oF_En_13 (fin_ok (kd := 5) (k := 1) (by decide +kernel)) e4 (show decode (tC tEn_setKey) 7 = .ok (.putfield 13, 3) by decide +kernel) ?_
  refine v_aload_n (pc := 10) (show decode (tC tEn_setKey) 10 = .ok (.aload_n 0, 1) by decide +kernel) 0 rfl rfl ?_
  refine v_iload_n (pc := 11) (show decode (tC tEn_setKey) 11 = .ok (.iload_n 3, 1) by decide +kernel) 3 rfl rfl ?_
  obtain ⟨S5, e6, h⟩ := ob h
  refine v_putI (pc := 12) oF_En_16 (fin_ok (kd := 5) (k := 2) (by decide +kernel)) e6 (show decode (tC tEn_setKey) 12 = .ok (.putfield 16, 3) by decide +kernel) ?_
  refine v_aload_n (pc := 15) (show decode (tC tEn_setKey) 15 = .ok (.aload_n 0, 1) by decide +kernel) 0 rfl rfl ?_
  refine v_iload (pc := 16) (show decode (tC tEn_setKey) 16 = .ok (.iload 4, 2) by decide +kernel) 4 rfl ?_
  obtain ⟨S7, e8, h⟩ := ob h
  refine v_putI (pc := 18) oF_En_19 (fin_ok (kd := 5) (k := 3) (by decide +kernel)) e8 (show decode (tC tEn_setKey) 18 = .ok (.putfield 19, 3) by decide +kernel) ?_
  obtain rfl := Option.some.inj h
  refine v_wide (ce2 := 0) (sl2 := 0) (by decide) (by decide) ?_
  exact v_vret (pc := 21) rfl (show decode (tC tEn_setKey) 21 = .ok (.return_, 1) by decide +kernel)
theorem cEn_setKey {l : Launch} (hl : l.flags = pinnedFlags ++ [noTraceFlag]) {D : va_G} {dA : Nat → ClassId} {B : Nat} {x0 : Nat} {x1 : Int32} {x2 : Int32} {x3 : Int32} {x4 : Int32} {S : Sx} {X : Sx} (h : fEn_setKey x0 x1 x2 x3 x4 S = some X) : Mx l yEn_setKey tEn_setKey rEn_setKey 0 0 D dA B S [.ref x0, .int x1, .int x2, .int x3, .int x4] 0 none X :=
  mx_of hl (by decide) rfl rfl (Nat.le_of_ble_eq_true rfl) (fun Γ e1 e2 e3 e4 e5 => by subst e1; subst e3; subst e4; subst e5; exact wEn_setKey e2 hl x0 x1 x2 x3 x4 S h)
/-! MatchPipe$Step.beTable(I)V -/
def ySp_beTable : MethodName := ⟨"MatchPipe$Step", "beTable", "(I)V"⟩
def tSp_beTable : tM := (prog_11_method_2_code, "MatchPipe$Step", 2, "beTable", none, [])
def rSp_beTable : Room := { frames := 0, cells := 0, slots := 0, locals := 0 }
theorem kSp_beTable : cOf ySp_beTable tSp_beTable ∈ gT := gT_in 870 (by decide +kernel) rfl
theorem iSp_beTable : Cond.initialized ySp_beTable.cls ∈ gT := gT_in 62 (by decide +kernel) rfl
theorem mSp_beTable : okM ySp_beTable 1 := ⟨by decide, by decide, by unfold nPar; decide +kernel⟩
theorem nSp_beTable : Cond.instanceMethod ySp_beTable ∈ gT := gT_in 868 (by decide +kernel) rfl
theorem lSp_beTable : Cond.selects "MatchPipe$Step" ySp_beTable ySp_beTable ∈ gT := gT_in 869 (by decide +kernel) rfl
def fSp_beTable (x0 : Nat) (x1 : Int32) (S : Sx) : Option (Sx) :=
    (pI S 6 0 x0 x1).bind fun S1 =>
    some S1
set_option maxRecDepth 100000 in
set_option maxHeartbeats 4000000 in
theorem wSp_beTable {Γ : vG} (hR : gR Γ = rSp_beTable) (hl : (gl Γ).flags = pinnedFlags ++ [noTraceFlag]) (x0 : Nat) (x1 : Int32) (S : Sx) {X : Sx} (h : fSp_beTable x0 x1 S = some X) : vV Γ tSp_beTable (mQ Γ 0 0 0 none X) S 0 0 0 [(0, .ref x0), (1, .int x1)] [] := by
  unfold fSp_beTable at h
  refine v_aload_n (pc := 0) (show decode (tC tSp_beTable) 0 = .ok (.aload_n 0, 1) by decide +kernel) 0 rfl rfl ?_
  refine v_iload_n (pc := 1) (show decode (tC tSp_beTable) 1 = .ok (.iload_n 1, 1) by decide +kernel) 1 rfl rfl ?_
  obtain ⟨S1, e2, h⟩ := ob h
  refine v_putI (pc := 2) oF_Sp_9 (fin_ok (kd := 6) (k := 0) (by decide +kernel)) e2 (show decode (tC tSp_beTable) 2 = .ok (.putfield 9, 3) by decide +kernel) ?_
  obtain rfl := Option.some.inj h
  refine v_wide (ce2 := 0) (sl2 := 0) (by decide) (by decide) ?_
  exact v_vret (pc := 5) rfl (show decode (tC tSp_beTable) 5 = .ok (.return_, 1) by decide +kernel)
theorem cSp_beTable {l : Launch} (hl : l.flags = pinnedFlags ++ [noTraceFlag]) {D : va_G} {dA : Nat → ClassId} {B : Nat} {x0 : Nat} {x1 : Int32} {S : Sx} {X : Sx} (h : fSp_beTable x0 x1 S = some X) : Mx l ySp_beTable tSp_beTable rSp_beTable 0 0 D dA B S [.ref x0, .int x1] 0 none X :=
  mx_of hl (by decide) rfl rfl (Nat.le_of_ble_eq_true rfl) (fun Γ e1 e2 e3 e4 e5 => by subst e1; subst e3; subst e4; subst e5; exact wSp_beTable e2 hl x0 x1 S h)
/-! MatchPipe$Step.beTest(IIII)V -/
def ySp_beTest : MethodName := ⟨"MatchPipe$Step", "beTest", "(IIII)V"⟩
def tSp_beTest : tM := (prog_11_method_3_code, "MatchPipe$Step", 5, "beTest", none, [])
def rSp_beTest : Room := { frames := 0, cells := 0, slots := 0, locals := 0 }
theorem kSp_beTest : cOf ySp_beTest tSp_beTest ∈ gT := gT_in 882 (by decide +kernel) rfl
theorem iSp_beTest : Cond.initialized ySp_beTest.cls ∈ gT := gT_in 62 (by decide +kernel) rfl
theorem mSp_beTest : okM ySp_beTest 4 := ⟨by decide, by decide, by unfold nPar; decide +kernel⟩
theorem nSp_beTest : Cond.instanceMethod ySp_beTest ∈ gT := gT_in 880 (by decide +kernel) rfl
theorem lSp_beTest : Cond.selects "MatchPipe$Step" ySp_beTest ySp_beTest ∈ gT := gT_in 881 (by decide +kernel) rfl
def fSp_beTest (x0 : Nat) (x1 : Int32) (x2 : Int32) (x3 : Int32) (x4 : Int32) (S : Sx) : Option (Sx) :=
    (pI S 6 0 x0 (-1)).bind fun S1 =>
    (pI S1 6 1 x0 x1).bind fun S3 =>
    (pI S3 6 2 x0 x2).bind fun S5 =>
    (pI S5 6 3 x0 x3).bind fun S7 =>
    (pI S7 6 4 x0 x4).bind fun S9 =>
    some S9
set_option maxRecDepth 100000 in
set_option maxHeartbeats 4000000 in
theorem wSp_beTest {Γ : vG} (hR : gR Γ = rSp_beTest) (hl : (gl Γ).flags = pinnedFlags ++ [noTraceFlag]) (x0 : Nat) (x1 : Int32) (x2 : Int32) (x3 : Int32) (x4 : Int32) (S : Sx) {X : Sx} (h : fSp_beTest x0 x1 x2 x3 x4 S = some X) : vV Γ tSp_beTest (mQ Γ 0 0 0 none X) S 0 0 0 [(0, .ref x0), (1, .int x1), (2, .int x2), (3, .int x3), (4, .int x4)] [] := by
  unfold fSp_beTest at h
  refine v_aload_n (pc := 0) (show decode (tC tSp_beTest) 0 = .ok (.aload_n 0, 1) by decide +kernel) 0 rfl rfl ?_
  refine v_iconst (pc := 1) (v := (-1)) (show decode (tC tSp_beTest) 1 = .ok (.iconst (-1), 1) by decide +kernel) (by decide) ?_
  obtain ⟨S1, e2, h⟩ := ob h
  refine v_putI (pc := 2) oF_Sp_9 (fin_ok (kd := 6) (k := 0) (by decide +kernel)) e2 (show decode (tC tSp_beTest) 2 = .ok (.putfield 9, 3) by decide +kernel) ?_
  refine v_aload_n (pc := 5) (show decode (tC tSp_beTest) 5 = .ok (.aload_n 0, 1) by decide +kernel) 0 rfl rfl ?_
  refine v_iload_n (pc := 6) (show decode (tC tSp_beTest) 6 = .ok (.iload_n 1, 1) by decide +kernel) 1 rfl rfl ?_
  obtain ⟨S3, e4, h⟩ := ob h
  refine v_putI (pc := 7) oF_Sp_15 (fin_ok (kd := 6) (k := 1) (by decide +kernel)) e4 (show decode (tC tSp_beTest) 7 = .ok (.putfield 15, 3) by decide +kernel) ?_
  refine v_aload_n (pc := 10) (show decode (tC tSp_beTest) 10 = .ok (.aload_n 0, 1) by decide +kernel) 0 rfl rfl ?_
  refine v_iload_n (pc := 11) (show decode (tC tSp_beTest) 11 = .ok (.iload_n 2, 1) by decide +kernel) 2 rfl rfl ?_
  obtain ⟨S5, e6, h⟩ := ob h
  refine v_putI (pc := 12) oF_Sp_18 (fin_ok (kd := 6) (k := 2) (by decide +kernel)) e6 (show decode (tC tSp_beTest) 12 = .ok (.putfield 18, 3) by decide +kernel) ?_
  refine v_aload_n (pc := 15) (show decode (tC tSp_beTest) 15 = .ok (.aload_n 0, 1) by decide +kernel) 0 rfl rfl ?_
  refine v_iload_n (pc := 16) (show decode (tC tSp_beTest) 16 = .ok (.iload_n 3, 1) by decide +kernel) 3 rfl rfl ?_
  obtain ⟨S7, e8, h⟩ := ob h
  refine v_putI (pc := 17) oF_Sp_21 (fin_ok (kd := 6) (k := 3) (by decide +kernel)) e8 (show decode (tC tSp_beTest) 17 = .ok (.putfield 21, 3) by decide +kernel) ?_
  refine v_aload_n (pc := 20) (show decode (tC tSp_beTest) 20 = .ok (.aload_n 0, 1) by decide +kernel) 0 rfl rfl ?_
  refine v_iload (pc := 21) (show decode (tC tSp_beTest) 21 = .ok (.iload 4, 2) by decide +kernel) 4 rfl ?_
  obtain ⟨S9, e10, h⟩ := ob h
  refine v_putI (pc := 23) oF_Sp_24 (fin_ok (kd := 6) (k := 4) (by decide +kernel)) e10 (show decode (tC tSp_beTest) 23 = .ok (.putfield 24, 3) by decide +kernel) ?_
  obtain rfl := Option.some.inj h
  refine v_wide (ce2 := 0) (sl2 := 0) (by decide) (by decide) ?_
  exact v_vret (pc := 26) rfl (show decode (tC tSp_beTest) 26 = .ok (.return_, 1) by decide +kernel)
theorem cSp_beTest {l : Launch} (hl : l.flags = pinnedFlags ++ [noTraceFlag]) {D : va_G} {dA : Nat → ClassId} {B : Nat} {x0 : Nat} {x1 : Int32} {x2 : Int32} {x3 : Int32} {x4 : Int32} {S : Sx} {X : Sx} (h : fSp_beTest x0 x1 x2 x3 x4 S = some X) : Mx l ySp_beTest tSp_beTest rSp_beTest 0 0 D dA B S [.ref x0, .int x1, .int x2, .int x3, .int x4] 0 none X :=
  mx_of hl (by decide) rfl rfl (Nat.le_of_ble_eq_true rfl) (fun Γ e1 e2 e3 e4 e5 => by subst e1; subst e3; subst e4; subst e5; exact wSp_beTest e2 hl x0 x1 x2 x3 x4 S h)
/-! MatchPipe$Step.isTest()Z -/
def ySp_isTest : MethodName := ⟨"MatchPipe$Step", "isTest", "()Z"⟩
def tSp_isTest : tM := (prog_11_method_4_code, "MatchPipe$Step", 1, "isTest", some .boolean, [])
def rSp_isTest : Room := { frames := 0, cells := 0, slots := 0, locals := 0 }
theorem kSp_isTest : cOf ySp_isTest tSp_isTest ∈ gT := gT_in 926 (by decide +kernel) rfl
theorem iSp_isTest : Cond.initialized ySp_isTest.cls ∈ gT := gT_in 62 (by decide +kernel) rfl
theorem mSp_isTest : okM ySp_isTest 0 := ⟨by decide, by decide, by unfold nPar; decide +kernel⟩
theorem nSp_isTest : Cond.instanceMethod ySp_isTest ∈ gT := gT_in 924 (by decide +kernel) rfl
theorem lSp_isTest : Cond.selects "MatchPipe$Step" ySp_isTest ySp_isTest ∈ gT := gT_in 925 (by decide +kernel) rfl
def fSp_isTest (x0 : Nat) (S : Sx) : Option (Int32 × Sx) :=
    (gI S 6 0 x0).bind fun v1 =>
    if v1 = (-1) then
    (some (1, S))
    else
    (some (0, S))
set_option maxRecDepth 100000 in
set_option maxHeartbeats 4000000 in
theorem wSp_isTest {Γ : vG} (hR : gR Γ = rSp_isTest) (hl : (gl Γ).flags = pinnedFlags ++ [noTraceFlag]) (x0 : Nat) (S : Sx) {X : Int32 × Sx} (h : fSp_isTest x0 S = some X) : vV Γ tSp_isTest (mQ Γ 0 0 0 (some (.int X.1)) X.2) S 0 0 0 [(0, .ref x0)] [] := by
  unfold fSp_isTest at h
  refine v_aload_n (pc := 0) (show decode (tC tSp_isTest) 0 = .ok (.aload_n 0, 1) by decide +kernel) 0 rfl rfl ?_
  obtain ⟨v1, e2, h⟩ := ob h
  refine v_getI (pc := 1) oF_Sp_9 (by decide) e2 (show decode (tC tSp_isTest) 1 = .ok (.getfield 9, 3) by decide +kernel) ?_
  refine v_iconst (pc := 4) (v := (-1)) (show decode (tC tSp_isTest) 4 = .ok (.iconst (-1), 1) by decide +kernel) (by decide) ?_
  refine v_icmp_ne (pc := 5) 12 (show decode (tC tSp_isTest) 5 = .ok (.if_icmp .ne 7, 3) by decide +kernel) (by decide) (fun c => ?_) (fun c => ?_)
  · replace h := ite_f c h
    refine v_iconst (pc := 12) (v := 0) (show decode (tC tSp_isTest) 12 = .ok (.iconst 0, 1) by decide +kernel) (by decide) ?_
    obtain rfl := Option.some.inj h
    refine v_wide (ce2 := 0) (sl2 := 0) (by decide) (by decide) ?_
    exact v_zret (pc := 13) rfl (Or.inl rfl) (show decode (tC tSp_isTest) 13 = .ok (.ireturn, 1) by decide +kernel)
  · replace h := ite_t c h
    refine v_iconst (pc := 8) (v := 1) (show decode (tC tSp_isTest) 8 = .ok (.iconst 1, 1) by decide +kernel) (by decide) ?_
    refine v_goto (pc := 9) 13 (show decode (tC tSp_isTest) 9 = .ok (.goto 4, 3) by decide +kernel) (by decide) ?_
    obtain rfl := Option.some.inj h
    refine v_wide (ce2 := 0) (sl2 := 0) (by decide) (by decide) ?_
    exact v_zret (pc := 13) rfl (Or.inr rfl) (show decode (tC tSp_isTest) 13 = .ok (.ireturn, 1) by decide +kernel)
theorem cSp_isTest {l : Launch} (hl : l.flags = pinnedFlags ++ [noTraceFlag]) {D : va_G} {dA : Nat → ClassId} {B : Nat} {x0 : Nat} {S : Sx} {X : Int32 × Sx} (h : fSp_isTest x0 S = some X) : Mx l ySp_isTest tSp_isTest rSp_isTest 0 0 D dA B S [.ref x0] 0 (some (.int X.1)) X.2 :=
  mx_of hl (by decide) rfl rfl (Nat.le_of_ble_eq_true rfl) (fun Γ e1 e2 e3 e4 e5 => by subst e1; subst e3; subst e4; subst e5; exact wSp_isTest e2 hl x0 S h)
/-! MatchPipe$Entry.setContent(IIII)V -/
def yEn_setContent : MethodName := ⟨"MatchPipe$Entry", "setContent", "(IIII)V"⟩
def tEn_setContent : tM := (prog_4_method_3_code, "MatchPipe$Entry", 5, "setContent", none, [])
def rEn_setContent : Room := { frames := 0, cells := 0, slots := 0, locals := 0 }
theorem kEn_setContent : cOf yEn_setContent tEn_setContent ∈ gT := gT_in 1015 (by decide +kernel) rfl
theorem iEn_setContent : Cond.initialized yEn_setContent.cls ∈ gT := gT_in 61 (by decide +kernel) rfl
theorem mEn_setContent : okM yEn_setContent 4 := ⟨by decide, by decide, by unfold nPar; decide +kernel⟩
theorem nEn_setContent : Cond.instanceMethod yEn_setContent ∈ gT := gT_in 1013 (by decide +kernel) rfl
theorem lEn_setContent : Cond.selects "MatchPipe$Entry" yEn_setContent yEn_setContent ∈ gT := gT_in 1014 (by decide +kernel) rfl
def fEn_setContent (x0 : Nat) (x1 : Int32) (x2 : Int32) (x3 : Int32) (x4 : Int32) (S : Sx) : Option (Sx) :=
    (pI S 5 4 x0 x1).bind fun S1 =>
    (pI S1 5 5 x0 x2).bind fun S3 =>
    (pI S3 5 6 x0 x3).bind fun S5 =>
    (pI S5 5 7 x0 x4).bind fun S7 =>
    some S7
set_option maxRecDepth 100000 in
set_option maxHeartbeats 4000000 in
theorem wEn_setContent {Γ : vG} (hR : gR Γ = rEn_setContent) (hl : (gl Γ).flags = pinnedFlags ++ [noTraceFlag]) (x0 : Nat) (x1 : Int32) (x2 : Int32) (x3 : Int32) (x4 : Int32) (S : Sx) {X : Sx} (h : fEn_setContent x0 x1 x2 x3 x4 S = some X) : vV Γ tEn_setContent (mQ Γ 0 0 0 none X) S 0 0 0 [(0, .ref x0), (1, .int x1), (2, .int x2), (3, .int x3), (4, .int x4)] [] := by
  unfold fEn_setContent at h
  refine v_aload_n (pc := 0) (show decode (tC tEn_setContent) 0 = .ok (.aload_n 0, 1) by decide +kernel) 0 rfl rfl ?_
  refine v_iload_n (pc := 1) (show decode (tC tEn_setContent) 1 = .ok (.iload_n 1, 1) by decide +kernel) 1 rfl rfl ?_
  obtain ⟨S1, e2, h⟩ := ob h
  refine v_putI (pc := 2) oF_En_22 (fin_ok (kd := 5) (k := 4) (by decide +kernel)) e2 (show decode (tC tEn_setContent) 2 = .ok (.putfield 22, 3) by decide +kernel) ?_
  refine v_aload_n (pc := 5) (show decode (tC tEn_setContent) 5 = .ok (.aload_n 0, 1) by decide +kernel) 0 rfl rfl ?_
  refine v_iload_n (pc := 6) (show decode (tC tEn_setContent) 6 = .ok (.iload_n 2, 1) by decide +kernel) 2 rfl rfl ?_
  obtain ⟨S3, e4, h⟩ := ob h
  refine v_putI (pc := 7) oF_En_25 (fin_ok (kd := 5) (k := 5) (by decide +kernel)) e4 (show decode (tC tEn_setContent) 7 = .ok (.putfield 25, 3) by decide +kernel) ?_
  refine v_aload_n (pc := 10) (show decode (tC tEn_setContent) 10 = .ok (.aload_n 0, 1) by decide +kernel) 0 rfl rfl ?_
  refine v_iload_n (pc := 11) (show decode (tC tEn_setContent) 11 = .ok (.iload_n 3, 1) by decide +kernel) 3 rfl rfl ?_
  obtain ⟨S5, e6, h⟩ := ob h
  refine v_putI (pc := 12) oF_En_28 (fin_ok (kd := 5) (k := 6) (by decide +kernel)) e6 (show decode (tC tEn_setContent) 12 = .ok (.putfield 28, 3) by decide +kernel) ?_
  refine v_aload_n (pc := 15) (show decode (tC tEn_setContent) 15 = .ok (.aload_n 0, 1) by decide +kernel) 0 rfl rfl ?_
  refine v_iload (pc := 16) (show decode (tC tEn_setContent) 16 = .ok (.iload 4, 2) by decide +kernel) 4 rfl ?_
  obtain ⟨S7, e8, h⟩ := ob h
  refine v_putI (pc := 18) oF_En_31 (fin_ok (kd := 5) (k := 7) (by decide +kernel)) e8 (show decode (tC tEn_setContent) 18 = .ok (.putfield 31, 3) by decide +kernel) ?_
  obtain rfl := Option.some.inj h
  refine v_wide (ce2 := 0) (sl2 := 0) (by decide) (by decide) ?_
  exact v_vret (pc := 21) rfl (show decode (tC tEn_setContent) 21 = .ok (.return_, 1) by decide +kernel)
theorem cEn_setContent {l : Launch} (hl : l.flags = pinnedFlags ++ [noTraceFlag]) {D : va_G} {dA : Nat → ClassId} {B : Nat} {x0 : Nat} {x1 : Int32} {x2 : Int32} {x3 : Int32} {x4 : Int32} {S : Sx} {X : Sx} (h : fEn_setContent x0 x1 x2 x3 x4 S = some X) : Mx l yEn_setContent tEn_setContent rEn_setContent 0 0 D dA B S [.ref x0, .int x1, .int x2, .int x3, .int x4] 0 none X :=
  mx_of hl (by decide) rfl rfl (Nat.le_of_ble_eq_true rfl) (fun Γ e1 e2 e3 e4 e5 => by subst e1; subst e3; subst e4; subst e5; exact wEn_setContent e2 hl x0 x1 x2 x3 x4 S h)
/-! MatchPipe$Entry.copy(LMatchPipe$Entry;)V -/
def yEn_copy : MethodName := ⟨"MatchPipe$Entry", "copy", "(LMatchPipe$Entry;)V"⟩
def tEn_copy : tM := (prog_4_method_4_code, "MatchPipe$Entry", 2, "copy", none, [])
def rEn_copy : Room := { frames := 1, cells := 0, slots := 0, locals := 24 }
theorem kEn_copy : cOf yEn_copy tEn_copy ∈ gT := gT_in 1010 (by decide +kernel) rfl
theorem iEn_copy : Cond.initialized yEn_copy.cls ∈ gT := gT_in 61 (by decide +kernel) rfl
theorem mEn_copy : okM yEn_copy 1 := ⟨by decide, by decide, by unfold nPar; decide +kernel⟩
theorem nEn_copy : Cond.instanceMethod yEn_copy ∈ gT := gT_in 1008 (by decide +kernel) rfl
theorem lEn_copy : Cond.selects "MatchPipe$Entry" yEn_copy yEn_copy ∈ gT := gT_in 1009 (by decide +kernel) rfl
def fEn_copy (x0 : Nat) (x1 : Nat) (S : Sx) : Option (Sx) :=
    (gI S 5 0 x1).bind fun v1 =>
    (gI S 5 1 x1).bind fun v3 =>
    (gI S 5 2 x1).bind fun v5 =>
    (gI S 5 3 x1).bind fun v7 =>
    (ckd S x0 5).bind fun _ =>
    (fEn_setKey x0 v1 v3 v5 v7 S).bind fun S11 =>
    (gI S11 5 4 x1).bind fun v12 =>
    (gI S11 5 5 x1).bind fun v14 =>
    (gI S11 5 6 x1).bind fun v16 =>
    (gI S11 5 7 x1).bind fun v18 =>
    (ckd S11 x0 5).bind fun _ =>
    (fEn_setContent x0 v12 v14 v16 v18 S11).bind fun S22 =>
    some S22
set_option maxRecDepth 100000 in
set_option maxHeartbeats 4000000 in
theorem wEn_copy {Γ : vG} (hR : gR Γ = rEn_copy) (hl : (gl Γ).flags = pinnedFlags ++ [noTraceFlag]) (x0 : Nat) (x1 : Nat) (S : Sx) {X : Sx} (h : fEn_copy x0 x1 S = some X) : vV Γ tEn_copy (mQ Γ 0 0 0 none X) S 0 0 0 [(0, .ref x0), (1, .ref x1)] [] := by
  unfold fEn_copy at h
  refine v_aload_n (pc := 0) (show decode (tC tEn_copy) 0 = .ok (.aload_n 0, 1) by decide +kernel) 0 rfl rfl ?_
  refine v_aload_n (pc := 1) (show decode (tC tEn_copy) 1 = .ok (.aload_n 1, 1) by decide +kernel) 1 rfl rfl ?_
  obtain ⟨v1, e2, h⟩ := ob h
  refine v_getI (pc := 2) oF_En_7 (by decide) e2 (show decode (tC tEn_copy) 2 = .ok (.getfield 7, 3) by decide +kernel) ?_
  refine v_aload_n (pc := 5) (show decode (tC tEn_copy) 5 = .ok (.aload_n 1, 1) by decide +kernel) 1 rfl rfl ?_
  obtain ⟨v3, e4, h⟩ := ob h
  refine v_getI (pc := 6) oF_En_13 (by decide) e4 (show decode (tC tEn_copy) 6 = .ok (.getfield 13, 3) by decide +kernel) ?_
  refine v_aload_n (pc := 9) (show decode (tC tEn_copy) 9 = .ok (.aload_n 1, 1) by decide +kernel) 1 rfl rfl ?_
  obtain ⟨v5, e6, h⟩ := ob h
  refine v_getI (pc := 10) oF_En_16 (by decide) e6 (show decode (tC tEn_copy) 10 = .ok (.getfield 16, 3) by decide +kernel) ?_
  refine v_aload_n (pc := 13) (show decode (tC tEn_copy) 13 = .ok (.aload_n 1, 1) by decide +kernel) 1 rfl rfl ?_
  obtain ⟨v7, e8, h⟩ := ob h
  refine v_getI (pc := 14) oF_En_19 (by decide) e8 (show decode (tC tEn_copy) 14 = .ok (.getfield 19, 3) by decide +kernel) ?_
  obtain ⟨_, e10, h⟩ := ob h
  obtain ⟨S11, e9, h⟩ := ob h
  refine v_call (pc := 17) (v := none) (y := yEn_setKey) (θ' := tEn_setKey) (rm := rEn_setKey) (av := [.ref x0, .int v1, .int v3, .int v5, .int v7]) (st := []) (cEn_setKey (l := gl Γ) hl e9) kEn_setKey iEn_setKey (iv_virt (y := yEn_setKey) (θ' := tEn_setKey) (kd := 5) (As := [.int v1, .int v3, .int v5, .int v7]) rfl (ckd_of e10) kEn_setKey (gT_in 1011 (by decide +kernel) rfl) nEn_setKey lEn_setKey mEn_setKey rfl (show decode (tC tEn_copy) 17 = .ok (.invokevirtual 34, 3) by decide +kernel)) ⟨by rw [hR]; decide, by rw [hR]; decide, by rw [hR]; decide, by rw [hR]; decide⟩ (Nat.le_of_ble_eq_true rfl) ?_
  refine v_aload_n (pc := 20) (show decode (tC tEn_copy) 20 = .ok (.aload_n 0, 1) by decide +kernel) 0 rfl rfl ?_
  refine v_aload_n (pc := 21) (show decode (tC tEn_copy) 21 = .ok (.aload_n 1, 1) by decide +kernel) 1 rfl rfl ?_
  obtain ⟨v12, e13, h⟩ := ob h
  refine v_getI (pc := 22) oF_En_22 (by decide) e13 (show decode (tC tEn_copy) 22 = .ok (.getfield 22, 3) by decide +kernel) ?_
  refine v_aload_n (pc := 25) (show decode (tC tEn_copy) 25 = .ok (.aload_n 1, 1) by decide +kernel) 1 rfl rfl ?_
  obtain ⟨v14, e15, h⟩ := ob h
  refine v_getI (pc := 26) oF_En_25 (by decide) e15 (show decode (tC tEn_copy) 26 = .ok (.getfield 25, 3) by decide +kernel) ?_
  refine v_aload_n (pc := 29) (show decode (tC tEn_copy) 29 = .ok (.aload_n 1, 1) by decide +kernel) 1 rfl rfl ?_
  obtain ⟨v16, e17, h⟩ := ob h
  refine v_getI (pc := 30) oF_En_28 (by decide) e17 (show decode (tC tEn_copy) 30 = .ok (.getfield 28, 3) by decide +kernel) ?_
  refine v_aload_n (pc := 33) (show decode (tC tEn_copy) 33 = .ok (.aload_n 1, 1) by decide +kernel) 1 rfl rfl ?_
  obtain ⟨v18, e19, h⟩ := ob h
  refine v_getI (pc := 34) oF_En_31 (by decide) e19 (show decode (tC tEn_copy) 34 = .ok (.getfield 31, 3) by decide +kernel) ?_
  obtain ⟨_, e21, h⟩ := ob h
  obtain ⟨S22, e20, h⟩ := ob h
  refine v_call (pc := 37) (v := none) (y := yEn_setContent) (θ' := tEn_setContent) (rm := rEn_setContent) (av := [.ref x0, .int v12, .int v14, .int v16, .int v18]) (st := []) (cEn_setContent (l := gl Γ) hl e20) kEn_setContent iEn_setContent (iv_virt (y := yEn_setContent) (θ' := tEn_setContent) (kd := 5) (As := [.int v12, .int v14, .int v16, .int v18]) rfl (ckd_of e21) kEn_setContent (gT_in 1012 (by decide +kernel) rfl) nEn_setContent lEn_setContent mEn_setContent rfl (show decode (tC tEn_copy) 37 = .ok (.invokevirtual 38, 3) by decide +kernel)) ⟨by rw [hR]; decide, by rw [hR]; decide, by rw [hR]; decide, by rw [hR]; decide⟩ (Nat.le_of_ble_eq_true rfl) ?_
  obtain rfl := Option.some.inj h
  refine v_wide (ce2 := 0) (sl2 := 0) (by decide) (by decide) ?_
  exact v_vret (pc := 40) rfl (show decode (tC tEn_copy) 40 = .ok (.return_, 1) by decide +kernel)
theorem cEn_copy {l : Launch} (hl : l.flags = pinnedFlags ++ [noTraceFlag]) {D : va_G} {dA : Nat → ClassId} {B : Nat} {x0 : Nat} {x1 : Nat} {S : Sx} {X : Sx} (h : fEn_copy x0 x1 S = some X) : Mx l yEn_copy tEn_copy rEn_copy 0 0 D dA B S [.ref x0, .ref x1] 0 none X :=
  mx_of hl (by decide) rfl rfl (Nat.le_of_ble_eq_true rfl) (fun Γ e1 e2 e3 e4 e5 => by subst e1; subst e3; subst e4; subst e5; exact wEn_copy e2 hl x0 x1 S h)
/-! MatchPipe$Entry.cutTo(II)V -/
def yEn_cutTo : MethodName := ⟨"MatchPipe$Entry", "cutTo", "(II)V"⟩
def tEn_cutTo : tM := (prog_4_method_5_code, "MatchPipe$Entry", 3, "cutTo", none, [])
def rEn_cutTo : Room := { frames := 0, cells := 0, slots := 0, locals := 0 }
theorem kEn_cutTo : cOf yEn_cutTo tEn_cutTo ∈ gT := gT_in 1089 (by decide +kernel) rfl
theorem iEn_cutTo : Cond.initialized yEn_cutTo.cls ∈ gT := gT_in 61 (by decide +kernel) rfl
theorem mEn_cutTo : okM yEn_cutTo 2 := ⟨by decide, by decide, by unfold nPar; decide +kernel⟩
theorem nEn_cutTo : Cond.instanceMethod yEn_cutTo ∈ gT := gT_in 1087 (by decide +kernel) rfl
theorem lEn_cutTo : Cond.selects "MatchPipe$Entry" yEn_cutTo yEn_cutTo ∈ gT := gT_in 1088 (by decide +kernel) rfl
def fEn_cutTo (x0 : Nat) (x1 : Int32) (x2 : Int32) (S : Sx) : Option (Sx) :=
    (gI S 5 1 x0).bind fun v1 =>
    (pI S 5 1 x0 (v1 &&& x1)).bind fun S3 =>
    (gI S3 5 0 x0).bind fun v5 =>
    (gI S3 5 1 x0).bind fun v7 =>
    (pI S3 5 0 x0 (v5 &&& v7)).bind fun S9 =>
    (gI S9 5 3 x0).bind fun v11 =>
    (pI S9 5 3 x0 (v11 &&& x2)).bind fun S13 =>
    (gI S13 5 2 x0).bind fun v15 =>
    (gI S13 5 3 x0).bind fun v17 =>
    (pI S13 5 2 x0 (v15 &&& v17)).bind fun S19 =>
    some S19
set_option maxRecDepth 100000 in
set_option maxHeartbeats 4000000 in
theorem wEn_cutTo {Γ : vG} (hR : gR Γ = rEn_cutTo) (hl : (gl Γ).flags = pinnedFlags ++ [noTraceFlag]) (x0 : Nat) (x1 : Int32) (x2 : Int32) (S : Sx) {X : Sx} (h : fEn_cutTo x0 x1 x2 S = some X) : vV Γ tEn_cutTo (mQ Γ 0 0 0 none X) S 0 0 0 [(0, .ref x0), (1, .int x1), (2, .int x2)] [] := by
  unfold fEn_cutTo at h
  refine v_aload_n (pc := 0) (show decode (tC tEn_cutTo) 0 = .ok (.aload_n 0, 1) by decide +kernel) 0 rfl rfl ?_
  refine v_dup (pc := 1) (show decode (tC tEn_cutTo) 1 = .ok (.dup, 1) by decide +kernel) rfl ?_
  obtain ⟨v1, e2, h⟩ := ob h
  refine v_getI (pc := 2) oF_En_13 (by decide) e2 (show decode (tC tEn_cutTo) 2 = .ok (.getfield 13, 3) by decide +kernel) ?_
  refine v_iload_n (pc := 5) (show decode (tC tEn_cutTo) 5 = .ok (.iload_n 1, 1) by decide +kernel) 1 rfl rfl ?_
  refine v_iand (pc := 6) (show decode (tC tEn_cutTo) 6 = .ok (.iand, 1) by decide +kernel) ?_
  obtain ⟨S3, e4, h⟩ := ob h
  refine v_putI (pc := 7) oF_En_13 (fin_ok (kd := 5) (k := 1) (by decide +kernel)) e4 (show decode (tC tEn_cutTo) 7 = .ok (.putfield 13, 3) by decide +kernel) ?_
  refine v_aload_n (pc := 10) (show decode (tC tEn_cutTo) 10 = .ok (.aload_n 0, 1) by decide +kernel) 0 rfl rfl ?_
  refine v_dup (pc := 11) (show decode (tC tEn_cutTo) 11 = .ok (.dup, 1) by decide +kernel) rfl ?_
  obtain ⟨v5, e6, h⟩ := ob h
  refine v_getI (pc := 12) oF_En_7 (by decide) e6 (show decode (tC tEn_cutTo) 12 = .ok (.getfield 7, 3) by decide +kernel) ?_
  refine v_aload_n (pc := 15) (show decode (tC tEn_cutTo) 15 = .ok (.aload_n 0, 1) by decide +kernel) 0 rfl rfl ?_
  obtain ⟨v7, e8, h⟩ := ob h
  refine v_getI (pc := 16) oF_En_13 (by decide) e8 (show decode (tC tEn_cutTo) 16 = .ok (.getfield 13, 3) by decide +kernel) ?_
  refine v_iand (pc := 19) (show decode (tC tEn_cutTo) 19 = .ok (.iand, 1) by decide +kernel) ?_
  obtain ⟨S9, e10, h⟩ := ob h
  refine v_putI (pc := 20) oF_En_7 (fin_ok (kd := 5) (k := 0) (by decide +kernel)) e10 (show decode (tC tEn_cutTo) 20 = .ok (.putfield 7, 3) by decide +kernel) ?_
  refine v_aload_n (pc := 23) (show decode (tC tEn_cutTo) 23 = .ok (.aload_n 0, 1) by decide +kernel) 0 rfl rfl ?_
  refine v_dup (pc := 24) (show decode (tC tEn_cutTo) 24 = .ok (.dup, 1) by decide +kernel) rfl ?_
  obtain ⟨v11, e12, h⟩ := ob h
  refine v_getI (pc := 25) oF_En_19 (by decide) e12 (show decode (tC tEn_cutTo) 25 = .ok (.getfield 19, 3) by decide +kernel) ?_
  refine v_iload_n (pc := 28) (show decode (tC tEn_cutTo) 28 = .ok (.iload_n 2, 1) by decide +kernel) 2 rfl rfl ?_
  refine v_iand (pc := 29) (show decode (tC tEn_cutTo) 29 = .ok (.iand, 1) by decide +kernel) ?_
  obtain ⟨S13, e14, h⟩ := ob h
  refine v_putI (pc := 30) oF_En_19 (fin_ok (kd := 5) (k := 3) (by decide +kernel)) e14 (show decode (tC tEn_cutTo) 30 = .ok (.putfield 19, 3) by decide +kernel) ?_
  refine v_aload_n (pc := 33) (show decode (tC tEn_cutTo) 33 = .ok (.aload_n 0, 1) by decide +kernel) 0 rfl rfl ?_
  refine v_dup (pc := 34) (show decode (tC tEn_cutTo) 34 = .ok (.dup, 1) by decide +kernel) rfl ?_
  obtain ⟨v15, e16, h⟩ := ob h
  refine v_getI (pc := 35) oF_En_16 (by decide) e16 (show decode (tC tEn_cutTo) 35 = .ok (.getfield 16, 3) by decide +kernel) ?_
  refine v_aload_n (pc := 38) (show decode (tC tEn_cutTo) 38 = .ok (.aload_n 0, 1) by decide +kernel) 0 rfl rfl ?_
  obtain ⟨v17, e18, h⟩ := ob h
  refine v_getI (pc := 39) oF_En_19 (by decide) e18 (show decode (tC tEn_cutTo) 39 = .ok (.getfield 19, 3) by decide +kernel) ?_
  refine v_iand (pc := 42) (show decode (tC tEn_cutTo) 42 = .ok (.iand, 1) by decide +kernel) ?_
  obtain ⟨S19, e20, h⟩ := ob h
  refine v_putI (pc := 43) oF_En_16 (fin_ok (kd := 5) (k := 2) (by decide +kernel)) e20 (show decode (tC tEn_cutTo) 43 = .ok (.putfield 16, 3) by decide +kernel) ?_
  obtain rfl := Option.some.inj h
  refine v_wide (ce2 := 0) (sl2 := 0) (by decide) (by decide) ?_
  exact v_vret (pc := 46) rfl (show decode (tC tEn_cutTo) 46 = .ok (.return_, 1) by decide +kernel)
theorem cEn_cutTo {l : Launch} (hl : l.flags = pinnedFlags ++ [noTraceFlag]) {D : va_G} {dA : Nat → ClassId} {B : Nat} {x0 : Nat} {x1 : Int32} {x2 : Int32} {S : Sx} {X : Sx} (h : fEn_cutTo x0 x1 x2 S = some X) : Mx l yEn_cutTo tEn_cutTo rEn_cutTo 0 0 D dA B S [.ref x0, .int x1, .int x2] 0 none X :=
  mx_of hl (by decide) rfl rfl (Nat.le_of_ble_eq_true rfl) (fun Γ e1 e2 e3 e4 e5 => by subst e1; subst e3; subst e4; subst e5; exact wEn_cutTo e2 hl x0 x1 x2 S h)
/-! MatchPipe$Entry.hasKeyOf(LMatchPipe$Entry;)Z -/
def yEn_hasKeyOf : MethodName := ⟨"MatchPipe$Entry", "hasKeyOf", "(LMatchPipe$Entry;)Z"⟩
def tEn_hasKeyOf : tM := (prog_4_method_6_code, "MatchPipe$Entry", 2, "hasKeyOf", some .boolean, [])
def rEn_hasKeyOf : Room := { frames := 0, cells := 0, slots := 0, locals := 0 }
theorem kEn_hasKeyOf : cOf yEn_hasKeyOf tEn_hasKeyOf ∈ gT := gT_in 1101 (by decide +kernel) rfl
theorem iEn_hasKeyOf : Cond.initialized yEn_hasKeyOf.cls ∈ gT := gT_in 61 (by decide +kernel) rfl
theorem mEn_hasKeyOf : okM yEn_hasKeyOf 1 := ⟨by decide, by decide, by unfold nPar; decide +kernel⟩
theorem nEn_hasKeyOf : Cond.instanceMethod yEn_hasKeyOf ∈ gT := gT_in 1099 (by decide +kernel) rfl
theorem lEn_hasKeyOf : Cond.selects "MatchPipe$Entry" yEn_hasKeyOf yEn_hasKeyOf ∈ gT := gT_in 1100 (by decide +kernel) rfl
def fEn_hasKeyOf (x0 : Nat) (x1 : Nat) (S : Sx) : Option (Int32 × Sx) :=
    (gI S 5 0 x0).bind fun v1 =>
    (gI S 5 0 x1).bind fun v3 =>
    if v1 = v3 then
    ((gI S 5 1 x0).bind fun v5 =>
    (gI S 5 1 x1).bind fun v7 =>
    if v5 = v7 then
    ((gI S 5 2 x0).bind fun v9 =>
    (gI S 5 2 x1).bind fun v11 =>
    if v9 = v11 then
    ((gI S 5 3 x0).bind fun v13 =>
    (gI S 5 3 x1).bind fun v15 =>
    if v13 = v15 then
    (some (1, S))
    else
    (some (0, S)))
    else
    (some (0, S)))
    else
    (some (0, S)))
    else
    (some (0, S))
set_option maxRecDepth 100000 in
set_option maxHeartbeats 4000000 in
theorem wEn_hasKeyOf {Γ : vG} (hR : gR Γ = rEn_hasKeyOf) (hl : (gl Γ).flags = pinnedFlags ++ [noTraceFlag]) (x0 : Nat) (x1 : Nat) (S : Sx) {X : Int32 × Sx} (h : fEn_hasKeyOf x0 x1 S = some X) : vV Γ tEn_hasKeyOf (mQ Γ 0 0 0 (some (.int X.1)) X.2) S 0 0 0 [(0, .ref x0), (1, .ref x1)] [] := by
  unfold fEn_hasKeyOf at h
  refine v_aload_n (pc := 0) (show decode (tC tEn_hasKeyOf) 0 = .ok (.aload_n 0, 1) by decide +kernel) 0 rfl rfl ?_
  obtain ⟨v1, e2, h⟩ := ob h
  refine v_getI (pc := 1) oF_En_7 (by decide) e2 (show decode (tC tEn_hasKeyOf) 1 = .ok (.getfield 7, 3) by decide +kernel) ?_
  refine v_aload_n (pc := 4) (show decode (tC tEn_hasKeyOf) 4 = .ok (.aload_n 1, 1) by decide +kernel) 1 rfl rfl ?_
  obtain ⟨v3, e4, h⟩ := ob h
  refine v_getI (pc := 5) oF_En_7 (by decide) e4 (show decode (tC tEn_hasKeyOf) 5 = .ok (.getfield 7, 3) by decide +kernel) ?_
  refine v_icmp_ne (pc := 8) 48 (show decode (tC tEn_hasKeyOf) 8 = .ok (.if_icmp .ne 40, 3) by decide +kernel) (by decide) (fun c => ?_) (fun c => ?_)
  · replace h := ite_f c h
    refine v_iconst (pc := 48) (v := 0) (show decode (tC tEn_hasKeyOf) 48 = .ok (.iconst 0, 1) by decide +kernel) (by decide) ?_
    obtain rfl := Option.some.inj h
    refine v_wide (ce2 := 0) (sl2 := 0) (by decide) (by decide) ?_
    exact v_zret (pc := 49) rfl (Or.inl rfl) (show decode (tC tEn_hasKeyOf) 49 = .ok (.ireturn, 1) by decide +kernel)
  · replace h := ite_t c h
    refine v_aload_n (pc := 11) (show decode (tC tEn_hasKeyOf) 11 = .ok (.aload_n 0, 1) by decide +kernel) 0 rfl rfl ?_
    obtain ⟨v5, e6, h⟩ := ob h
    refine v_getI (pc := 12) oF_En_13 (by decide) e6 (show decode (tC tEn_hasKeyOf) 12 = .ok (.getfield 13, 3) by decide +kernel) ?_
    refine v_aload_n (pc := 15) (show decode (tC tEn_hasKeyOf) 15 = .ok (.aload_n 1, 1) by decide +kernel) 1 rfl rfl ?_
    obtain ⟨v7, e8, h⟩ := ob h
    refine v_getI (pc := 16) oF_En_13 (by decide) e8 (show decode (tC tEn_hasKeyOf) 16 = .ok (.getfield 13, 3) by decide +kernel) ?_
    refine v_icmp_ne (pc := 19) 48 (show decode (tC tEn_hasKeyOf) 19 = .ok (.if_icmp .ne 29, 3) by decide +kernel) (by decide) (fun c => ?_) (fun c => ?_)
    · replace h := ite_f c h
      refine v_iconst (pc := 48) (v := 0) (show decode (tC tEn_hasKeyOf) 48 = .ok (.iconst 0, 1) by decide +kernel) (by decide) ?_
      obtain rfl := Option.some.inj h
      refine v_wide (ce2 := 0) (sl2 := 0) (by decide) (by decide) ?_
      exact v_zret (pc := 49) rfl (Or.inl rfl) (show decode (tC tEn_hasKeyOf) 49 = .ok (.ireturn, 1) by decide +kernel)
    · replace h := ite_t c h
      refine v_aload_n (pc := 22) (show decode (tC tEn_hasKeyOf) 22 = .ok (.aload_n 0, 1) by decide +kernel) 0 rfl rfl ?_
      obtain ⟨v9, e10, h⟩ := ob h
      refine v_getI (pc := 23) oF_En_16 (by decide) e10 (show decode (tC tEn_hasKeyOf) 23 = .ok (.getfield 16, 3) by decide +kernel) ?_
      refine v_aload_n (pc := 26) (show decode (tC tEn_hasKeyOf) 26 = .ok (.aload_n 1, 1) by decide +kernel) 1 rfl rfl ?_
      obtain ⟨v11, e12, h⟩ := ob h
      refine v_getI (pc := 27) oF_En_16 (by decide) e12 (show decode (tC tEn_hasKeyOf) 27 = .ok (.getfield 16, 3) by decide +kernel) ?_
      refine v_icmp_ne (pc := 30) 48 (show decode (tC tEn_hasKeyOf) 30 = .ok (.if_icmp .ne 18, 3) by decide +kernel) (by decide) (fun c => ?_) (fun c => ?_)
      · replace h := ite_f c h
        refine v_iconst (pc := 48) (v := 0) (show decode (tC tEn_hasKeyOf) 48 = .ok (.iconst 0, 1) by decide +kernel) (by decide) ?_
        obtain rfl := Option.some.inj h
        refine v_wide (ce2 := 0) (sl2 := 0) (by decide) (by decide) ?_
        exact v_zret (pc := 49) rfl (Or.inl rfl) (show decode (tC tEn_hasKeyOf) 49 = .ok (.ireturn, 1) by decide +kernel)
      · replace h := ite_t c h
        refine v_aload_n (pc := 33) (show decode (tC tEn_hasKeyOf) 33 = .ok (.aload_n 0, 1) by decide +kernel) 0 rfl rfl ?_
        obtain ⟨v13, e14, h⟩ := ob h
        refine v_getI (pc := 34) oF_En_19 (by decide) e14 (show decode (tC tEn_hasKeyOf) 34 = .ok (.getfield 19, 3) by decide +kernel) ?_
        refine v_aload_n (pc := 37) (show decode (tC tEn_hasKeyOf) 37 = .ok (.aload_n 1, 1) by decide +kernel) 1 rfl rfl ?_
        obtain ⟨v15, e16, h⟩ := ob h
        refine v_getI (pc := 38) oF_En_19 (by decide) e16 (show decode (tC tEn_hasKeyOf) 38 = .ok (.getfield 19, 3) by decide +kernel) ?_
        refine v_icmp_ne (pc := 41) 48 (show decode (tC tEn_hasKeyOf) 41 = .ok (.if_icmp .ne 7, 3) by decide +kernel) (by decide) (fun c => ?_) (fun c => ?_)
        · replace h := ite_f c h
          refine v_iconst (pc := 48) (v := 0) (show decode (tC tEn_hasKeyOf) 48 = .ok (.iconst 0, 1) by decide +kernel) (by decide) ?_
          obtain rfl := Option.some.inj h
          refine v_wide (ce2 := 0) (sl2 := 0) (by decide) (by decide) ?_
          exact v_zret (pc := 49) rfl (Or.inl rfl) (show decode (tC tEn_hasKeyOf) 49 = .ok (.ireturn, 1) by decide +kernel)
        · replace h := ite_t c h
          refine v_iconst (pc := 44) (v := 1) (show decode (tC tEn_hasKeyOf) 44 = .ok (.iconst 1, 1) by decide +kernel) (by decide) ?_
          refine v_goto (pc := 45) 49 (show decode (tC tEn_hasKeyOf) 45 = .ok (.goto 4, 3) by decide +kernel) (by decide) ?_
          obtain rfl := Option.some.inj h
          refine v_wide (ce2 := 0) (sl2 := 0) (by decide) (by decide) ?_
          exact v_zret (pc := 49) rfl (Or.inr rfl) (show decode (tC tEn_hasKeyOf) 49 = .ok (.ireturn, 1) by decide +kernel)
theorem cEn_hasKeyOf {l : Launch} (hl : l.flags = pinnedFlags ++ [noTraceFlag]) {D : va_G} {dA : Nat → ClassId} {B : Nat} {x0 : Nat} {x1 : Nat} {S : Sx} {X : Int32 × Sx} (h : fEn_hasKeyOf x0 x1 S = some X) : Mx l yEn_hasKeyOf tEn_hasKeyOf rEn_hasKeyOf 0 0 D dA B S [.ref x0, .ref x1] 0 (some (.int X.1)) X.2 :=
  mx_of hl (by decide) rfl rfl (Nat.le_of_ble_eq_true rfl) (fun Γ e1 e2 e3 e4 e5 => by subst e1; subst e3; subst e4; subst e5; exact wEn_hasKeyOf e2 hl x0 x1 S h)
/-! MatchPipe$Entry.matches(II)Z -/
def yEn_matches : MethodName := ⟨"MatchPipe$Entry", "matches", "(II)Z"⟩
def tEn_matches : tM := (prog_4_method_7_code, "MatchPipe$Entry", 3, "matches", some .boolean, [])
def rEn_matches : Room := { frames := 0, cells := 0, slots := 0, locals := 0 }
theorem kEn_matches : cOf yEn_matches tEn_matches ∈ gT := gT_in 1123 (by decide +kernel) rfl
theorem iEn_matches : Cond.initialized yEn_matches.cls ∈ gT := gT_in 61 (by decide +kernel) rfl
theorem mEn_matches : okM yEn_matches 2 := ⟨by decide, by decide, by unfold nPar; decide +kernel⟩
theorem nEn_matches : Cond.instanceMethod yEn_matches ∈ gT := gT_in 1121 (by decide +kernel) rfl
theorem lEn_matches : Cond.selects "MatchPipe$Entry" yEn_matches yEn_matches ∈ gT := gT_in 1122 (by decide +kernel) rfl
def fEn_matches (x0 : Nat) (x1 : Int32) (x2 : Int32) (S : Sx) : Option (Int32 × Sx) :=
    (gI S 5 1 x0).bind fun v1 =>
    (gI S 5 0 x0).bind fun v3 =>
    if (x1 &&& v1) = v3 then
    ((gI S 5 3 x0).bind fun v5 =>
    (gI S 5 2 x0).bind fun v7 =>
    if (x2 &&& v5) = v7 then
    (some (1, S))
    else
    (some (0, S)))
    else
    (some (0, S))
set_option maxRecDepth 100000 in
set_option maxHeartbeats 4000000 in
theorem wEn_matches {Γ : vG} (hR : gR Γ = rEn_matches) (hl : (gl Γ).flags = pinnedFlags ++ [noTraceFlag]) (x0 : Nat) (x1 : Int32) (x2 : Int32) (S : Sx) {X : Int32 × Sx} (h : fEn_matches x0 x1 x2 S = some X) : vV Γ tEn_matches (mQ Γ 0 0 0 (some (.int X.1)) X.2) S 0 0 0 [(0, .ref x0), (1, .int x1), (2, .int x2)] [] := by
  unfold fEn_matches at h
  refine v_iload_n (pc := 0) (show decode (tC tEn_matches) 0 = .ok (.iload_n 1, 1) by decide +kernel) 1 rfl rfl ?_
  refine v_aload_n (pc := 1) (show decode (tC tEn_matches) 1 = .ok (.aload_n 0, 1) by decide +kernel) 0 rfl rfl ?_
  obtain ⟨v1, e2, h⟩ := ob h
  refine v_getI (pc := 2) oF_En_13 (by decide) e2 (show decode (tC tEn_matches) 2 = .ok (.getfield 13, 3) by decide +kernel) ?_
  refine v_iand (pc := 5) (show decode (tC tEn_matches) 5 = .ok (.iand, 1) by decide +kernel) ?_
  refine v_aload_n (pc := 6) (show decode (tC tEn_matches) 6 = .ok (.aload_n 0, 1) by decide +kernel) 0 rfl rfl ?_
  obtain ⟨v3, e4, h⟩ := ob h
  refine v_getI (pc := 7) oF_En_7 (by decide) e4 (show decode (tC tEn_matches) 7 = .ok (.getfield 7, 3) by decide +kernel) ?_
  refine v_icmp_ne (pc := 10) 30 (show decode (tC tEn_matches) 10 = .ok (.if_icmp .ne 20, 3) by decide +kernel) (by decide) (fun c => ?_) (fun c => ?_)
  · replace h := ite_f c h
    refine v_iconst (pc := 30) (v := 0) (show decode (tC tEn_matches) 30 = .ok (.iconst 0, 1) by decide +kernel) (by decide) ?_
    obtain rfl := Option.some.inj h
    refine v_wide (ce2 := 0) (sl2 := 0) (by decide) (by decide) ?_
    exact v_zret (pc := 31) rfl (Or.inl rfl) (show decode (tC tEn_matches) 31 = .ok (.ireturn, 1) by decide +kernel)
  · replace h := ite_t c h
    refine v_iload_n (pc := 13) (show decode (tC tEn_matches) 13 = .ok (.iload_n 2, 1) by decide +kernel) 2 rfl rfl ?_
    refine v_aload_n (pc := 14) (show decode (tC tEn_matches) 14 = .ok (.aload_n 0, 1) by decide +kernel) 0 rfl rfl ?_
    obtain ⟨v5, e6, h⟩ := ob h
    refine v_getI (pc := 15) oF_En_19 (by decide) e6 (show decode (tC tEn_matches) 15 = .ok (.getfield 19, 3) by decide +kernel) ?_
    refine v_iand (pc := 18) (show decode (tC tEn_matches) 18 = .ok (.iand, 1) by decide +kernel) ?_
    refine v_aload_n (pc := 19) (show decode (tC tEn_matches) 19 = .ok (.aload_n 0, 1) by decide +kernel) 0 rfl rfl ?_
    obtain ⟨v7, e8, h⟩ := ob h
    refine v_getI (pc := 20) oF_En_16 (by decide) e8 (show decode (tC tEn_matches) 20 = .ok (.getfield 16, 3) by decide +kernel) ?_
    refine v_icmp_ne (pc := 23) 30 (show decode (tC tEn_matches) 23 = .ok (.if_icmp .ne 7, 3) by decide +kernel) (by decide) (fun c => ?_) (fun c => ?_)
    · replace h := ite_f c h
      refine v_iconst (pc := 30) (v := 0) (show decode (tC tEn_matches) 30 = .ok (.iconst 0, 1) by decide +kernel) (by decide) ?_
      obtain rfl := Option.some.inj h
      refine v_wide (ce2 := 0) (sl2 := 0) (by decide) (by decide) ?_
      exact v_zret (pc := 31) rfl (Or.inl rfl) (show decode (tC tEn_matches) 31 = .ok (.ireturn, 1) by decide +kernel)
    · replace h := ite_t c h
      refine v_iconst (pc := 26) (v := 1) (show decode (tC tEn_matches) 26 = .ok (.iconst 1, 1) by decide +kernel) (by decide) ?_
      refine v_goto (pc := 27) 31 (show decode (tC tEn_matches) 27 = .ok (.goto 4, 3) by decide +kernel) (by decide) ?_
      obtain rfl := Option.some.inj h
      refine v_wide (ce2 := 0) (sl2 := 0) (by decide) (by decide) ?_
      exact v_zret (pc := 31) rfl (Or.inr rfl) (show decode (tC tEn_matches) 31 = .ok (.ireturn, 1) by decide +kernel)
theorem cEn_matches {l : Launch} (hl : l.flags = pinnedFlags ++ [noTraceFlag]) {D : va_G} {dA : Nat → ClassId} {B : Nat} {x0 : Nat} {x1 : Int32} {x2 : Int32} {S : Sx} {X : Int32 × Sx} (h : fEn_matches x0 x1 x2 S = some X) : Mx l yEn_matches tEn_matches rEn_matches 0 0 D dA B S [.ref x0, .int x1, .int x2] 0 (some (.int X.1)) X.2 :=
  mx_of hl (by decide) rfl rfl (Nat.le_of_ble_eq_true rfl) (fun Γ e1 e2 e3 e4 e5 => by subst e1; subst e3; subst e4; subst e5; exact wEn_matches e2 hl x0 x1 x2 S h)
/-! MatchPipe$Step.isSo(I)Z -/
def ySp_isSo : MethodName := ⟨"MatchPipe$Step", "isSo", "(I)Z"⟩
def tSp_isSo : tM := (prog_11_method_5_code, "MatchPipe$Step", 3, "isSo", some .boolean, [])
def rSp_isSo : Room := { frames := 0, cells := 0, slots := 0, locals := 0 }
theorem kSp_isSo : cOf ySp_isSo tSp_isSo ∈ gT := gT_in 1152 (by decide +kernel) rfl
theorem iSp_isSo : Cond.initialized ySp_isSo.cls ∈ gT := gT_in 62 (by decide +kernel) rfl
theorem mSp_isSo : okM ySp_isSo 1 := ⟨by decide, by decide, by unfold nPar; decide +kernel⟩
theorem nSp_isSo : Cond.instanceMethod ySp_isSo ∈ gT := gT_in 1150 (by decide +kernel) rfl
theorem lSp_isSo : Cond.selects "MatchPipe$Step" ySp_isSo ySp_isSo ∈ gT := gT_in 1151 (by decide +kernel) rfl
def fSp_isSo_24  (x0 : Nat) (x1 : Int32) (z0 : Int32) (S : Sx) : Option (Int32 × Sx) :=
    (gI S 6 2 x0).bind fun v1 =>
    if v1 = 0 then
    ((gI S 6 3 x0).bind fun v3 =>
    if x1 = v3 then
    (some (1, S))
    else
    (some (0, S)))
    else if v1 = 1 then
    ((gI S 6 3 x0).bind fun v5 =>
    if x1 = v5 then
    (some (0, S))
    else
    (some (1, S)))
    else if v1 = 2 then
    (zb z0 (some (z0, S)))
    else 
    (if z0 = 0 then
    (some (1, S))
    else
    (some (0, S)))
set_option maxRecDepth 100000 in
set_option maxHeartbeats 4000000 in
theorem wSp_isSo_24 {Γ : vG} (hR : gR Γ = rSp_isSo) (hl : (gl Γ).flags = pinnedFlags ++ [noTraceFlag]) {X : Int32 × Sx}  : ∀ (x0 : Nat) (x1 : Int32) (z0 : Int32) (S : Sx), fSp_isSo_24  x0 x1 z0 S = some X → vV Γ tSp_isSo (mQ Γ 0 0 0 (some (.int X.1)) X.2) S 0 0 24 [(0, .ref x0), (1, .int x1)] [.int z0] := by
  intro x0 x1 z0 S h
  unfold fSp_isSo_24 at h
  refine v_istore_n (pc := 24) [(2, .int z0), (0, .ref x0), (1, .int x1)] (show decode (tC tSp_isSo) 24 = .ok (.istore_n 2, 1) by decide +kernel) rfl (by decide) rfl ?_
  refine v_aload_n (pc := 25) (show decode (tC tSp_isSo) 25 = .ok (.aload_n 0, 1) by decide +kernel) 1 rfl rfl ?_
  obtain ⟨v1, e2, h⟩ := ob h
  refine v_getI (pc := 26) oF_Sp_18 (by decide) e2 (show decode (tC tSp_isSo) 26 = .ok (.getfield 18, 3) by decide +kernel) ?_
  by_cases c0 : v1 = 0
  · replace h := ite_t c0 h
    refine v_tblIn (pc := 29) (off := 27) 56 (show decode (tC tSp_isSo) 29 = .ok (.tableswitch 57 0 2 #[27, 41, 55], 27) by decide +kernel) (by rw [c0]; decide) (by rw [c0]; decide) (by rw [c0]; decide) (by decide) ?_
    refine v_iload_n (pc := 56) (show decode (tC tSp_isSo) 56 = .ok (.iload_n 1, 1) by decide +kernel) 2 rfl rfl ?_
    refine v_aload_n (pc := 57) (show decode (tC tSp_isSo) 57 = .ok (.aload_n 0, 1) by decide +kernel) 1 rfl rfl ?_
    obtain ⟨v3, e4, h⟩ := ob h
    refine v_getI (pc := 58) oF_Sp_21 (by decide) e4 (show decode (tC tSp_isSo) 58 = .ok (.getfield 21, 3) by decide +kernel) ?_
    refine v_icmp_ne (pc := 61) 68 (show decode (tC tSp_isSo) 61 = .ok (.if_icmp .ne 7, 3) by decide +kernel) (by decide) (fun c => ?_) (fun c => ?_)
    · replace h := ite_f c h
      refine v_iconst (pc := 68) (v := 0) (show decode (tC tSp_isSo) 68 = .ok (.iconst 0, 1) by decide +kernel) (by decide) ?_
      obtain rfl := Option.some.inj h
      refine v_wide (ce2 := 0) (sl2 := 0) (by decide) (by decide) ?_
      exact v_zret (pc := 69) rfl (Or.inl rfl) (show decode (tC tSp_isSo) 69 = .ok (.ireturn, 1) by decide +kernel)
    · replace h := ite_t c h
      refine v_iconst (pc := 64) (v := 1) (show decode (tC tSp_isSo) 64 = .ok (.iconst 1, 1) by decide +kernel) (by decide) ?_
      refine v_goto (pc := 65) 69 (show decode (tC tSp_isSo) 65 = .ok (.goto 4, 3) by decide +kernel) (by decide) ?_
      obtain rfl := Option.some.inj h
      refine v_wide (ce2 := 0) (sl2 := 0) (by decide) (by decide) ?_
      exact v_zret (pc := 69) rfl (Or.inr rfl) (show decode (tC tSp_isSo) 69 = .ok (.ireturn, 1) by decide +kernel)
  · replace h := ite_f c0 h
    by_cases c1 : v1 = 1
    · replace h := ite_t c1 h
      refine v_tblIn (pc := 29) (off := 41) 70 (show decode (tC tSp_isSo) 29 = .ok (.tableswitch 57 0 2 #[27, 41, 55], 27) by decide +kernel) (by rw [c1]; decide) (by rw [c1]; decide) (by rw [c1]; decide) (by decide) ?_
      refine v_iload_n (pc := 70) (show decode (tC tSp_isSo) 70 = .ok (.iload_n 1, 1) by decide +kernel) 2 rfl rfl ?_
      refine v_aload_n (pc := 71) (show decode (tC tSp_isSo) 71 = .ok (.aload_n 0, 1) by decide +kernel) 1 rfl rfl ?_
      obtain ⟨v5, e6, h⟩ := ob h
      refine v_getI (pc := 72) oF_Sp_21 (by decide) e6 (show decode (tC tSp_isSo) 72 = .ok (.getfield 21, 3) by decide +kernel) ?_
      refine v_icmp_eq (pc := 75) 82 (show decode (tC tSp_isSo) 75 = .ok (.if_icmp .eq 7, 3) by decide +kernel) (by decide) (fun c => ?_) (fun c => ?_)
      · replace h := ite_t c h
        refine v_iconst (pc := 82) (v := 0) (show decode (tC tSp_isSo) 82 = .ok (.iconst 0, 1) by decide +kernel) (by decide) ?_
        obtain rfl := Option.some.inj h
        refine v_wide (ce2 := 0) (sl2 := 0) (by decide) (by decide) ?_
        exact v_zret (pc := 83) rfl (Or.inl rfl) (show decode (tC tSp_isSo) 83 = .ok (.ireturn, 1) by decide +kernel)
      · replace h := ite_f c h
        refine v_iconst (pc := 78) (v := 1) (show decode (tC tSp_isSo) 78 = .ok (.iconst 1, 1) by decide +kernel) (by decide) ?_
        refine v_goto (pc := 79) 83 (show decode (tC tSp_isSo) 79 = .ok (.goto 4, 3) by decide +kernel) (by decide) ?_
        obtain rfl := Option.some.inj h
        refine v_wide (ce2 := 0) (sl2 := 0) (by decide) (by decide) ?_
        exact v_zret (pc := 83) rfl (Or.inr rfl) (show decode (tC tSp_isSo) 83 = .ok (.ireturn, 1) by decide +kernel)
    · replace h := ite_f c1 h
      by_cases c2 : v1 = 2
      · replace h := ite_t c2 h
        refine v_tblIn (pc := 29) (off := 55) 84 (show decode (tC tSp_isSo) 29 = .ok (.tableswitch 57 0 2 #[27, 41, 55], 27) by decide +kernel) (by rw [c2]; decide) (by rw [c2]; decide) (by rw [c2]; decide) (by decide) ?_
        refine v_iload_n (pc := 84) (show decode (tC tSp_isSo) 84 = .ok (.iload_n 2, 1) by decide +kernel) 0 rfl rfl ?_
        obtain ⟨e7, h⟩ := zb_of h
        obtain rfl := Option.some.inj h
        refine v_wide (ce2 := 0) (sl2 := 0) (by decide) (by decide) ?_
        exact v_zret (pc := 85) rfl e7 (show decode (tC tSp_isSo) 85 = .ok (.ireturn, 1) by decide +kernel)
      · replace h := ite_f c2 h
        refine v_tblOut (pc := 29) 86 (show decode (tC tSp_isSo) 29 = .ok (.tableswitch 57 0 2 #[27, 41, 55], 27) by decide +kernel) (tbl_out 3 (fun i hi => match i, hi with | 0, _ => by have := toInt_ne c0; exact this | 1, _ => by have := toInt_ne c1; exact this | 2, _ => by have := toInt_ne c2; exact this | i + 3, hi => absurd hi (by omega)) (by decide)) (by decide) ?_
        refine v_iload_n (pc := 86) (show decode (tC tSp_isSo) 86 = .ok (.iload_n 2, 1) by decide +kernel) 0 rfl rfl ?_
        refine v_if_ne (pc := 87) 94 (show decode (tC tSp_isSo) 87 = .ok (.ifCond .ne 7, 3) by decide +kernel) (by decide) (fun c => ?_) (fun c => ?_)
        · replace h := ite_f c h
          refine v_iconst (pc := 94) (v := 0) (show decode (tC tSp_isSo) 94 = .ok (.iconst 0, 1) by decide +kernel) (by decide) ?_
          obtain rfl := Option.some.inj h
          refine v_wide (ce2 := 0) (sl2 := 0) (by decide) (by decide) ?_
          exact v_zret (pc := 95) rfl (Or.inl rfl) (show decode (tC tSp_isSo) 95 = .ok (.ireturn, 1) by decide +kernel)
        · replace h := ite_t c h
          refine v_iconst (pc := 90) (v := 1) (show decode (tC tSp_isSo) 90 = .ok (.iconst 1, 1) by decide +kernel) (by decide) ?_
          refine v_goto (pc := 91) 95 (show decode (tC tSp_isSo) 91 = .ok (.goto 4, 3) by decide +kernel) (by decide) ?_
          obtain rfl := Option.some.inj h
          refine v_wide (ce2 := 0) (sl2 := 0) (by decide) (by decide) ?_
          exact v_zret (pc := 95) rfl (Or.inr rfl) (show decode (tC tSp_isSo) 95 = .ok (.ireturn, 1) by decide +kernel)
def fSp_isSo (x0 : Nat) (x1 : Int32) (S : Sx) : Option (Int32 × Sx) :=
    (gI S 6 3 x0).bind fun v1 =>
    if (0 : Int32) ≤ (lg_cmp ((Int32.toInt64 x1) &&& (4294967295 : Int64)) ((Int32.toInt64 v1) &&& (4294967295 : Int64))) then
    (fSp_isSo_24  x0 x1 0 S)
    else
    (fSp_isSo_24  x0 x1 1 S)
set_option maxRecDepth 100000 in
set_option maxHeartbeats 4000000 in
theorem wSp_isSo {Γ : vG} (hR : gR Γ = rSp_isSo) (hl : (gl Γ).flags = pinnedFlags ++ [noTraceFlag]) (x0 : Nat) (x1 : Int32) (S : Sx) {X : Int32 × Sx} (h : fSp_isSo x0 x1 S = some X) : vV Γ tSp_isSo (mQ Γ 0 0 0 (some (.int X.1)) X.2) S 0 0 0 [(0, .ref x0), (1, .int x1)] [] := by
  unfold fSp_isSo at h
  refine v_iload_n (pc := 0) (show decode (tC tSp_isSo) 0 = .ok (.iload_n 1, 1) by decide +kernel) 1 rfl rfl ?_
  refine v_i2l (pc := 1) (show decode (tC tSp_isSo) 1 = .ok (.i2l, 1) by decide +kernel) ?_
  refine v_ldc2 (pc := 2) (v := 4294967295) (gT_in 1153 (by decide +kernel) rfl) (show decode (tC tSp_isSo) 2 = .ok (.ldc2_w 27, 3) by decide +kernel) ?_
  refine v_land (pc := 5) (show decode (tC tSp_isSo) 5 = .ok (.land, 1) by decide +kernel) ?_
  refine v_aload_n (pc := 6) (show decode (tC tSp_isSo) 6 = .ok (.aload_n 0, 1) by decide +kernel) 0 rfl rfl ?_
  obtain ⟨v1, e2, h⟩ := ob h
  refine v_getI (pc := 7) oF_Sp_21 (by decide) e2 (show decode (tC tSp_isSo) 7 = .ok (.getfield 21, 3) by decide +kernel) ?_
  refine v_i2l (pc := 10) (show decode (tC tSp_isSo) 10 = .ok (.i2l, 1) by decide +kernel) ?_
  refine v_ldc2 (pc := 11) (v := 4294967295) (gT_in 1153 (by decide +kernel) rfl) (show decode (tC tSp_isSo) 11 = .ok (.ldc2_w 27, 3) by decide +kernel) ?_
  refine v_land (pc := 14) (show decode (tC tSp_isSo) 14 = .ok (.land, 1) by decide +kernel) ?_
  refine v_lcmp (pc := 15) (show decode (tC tSp_isSo) 15 = .ok (.lcmp, 1) by decide +kernel) ?_
  refine v_if_ge (pc := 16) 23 (show decode (tC tSp_isSo) 16 = .ok (.ifCond .ge 7, 3) by decide +kernel) (by decide) (fun c => ?_) (fun c => ?_)
  · replace h := ite_t c h
    refine v_iconst (pc := 23) (v := 0) (show decode (tC tSp_isSo) 23 = .ok (.iconst 0, 1) by decide +kernel) (by decide) ?_
    exact wSp_isSo_24 hR hl  x0 x1 0 S h
  · replace h := ite_f c h
    refine v_iconst (pc := 19) (v := 1) (show decode (tC tSp_isSo) 19 = .ok (.iconst 1, 1) by decide +kernel) (by decide) ?_
    refine v_goto (pc := 20) 24 (show decode (tC tSp_isSo) 20 = .ok (.goto 4, 3) by decide +kernel) (by decide) ?_
    exact wSp_isSo_24 hR hl  x0 x1 1 S h
theorem cSp_isSo {l : Launch} (hl : l.flags = pinnedFlags ++ [noTraceFlag]) {D : va_G} {dA : Nat → ClassId} {B : Nat} {x0 : Nat} {x1 : Int32} {S : Sx} {X : Int32 × Sx} (h : fSp_isSo x0 x1 S = some X) : Mx l ySp_isSo tSp_isSo rSp_isSo 0 0 D dA B S [.ref x0, .int x1] 0 (some (.int X.1)) X.2 :=
  mx_of hl (by decide) rfl rfl (Nat.le_of_ble_eq_true rfl) (fun Γ e1 e2 e3 e4 e5 => by subst e1; subst e3; subst e4; subst e5; exact wSp_isSo e2 hl x0 x1 S h)
