theorem oF_Mp_10 : okF "MatchPipe" 10 0 0 1 := ⟨_, rfl, by decide, gT_in 505 (by decide +kernel) rfl, rfl⟩
theorem oF_Mp_16 : okF "MatchPipe" 16 8 0 1 := ⟨_, rfl, by decide, gT_in 465 (by decide +kernel) rfl, rfl⟩
theorem oF_Mp_20 : okF "MatchPipe" 20 0 1 1 := ⟨_, rfl, by decide, gT_in 506 (by decide +kernel) rfl, rfl⟩
theorem oF_Mp_21 : okF "MatchPipe" 21 8 1 1 := ⟨_, rfl, by decide, gT_in 467 (by decide +kernel) rfl, rfl⟩
theorem oF_Mp_25 : okF "MatchPipe" 25 0 2 1 := ⟨_, rfl, by decide, gT_in 507 (by decide +kernel) rfl, rfl⟩
theorem oF_Mp_29 : okF "MatchPipe" 29 0 3 1 := ⟨_, rfl, by decide, gT_in 508 (by decide +kernel) rfl, rfl⟩
theorem oF_Mp_36 : okF "MatchPipe" 36 0 4 1 := ⟨_, rfl, by decide, gT_in 509 (by decide +kernel) rfl, rfl⟩
theorem oF_Mp_40 : okF "MatchPipe" 40 0 5 1 := ⟨_, rfl, by decide, gT_in 510 (by decide +kernel) rfl, rfl⟩
theorem oF_Op_12 : okF "MatchPipe$Operation" 12 9 0 1 := ⟨_, rfl, by decide, gT_in 390 (by decide +kernel) rfl, rfl⟩
theorem oF_Op_21 : okF "MatchPipe$Operation" 21 9 1 1 := ⟨_, rfl, by decide, gT_in 393 (by decide +kernel) rfl, rfl⟩
theorem oF_Pr_17 : okF "MatchPipe$Program" 17 1 1 1 := ⟨_, rfl, by decide, gT_in 284 (by decide +kernel) rfl, rfl⟩
theorem oF_Pr_35 : okF "MatchPipe$Program" 35 1 4 1 := ⟨_, rfl, by decide, gT_in 294 (by decide +kernel) rfl, rfl⟩
theorem oF_St_9 : okF "MatchPipe$State" 9 2 0 1 := ⟨_, rfl, by decide, gT_in 110 (by decide +kernel) rfl, rfl⟩
theorem oC_Mp_7 : okC "MatchPipe" 7 8 := ⟨_, rfl, gT_in 85 (by decide +kernel) rfl, gT_in 86 (by decide +kernel) rfl, gT_in 56 (by decide +kernel) rfl⟩
theorem oC_Mp_26 : okC "MatchPipe" 26 5 := ⟨_, rfl, gT_in 501 (by decide +kernel) rfl, gT_in 178 (by decide +kernel) rfl, gT_in 61 (by decide +kernel) rfl⟩
theorem oC_Mp_33 : okC "MatchPipe" 33 10 := ⟨_, rfl, gT_in 503 (by decide +kernel) rfl, gT_in 380 (by decide +kernel) rfl, gT_in 65 (by decide +kernel) rfl⟩
theorem oC_Li_9 : okC "MatchPipe$Line" 9 1 := ⟨_, rfl, gT_in 91 (by decide +kernel) rfl, gT_in 92 (by decide +kernel) rfl, gT_in 57 (by decide +kernel) rfl⟩
theorem oC_Li_18 : okC "MatchPipe$Line" 18 7 := ⟨_, rfl, gT_in 332 (by decide +kernel) rfl, gT_in 333 (by decide +kernel) rfl, gT_in 63 (by decide +kernel) rfl⟩
theorem oC_Li_25 : okC "MatchPipe$Line" 25 9 := ⟨_, rfl, gT_in 368 (by decide +kernel) rfl, gT_in 372 (by decide +kernel) rfl, gT_in 64 (by decide +kernel) rfl⟩
theorem oC_Li_31 : okC "MatchPipe$Line" 31 11 := ⟨_, rfl, gT_in 370 (by decide +kernel) rfl, gT_in 427 (by decide +kernel) rfl, gT_in 66 (by decide +kernel) rfl⟩
theorem oC_Op_9 : okC "MatchPipe$Operation" 9 5 := ⟨_, rfl, gT_in 377 (by decide +kernel) rfl, gT_in 178 (by decide +kernel) rfl, gT_in 61 (by decide +kernel) rfl⟩
theorem oC_Op_18 : okC "MatchPipe$Operation" 18 10 := ⟨_, rfl, gT_in 379 (by decide +kernel) rfl, gT_in 380 (by decide +kernel) rfl, gT_in 65 (by decide +kernel) rfl⟩
theorem oC_Pr_15 : okC "MatchPipe$Program" 15 2 := ⟨_, rfl, gT_in 97 (by decide +kernel) rfl, gT_in 105 (by decide +kernel) rfl, gT_in 58 (by decide +kernel) rfl⟩
theorem oC_Pr_21 : okC "MatchPipe$Program" 21 3 := ⟨_, rfl, gT_in 99 (by decide +kernel) rfl, gT_in 144 (by decide +kernel) rfl, gT_in 59 (by decide +kernel) rfl⟩
theorem oC_Pr_27 : okC "MatchPipe$Program" 27 4 := ⟨_, rfl, gT_in 101 (by decide +kernel) rfl, gT_in 171 (by decide +kernel) rfl, gT_in 60 (by decide +kernel) rfl⟩
theorem oC_Pr_33 : okC "MatchPipe$Program" 33 6 := ⟨_, rfl, gT_in 103 (by decide +kernel) rfl, gT_in 253 (by decide +kernel) rfl, gT_in 62 (by decide +kernel) rfl⟩
theorem oC_Ta_9 : okC "MatchPipe$Table" 9 5 := ⟨_, rfl, gT_in 176 (by decide +kernel) rfl, gT_in 178 (by decide +kernel) rfl, gT_in 61 (by decide +kernel) rfl⟩
/-! MatchPipe$Bits.<init>()V -/
def yBi_init : MethodName := ⟨"MatchPipe$Bits", "<init>", "()V"⟩
def tBi_init : tM := (prog_3_method_1_code, "MatchPipe$Bits", 1, "<init>", none, [])
def rBi_init : Room := { frames := 1, cells := 1, slots := 15, locals := 40 }
theorem kBi_init : cOf yBi_init tBi_init ∈ gT := gT_in 383 (by decide +kernel) rfl
theorem iBi_init : Cond.initialized yBi_init.cls ∈ gT := gT_in 65 (by decide +kernel) rfl
theorem mBi_init : okM yBi_init 0 := ⟨by decide, by decide, by unfold nPar; decide +kernel⟩
theorem nBi_init : Cond.instanceMethod yBi_init ∈ gT := gT_in 382 (by decide +kernel) rfl
def fBi_init (x0 : Nat) (S : Sx) : Option (Sx) :=
    bd2 (mk S 100 15) fun a1 S2 =>
    (pX S2 10 0 x0 a1).bind fun S4 =>
    some S4
set_option maxRecDepth 100000 in
set_option maxHeartbeats 4000000 in
theorem wBi_init {Γ : vG} (hR : gR Γ = rBi_init) (hl : (gl Γ).flags = pinnedFlags ++ [noTraceFlag]) (x0 : Nat) (S : Sx) {X : Sx} (h : fBi_init x0 S = some X) : vV Γ tBi_init (mQ Γ 1 15 0 none X) S 0 0 0 [(0, .ref x0)] [] := by
  unfold fBi_init at h
  refine v_aload_n (pc := 0) (show decode (tC tBi_init) 0 = .ok (.aload_n 0, 1) by decide +kernel) 0 rfl rfl ?_
  refine v_obj (pc := 1) (gT_in 384 (by decide +kernel) rfl) wObj1 wObj2 (by rw [hR]; decide) (by rw [hR]; decide) (show decode (tC tBi_init) 1 = .ok (.invokespecial 3, 3) by decide +kernel) ?_
  refine v_aload_n (pc := 4) (show decode (tC tBi_init) 4 = .ok (.aload_n 0, 1) by decide +kernel) 0 rfl rfl ?_
  refine v_bipush (pc := 5) (v := 15) (show decode (tC tBi_init) 5 = .ok (.bipush 15, 2) by decide +kernel) (by decide) ?_
  obtain ⟨a1, S2, e3, h⟩ := ob2 h
  refine v_mkI (pc := 7) (n := 15) e3 (by decide) (by decide) (by decide) (by rw [hR]; (try simp only [rBi_init]); omega) (by rw [hR]; (try simp only [rBi_init]); omega) (show decode (tC tBi_init) 7 = .ok (.newarray .int, 2) by decide +kernel) ?_
  obtain ⟨S4, e5, h⟩ := ob h
  refine v_putX (pc := 9) oF_Bi_9 rfl (own_ok (by decide +kernel)) e5 (show decode (tC tBi_init) 9 = .ok (.putfield 9, 3) by decide +kernel) ?_
  obtain rfl := Option.some.inj h
  refine v_wide (ce2 := 1) (sl2 := 15) (by (try simp only [rBi_init]); omega) (by (try simp only [rBi_init]); omega) ?_
  exact v_vret (pc := 12) rfl (show decode (tC tBi_init) 12 = .ok (.return_, 1) by decide +kernel)
theorem cBi_init {l : Launch} (hl : l.flags = pinnedFlags ++ [noTraceFlag]) {D : va_G} {dA : Nat → ClassId} {B : Nat} {x0 : Nat} {S : Sx} {X : Sx} (h : fBi_init x0 S = some X) : Mx l yBi_init tBi_init rBi_init 1 15 D dA B S [.ref x0] 0 none X :=
  mx_of hl (by decide) rfl rfl (Nat.le_of_ble_eq_true rfl) (fun Γ e1 e2 e3 e4 e5 => by subst e1; subst e3; subst e4; subst e5; exact wBi_init e2 hl x0 S h)
/-! MatchPipe$Entry.<init>()V -/
def yEn_init : MethodName := ⟨"MatchPipe$Entry", "<init>", "()V"⟩
def tEn_init : tM := (prog_4_method_1_code, "MatchPipe$Entry", 1, "<init>", none, [])
def rEn_init : Room := { frames := 1, cells := 0, slots := 0, locals := 40 }
theorem kEn_init : cOf yEn_init tEn_init ∈ gT := gT_in 181 (by decide +kernel) rfl
theorem iEn_init : Cond.initialized yEn_init.cls ∈ gT := gT_in 61 (by decide +kernel) rfl
theorem mEn_init : okM yEn_init 0 := ⟨by decide, by decide, by unfold nPar; decide +kernel⟩
theorem nEn_init : Cond.instanceMethod yEn_init ∈ gT := gT_in 180 (by decide +kernel) rfl
def fEn_init (x0 : Nat) (S : Sx) : Option (Sx) :=
    some S
set_option maxRecDepth 100000 in
set_option maxHeartbeats 4000000 in
theorem wEn_init {Γ : vG} (hR : gR Γ = rEn_init) (hl : (gl Γ).flags = pinnedFlags ++ [noTraceFlag]) (x0 : Nat) (S : Sx) {X : Sx} (h : fEn_init x0 S = some X) : vV Γ tEn_init (mQ Γ 0 0 0 none X) S 0 0 0 [(0, .ref x0)] [] := by
  unfold fEn_init at h
  refine v_aload_n (pc := 0) (show decode (tC tEn_init) 0 = .ok (.aload_n 0, 1) by decide +kernel) 0 rfl rfl ?_
  refine v_obj (pc := 1) (gT_in 182 (by decide +kernel) rfl) wObj1 wObj2 (by rw [hR]; decide) (by rw [hR]; decide) (show decode (tC tEn_init) 1 = .ok (.invokespecial 1, 3) by decide +kernel) ?_
  obtain rfl := Option.some.inj h
  refine v_wide (ce2 := 0) (sl2 := 0) (by decide) (by decide) ?_
  exact v_vret (pc := 4) rfl (show decode (tC tEn_init) 4 = .ok (.return_, 1) by decide +kernel)
theorem cEn_init {l : Launch} (hl : l.flags = pinnedFlags ++ [noTraceFlag]) {D : va_G} {dA : Nat → ClassId} {B : Nat} {x0 : Nat} {S : Sx} {X : Sx} (h : fEn_init x0 S = some X) : Mx l yEn_init tEn_init rEn_init 0 0 D dA B S [.ref x0] 0 none X :=
  mx_of hl (by decide) rfl rfl (Nat.le_of_ble_eq_true rfl) (fun Γ e1 e2 e3 e4 e5 => by subst e1; subst e3; subst e4; subst e5; exact wEn_init e2 hl x0 S h)
/-! MatchPipe$Header.<init>()V -/
def yHe_init : MethodName := ⟨"MatchPipe$Header", "<init>", "()V"⟩
def tHe_init : tM := (prog_5_method_1_code, "MatchPipe$Header", 1, "<init>", none, [])
def rHe_init : Room := { frames := 1, cells := 2, slots := 32, locals := 40 }
theorem kHe_init : cOf yHe_init tHe_init ∈ gT := gT_in 430 (by decide +kernel) rfl
theorem iHe_init : Cond.initialized yHe_init.cls ∈ gT := gT_in 66 (by decide +kernel) rfl
theorem mHe_init : okM yHe_init 0 := ⟨by decide, by decide, by unfold nPar; decide +kernel⟩
theorem nHe_init : Cond.instanceMethod yHe_init ∈ gT := gT_in 429 (by decide +kernel) rfl
def fHe_init (x0 : Nat) (S : Sx) : Option (Sx) :=
    bd2 (mk S 100 16) fun a1 S2 =>
    (pX S2 11 0 x0 a1).bind fun S4 =>
    bd2 (mk S4 100 16) fun a6 S7 =>
    (pX S7 11 1 x0 a6).bind fun S9 =>
    some S9
set_option maxRecDepth 100000 in
set_option maxHeartbeats 4000000 in
theorem wHe_init {Γ : vG} (hR : gR Γ = rHe_init) (hl : (gl Γ).flags = pinnedFlags ++ [noTraceFlag]) (x0 : Nat) (S : Sx) {X : Sx} (h : fHe_init x0 S = some X) : vV Γ tHe_init (mQ Γ 2 32 0 none X) S 0 0 0 [(0, .ref x0)] [] := by
  unfold fHe_init at h
  refine v_aload_n (pc := 0) (show decode (tC tHe_init) 0 = .ok (.aload_n 0, 1) by decide +kernel) 0 rfl rfl ?_
  refine v_obj (pc := 1) (gT_in 431 (by decide +kernel) rfl) wObj1 wObj2 (by rw [hR]; decide) (by rw [hR]; decide) (show decode (tC tHe_init) 1 = .ok (.invokespecial 3, 3) by decide +kernel) ?_
  refine v_aload_n (pc := 4) (show decode (tC tHe_init) 4 = .ok (.aload_n 0, 1) by decide +kernel) 0 rfl rfl ?_
  refine v_bipush (pc := 5) (v := 16) (show decode (tC tHe_init) 5 = .ok (.bipush 16, 2) by decide +kernel) (by decide) ?_
  obtain ⟨a1, S2, e3, h⟩ := ob2 h
  refine v_mkI (pc := 7) (n := 16) e3 (by decide) (by decide) (by decide) (by rw [hR]; (try simp only [rHe_init]); omega) (by rw [hR]; (try simp only [rHe_init]); omega) (show decode (tC tHe_init) 7 = .ok (.newarray .int, 2) by decide +kernel) ?_
  obtain ⟨S4, e5, h⟩ := ob h
  refine v_putX (pc := 9) oF_He_9 rfl (own_ok (by decide +kernel)) e5 (show decode (tC tHe_init) 9 = .ok (.putfield 9, 3) by decide +kernel) ?_
  refine v_aload_n (pc := 12) (show decode (tC tHe_init) 12 = .ok (.aload_n 0, 1) by decide +kernel) 0 rfl rfl ?_
  refine v_bipush (pc := 13) (v := 16) (show decode (tC tHe_init) 13 = .ok (.bipush 16, 2) by decide +kernel) (by decide) ?_
  obtain ⟨a6, S7, e8, h⟩ := ob2 h
  refine v_mkI (pc := 15) (n := 16) e8 (by decide) (by decide) (by decide) (by rw [hR]; (try simp only [rHe_init]); omega) (by rw [hR]; (try simp only [rHe_init]); omega) (show decode (tC tHe_init) 15 = .ok (.newarray .int, 2) by decide +kernel) ?_
  obtain ⟨S9, e10, h⟩ := ob h
  refine v_putX (pc := 17) oF_He_15 rfl (own_ok (by decide +kernel)) e10 (show decode (tC tHe_init) 17 = .ok (.putfield 15, 3) by decide +kernel) ?_
  obtain rfl := Option.some.inj h
  refine v_wide (ce2 := 2) (sl2 := 32) (by (try simp only [rHe_init]); omega) (by (try simp only [rHe_init]); omega) ?_
  exact v_vret (pc := 20) rfl (show decode (tC tHe_init) 20 = .ok (.return_, 1) by decide +kernel)
theorem cHe_init {l : Launch} (hl : l.flags = pinnedFlags ++ [noTraceFlag]) {D : va_G} {dA : Nat → ClassId} {B : Nat} {x0 : Nat} {S : Sx} {X : Sx} (h : fHe_init x0 S = some X) : Mx l yHe_init tHe_init rHe_init 2 32 D dA B S [.ref x0] 0 none X :=
  mx_of hl (by decide) rfl rfl (Nat.le_of_ble_eq_true rfl) (fun Γ e1 e2 e3 e4 e5 => by subst e1; subst e3; subst e4; subst e5; exact wHe_init e2 hl x0 S h)
/-! MatchPipe$Layout.<init>()V -/
def yLa_init : MethodName := ⟨"MatchPipe$Layout", "<init>", "()V"⟩
def tLa_init : tM := (prog_6_method_1_code, "MatchPipe$Layout", 1, "<init>", none, [])
def rLa_init : Room := { frames := 1, cells := 3, slots := 37, locals := 40 }
theorem kLa_init : cOf yLa_init tLa_init ∈ gT := gT_in 336 (by decide +kernel) rfl
theorem iLa_init : Cond.initialized yLa_init.cls ∈ gT := gT_in 63 (by decide +kernel) rfl
theorem mLa_init : okM yLa_init 0 := ⟨by decide, by decide, by unfold nPar; decide +kernel⟩
theorem nLa_init : Cond.instanceMethod yLa_init ∈ gT := gT_in 335 (by decide +kernel) rfl
def fLa_init (x0 : Nat) (S : Sx) : Option (Sx) :=
    bd2 (mk S 100 16) fun a1 S2 =>
    (pX S2 7 0 x0 a1).bind fun S4 =>
    bd2 (mk S4 100 13) fun a6 S7 =>
    (pX S7 7 1 x0 a6).bind fun S9 =>
    bd2 (mk S9 100 8) fun a11 S12 =>
    (pX S12 7 2 x0 a11).bind fun S14 =>
    (pI S14 7 6 x0 (-1)).bind fun S16 =>
    some S16
set_option maxRecDepth 100000 in
set_option maxHeartbeats 4000000 in
theorem wLa_init {Γ : vG} (hR : gR Γ = rLa_init) (hl : (gl Γ).flags = pinnedFlags ++ [noTraceFlag]) (x0 : Nat) (S : Sx) {X : Sx} (h : fLa_init x0 S = some X) : vV Γ tLa_init (mQ Γ 3 37 0 none X) S 0 0 0 [(0, .ref x0)] [] := by
  unfold fLa_init at h
  refine v_aload_n (pc := 0) (show decode (tC tLa_init) 0 = .ok (.aload_n 0, 1) by decide +kernel) 0 rfl rfl ?_
  refine v_obj (pc := 1) (gT_in 337 (by decide +kernel) rfl) wObj1 wObj2 (by rw [hR]; decide) (by rw [hR]; decide) (show decode (tC tLa_init) 1 = .ok (.invokespecial 3, 3) by decide +kernel) ?_
  refine v_aload_n (pc := 4) (show decode (tC tLa_init) 4 = .ok (.aload_n 0, 1) by decide +kernel) 0 rfl rfl ?_
  refine v_bipush (pc := 5) (v := 16) (show decode (tC tLa_init) 5 = .ok (.bipush 16, 2) by decide +kernel) (by decide) ?_
  obtain ⟨a1, S2, e3, h⟩ := ob2 h
  refine v_mkI (pc := 7) (n := 16) e3 (by decide) (by decide) (by decide) (by rw [hR]; (try simp only [rLa_init]); omega) (by rw [hR]; (try simp only [rLa_init]); omega) (show decode (tC tLa_init) 7 = .ok (.newarray .int, 2) by decide +kernel) ?_
  obtain ⟨S4, e5, h⟩ := ob h
  refine v_putX (pc := 9) oF_La_9 rfl (own_ok (by decide +kernel)) e5 (show decode (tC tLa_init) 9 = .ok (.putfield 9, 3) by decide +kernel) ?_
  refine v_aload_n (pc := 12) (show decode (tC tLa_init) 12 = .ok (.aload_n 0, 1) by decide +kernel) 0 rfl rfl ?_
  refine v_bipush (pc := 13) (v := 13) (show decode (tC tLa_init) 13 = .ok (.bipush 13, 2) by decide +kernel) (by decide) ?_
  obtain ⟨a6, S7, e8, h⟩ := ob2 h
  refine v_mkI (pc := 15) (n := 13) e8 (by decide) (by decide) (by decide) (by rw [hR]; (try simp only [rLa_init]); omega) (by rw [hR]; (try simp only [rLa_init]); omega) (show decode (tC tLa_init) 15 = .ok (.newarray .int, 2) by decide +kernel) ?_
  obtain ⟨S9, e10, h⟩ := ob h
  refine v_putX (pc := 17) oF_La_15 rfl (own_ok (by decide +kernel)) e10 (show decode (tC tLa_init) 17 = .ok (.putfield 15, 3) by decide +kernel) ?_
  refine v_aload_n (pc := 20) (show decode (tC tLa_init) 20 = .ok (.aload_n 0, 1) by decide +kernel) 0 rfl rfl ?_
  refine v_bipush (pc := 21) (v := 8) (show decode (tC tLa_init) 21 = .ok (.bipush 8, 2) by decide +kernel) (by decide) ?_
  obtain ⟨a11, S12, e13, h⟩ := ob2 h
  refine v_mkI (pc := 23) (n := 8) e13 (by decide) (by decide) (by decide) (by rw [hR]; (try simp only [rLa_init]); omega) (by rw [hR]; (try simp only [rLa_init]); omega) (show decode (tC tLa_init) 23 = .ok (.newarray .int, 2) by decide +kernel) ?_
  obtain ⟨S14, e15, h⟩ := ob h
  refine v_putX (pc := 25) oF_La_18 rfl (own_ok (by decide +kernel)) e15 (show decode (tC tLa_init) 25 = .ok (.putfield 18, 3) by decide +kernel) ?_
  refine v_aload_n (pc := 28) (show decode (tC tLa_init) 28 = .ok (.aload_n 0, 1) by decide +kernel) 0 rfl rfl ?_
  refine v_iconst (pc := 29) (v := (-1)) (show decode (tC tLa_init) 29 = .ok (.iconst (-1), 1) by decide +kernel) (by decide) ?_
  obtain ⟨S16, e17, h⟩ := ob h
  refine v_putI (pc := 30) oF_La_21 (fin_ok (kd := 7) (k := 6) (by decide +kernel)) e17 (show decode (tC tLa_init) 30 = .ok (.putfield 21, 3) by decide +kernel) ?_
  obtain rfl := Option.some.inj h
  refine v_wide (ce2 := 3) (sl2 := 37) (by (try simp only [rLa_init]); omega) (by (try simp only [rLa_init]); omega) ?_
  exact v_vret (pc := 33) rfl (show decode (tC tLa_init) 33 = .ok (.return_, 1) by decide +kernel)
theorem cLa_init {l : Launch} (hl : l.flags = pinnedFlags ++ [noTraceFlag]) {D : va_G} {dA : Nat → ClassId} {B : Nat} {x0 : Nat} {S : Sx} {X : Sx} (h : fLa_init x0 S = some X) : Mx l yLa_init tLa_init rLa_init 3 37 D dA B S [.ref x0] 0 none X :=
  mx_of hl (by decide) rfl rfl (Nat.le_of_ble_eq_true rfl) (fun Γ e1 e2 e3 e4 e5 => by subst e1; subst e3; subst e4; subst e5; exact wLa_init e2 hl x0 S h)
/-! MatchPipe$Operation.<init>()V -/
def yOp_init : MethodName := ⟨"MatchPipe$Operation", "<init>", "()V"⟩
def tOp_init : tM := (prog_8_method_1_code, "MatchPipe$Operation", 1, "<init>", none, [])
def rOp_init : Room := { frames := 2, cells := 3, slots := 24, locals := 60 }
theorem kOp_init : cOf yOp_init tOp_init ∈ gT := gT_in 375 (by decide +kernel) rfl
theorem iOp_init : Cond.initialized yOp_init.cls ∈ gT := gT_in 64 (by decide +kernel) rfl
theorem mOp_init : okM yOp_init 0 := ⟨by decide, by decide, by unfold nPar; decide +kernel⟩
theorem nOp_init : Cond.instanceMethod yOp_init ∈ gT := gT_in 374 (by decide +kernel) rfl
def fOp_init (x0 : Nat) (S : Sx) : Option (Sx) :=
    bd2 (mk S 5 8) fun a1 S2 =>
    (fEn_init a1 S2).bind fun S5 =>
    (pX S5 9 0 x0 a1).bind fun S6 =>
    bd2 (mk S6 10 1) fun a8 S9 =>
    (fBi_init a8 S9).bind fun S12 =>
    (pX S12 9 1 x0 a8).bind fun S13 =>
    some S13
set_option maxRecDepth 100000 in
set_option maxHeartbeats 4000000 in
theorem wOp_init {Γ : vG} (hR : gR Γ = rOp_init) (hl : (gl Γ).flags = pinnedFlags ++ [noTraceFlag]) (x0 : Nat) (S : Sx) {X : Sx} (h : fOp_init x0 S = some X) : vV Γ tOp_init (mQ Γ 3 24 0 none X) S 0 0 0 [(0, .ref x0)] [] := by
  unfold fOp_init at h
  refine v_aload_n (pc := 0) (show decode (tC tOp_init) 0 = .ok (.aload_n 0, 1) by decide +kernel) 0 rfl rfl ?_
  refine v_obj (pc := 1) (gT_in 376 (by decide +kernel) rfl) wObj1 wObj2 (by rw [hR]; decide) (by rw [hR]; decide) (show decode (tC tOp_init) 1 = .ok (.invokespecial 3, 3) by decide +kernel) ?_
  refine v_aload_n (pc := 4) (show decode (tC tOp_init) 4 = .ok (.aload_n 0, 1) by decide +kernel) 0 rfl rfl ?_
  obtain ⟨a1, S2, e3, h⟩ := ob2 h
  refine v_newO (pc := 5) (n := 8) oC_Op_9 rfl e3 (by rw [hR]; (try simp only [rOp_init, rBi_init, rEn_init]); omega) (by rw [hR]; (try simp only [rOp_init, rBi_init, rEn_init]); omega) (show decode (tC tOp_init) 5 = .ok (.new 9, 3) by decide +kernel) ?_
  refine v_dup (pc := 8) (show decode (tC tOp_init) 8 = .ok (.dup, 1) by decide +kernel) rfl ?_
  obtain ⟨S5, e4, h⟩ := ob h
  refine v_call (pc := 9) (v := none) (y := yEn_init) (θ' := tEn_init) (rm := rEn_init) (av := [.ref a1]) (st := [.ref a1, .ref x0]) (cEn_init (l := gl Γ) hl e4) kEn_init iEn_init (iv_initN (y := yEn_init) (θ' := tEn_init) (As := []) rfl rfl kEn_init rfl (List.mem_of_getElem? (l := nN) (i := 6) rfl) nEn_init mEn_init rfl (show decode (tC tOp_init) 9 = .ok (.invokespecial 11, 3) by decide +kernel)) ⟨by rw [hR]; decide, by rw [hR]; decide, by rw [hR]; (try simp only [rOp_init, rBi_init, rEn_init]); omega, by rw [hR]; (try simp only [rOp_init, rBi_init, rEn_init]); omega⟩ (Nat.le_of_ble_eq_true rfl) ?_
  obtain ⟨S6, e7, h⟩ := ob h
  refine v_putX (pc := 12) oF_Op_12 rfl (own_ok (by decide +kernel)) e7 (show decode (tC tOp_init) 12 = .ok (.putfield 12, 3) by decide +kernel) ?_
  refine v_aload_n (pc := 15) (show decode (tC tOp_init) 15 = .ok (.aload_n 0, 1) by decide +kernel) 0 rfl rfl ?_
  obtain ⟨a8, S9, e10, h⟩ := ob2 h
  refine v_newO (pc := 16) (n := 1) oC_Op_18 rfl e10 (by rw [hR]; (try simp only [rOp_init, rBi_init, rEn_init]); omega) (by rw [hR]; (try simp only [rOp_init, rBi_init, rEn_init]); omega) (show decode (tC tOp_init) 16 = .ok (.new 18, 3) by decide +kernel) ?_
  refine v_dup (pc := 19) (show decode (tC tOp_init) 19 = .ok (.dup, 1) by decide +kernel) rfl ?_
  obtain ⟨S12, e11, h⟩ := ob h
  refine v_call (pc := 20) (v := none) (y := yBi_init) (θ' := tBi_init) (rm := rBi_init) (av := [.ref a8]) (st := [.ref a8, .ref x0]) (cBi_init (l := gl Γ) hl e11) kBi_init iBi_init (iv_initN (y := yBi_init) (θ' := tBi_init) (As := []) rfl rfl kBi_init rfl (List.mem_of_getElem? (l := nN) (i := 7) rfl) nBi_init mBi_init rfl (show decode (tC tOp_init) 20 = .ok (.invokespecial 20, 3) by decide +kernel)) ⟨by rw [hR]; decide, by rw [hR]; decide, by rw [hR]; (try simp only [rOp_init, rBi_init, rEn_init]); omega, by rw [hR]; (try simp only [rOp_init, rBi_init, rEn_init]); omega⟩ (Nat.le_of_ble_eq_true rfl) ?_
  obtain ⟨S13, e14, h⟩ := ob h
  refine v_putX (pc := 23) oF_Op_21 rfl (own_ok (by decide +kernel)) e14 (show decode (tC tOp_init) 23 = .ok (.putfield 21, 3) by decide +kernel) ?_
  obtain rfl := Option.some.inj h
  refine v_wide (ce2 := 3) (sl2 := 24) (by (try simp only [rOp_init, rBi_init, rEn_init]); omega) (by (try simp only [rOp_init, rBi_init, rEn_init]); omega) ?_
  exact v_vret (pc := 26) rfl (show decode (tC tOp_init) 26 = .ok (.return_, 1) by decide +kernel)
theorem cOp_init {l : Launch} (hl : l.flags = pinnedFlags ++ [noTraceFlag]) {D : va_G} {dA : Nat → ClassId} {B : Nat} {x0 : Nat} {S : Sx} {X : Sx} (h : fOp_init x0 S = some X) : Mx l yOp_init tOp_init rOp_init 3 24 D dA B S [.ref x0] 0 none X :=
  mx_of hl (by decide) rfl rfl (Nat.le_of_ble_eq_true rfl) (fun Γ e1 e2 e3 e4 e5 => by subst e1; subst e3; subst e4; subst e5; exact wOp_init e2 hl x0 S h)
/-! MatchPipe$Action.<init>()V -/
def yAc_init : MethodName := ⟨"MatchPipe$Action", "<init>", "()V"⟩
def tAc_init : tM := (prog_2_method_1_code, "MatchPipe$Action", 1, "<init>", none, [])
def rAc_init : Room := { frames := 1, cells := 4, slots := 16, locals := 40 }
theorem kAc_init : cOf yAc_init tAc_init ∈ gT := gT_in 147 (by decide +kernel) rfl
theorem iAc_init : Cond.initialized yAc_init.cls ∈ gT := gT_in 59 (by decide +kernel) rfl
theorem mAc_init : okM yAc_init 0 := ⟨by decide, by decide, by unfold nPar; decide +kernel⟩
theorem nAc_init : Cond.instanceMethod yAc_init ∈ gT := gT_in 146 (by decide +kernel) rfl
def fAc_init (x0 : Nat) (S : Sx) : Option (Sx) :=
    bd2 (mk S 100 4) fun a1 S2 =>
    (pX S2 3 0 x0 a1).bind fun S4 =>
    bd2 (mk S4 100 4) fun a6 S7 =>
    (pX S7 3 1 x0 a6).bind fun S9 =>
    bd2 (mk S9 100 4) fun a11 S12 =>
    (pX S12 3 2 x0 a11).bind fun S14 =>
    bd2 (mk S14 100 4) fun a16 S17 =>
    (pX S17 3 3 x0 a16).bind fun S19 =>
    some S19
set_option maxRecDepth 100000 in
set_option maxHeartbeats 4000000 in
theorem wAc_init {Γ : vG} (hR : gR Γ = rAc_init) (hl : (gl Γ).flags = pinnedFlags ++ [noTraceFlag]) (x0 : Nat) (S : Sx) {X : Sx} (h : fAc_init x0 S = some X) : vV Γ tAc_init (mQ Γ 4 16 0 none X) S 0 0 0 [(0, .ref x0)] [] := by
  unfold fAc_init at h
  refine v_aload_n (pc := 0) (show decode (tC tAc_init) 0 = .ok (.aload_n 0, 1) by decide +kernel) 0 rfl rfl ?_
  refine v_obj (pc := 1) (gT_in 148 (by decide +kernel) rfl) wObj1 wObj2 (by rw [hR]; decide) (by rw [hR]; decide) (show decode (tC tAc_init) 1 = .ok (.invokespecial 3, 3) by decide +kernel) ?_
  refine v_aload_n (pc := 4) (show decode (tC tAc_init) 4 = .ok (.aload_n 0, 1) by decide +kernel) 0 rfl rfl ?_
  refine v_iconst (pc := 5) (v := 4) (show decode (tC tAc_init) 5 = .ok (.iconst 4, 1) by decide +kernel) (by decide) ?_
  obtain ⟨a1, S2, e3, h⟩ := ob2 h
  refine v_mkI (pc := 6) (n := 4) e3 (by decide) (by decide) (by decide) (by rw [hR]; (try simp only [rAc_init]); omega) (by rw [hR]; (try simp only [rAc_init]); omega) (show decode (tC tAc_init) 6 = .ok (.newarray .int, 2) by decide +kernel) ?_
  obtain ⟨S4, e5, h⟩ := ob h
  refine v_putX (pc := 8) oF_Ac_9 rfl (own_ok (by decide +kernel)) e5 (show decode (tC tAc_init) 8 = .ok (.putfield 9, 3) by decide +kernel) ?_
  refine v_aload_n (pc := 11) (show decode (tC tAc_init) 11 = .ok (.aload_n 0, 1) by decide +kernel) 0 rfl rfl ?_
  refine v_iconst (pc := 12) (v := 4) (show decode (tC tAc_init) 12 = .ok (.iconst 4, 1) by decide +kernel) (by decide) ?_
  obtain ⟨a6, S7, e8, h⟩ := ob2 h
  refine v_mkI (pc := 13) (n := 4) e8 (by decide) (by decide) (by decide) (by rw [hR]; (try simp only [rAc_init]); omega) (by rw [hR]; (try simp only [rAc_init]); omega) (show decode (tC tAc_init) 13 = .ok (.newarray .int, 2) by decide +kernel) ?_
  obtain ⟨S9, e10, h⟩ := ob h
  refine v_putX (pc := 15) oF_Ac_15 rfl (own_ok (by decide +kernel)) e10 (show decode (tC tAc_init) 15 = .ok (.putfield 15, 3) by decide +kernel) ?_
  refine v_aload_n (pc := 18) (show decode (tC tAc_init) 18 = .ok (.aload_n 0, 1) by decide +kernel) 0 rfl rfl ?_
  refine v_iconst (pc := 19) (v := 4) (show decode (tC tAc_init) 19 = .ok (.iconst 4, 1) by decide +kernel) (by decide) ?_
  obtain ⟨a11, S12, e13, h⟩ := ob2 h
  refine v_mkI (pc := 20) (n := 4) e13 (by decide) (by decide) (by decide) (by rw [hR]; (try simp only [rAc_init]); omega) (by rw [hR]; (try simp only [rAc_init]); omega) (show decode (tC tAc_init) 20 = .ok (.newarray .int, 2) by decide +kernel) ?_
  obtain ⟨S14, e15, h⟩ := ob h
  refine v_putX (pc := 22) oF_Ac_18 rfl (own_ok (by decide +kernel)) e15 (show decode (tC tAc_init) 22 = .ok (.putfield 18, 3) by decide +kernel) ?_
  refine v_aload_n (pc := 25) (show decode (tC tAc_init) 25 = .ok (.aload_n 0, 1) by decide +kernel) 0 rfl rfl ?_
  refine v_iconst (pc := 26) (v := 4) (show decode (tC tAc_init) 26 = .ok (.iconst 4, 1) by decide +kernel) (by decide) ?_
  obtain ⟨a16, S17, e18, h⟩ := ob2 h
  refine v_mkI (pc := 27) (n := 4) e18 (by decide) (by decide) (by decide) (by rw [hR]; (try simp only [rAc_init]); omega) (by rw [hR]; (try simp only [rAc_init]); omega) (show decode (tC tAc_init) 27 = .ok (.newarray .int, 2) by decide +kernel) ?_
  obtain ⟨S19, e20, h⟩ := ob h
  refine v_putX (pc := 29) oF_Ac_21 rfl (own_ok (by decide +kernel)) e20 (show decode (tC tAc_init) 29 = .ok (.putfield 21, 3) by decide +kernel) ?_
  obtain rfl := Option.some.inj h
  refine v_wide (ce2 := 4) (sl2 := 16) (by (try simp only [rAc_init]); omega) (by (try simp only [rAc_init]); omega) ?_
  exact v_vret (pc := 32) rfl (show decode (tC tAc_init) 32 = .ok (.return_, 1) by decide +kernel)
theorem cAc_init {l : Launch} (hl : l.flags = pinnedFlags ++ [noTraceFlag]) {D : va_G} {dA : Nat → ClassId} {B : Nat} {x0 : Nat} {S : Sx} {X : Sx} (h : fAc_init x0 S = some X) : Mx l yAc_init tAc_init rAc_init 4 16 D dA B S [.ref x0] 0 none X :=
  mx_of hl (by decide) rfl rfl (Nat.le_of_ble_eq_true rfl) (fun Γ e1 e2 e3 e4 e5 => by subst e1; subst e3; subst e4; subst e5; exact wAc_init e2 hl x0 S h)
/-! MatchPipe$State.<init>()V -/
def ySt_init : MethodName := ⟨"MatchPipe$State", "<init>", "()V"⟩
def tSt_init : tM := (prog_10_method_1_code, "MatchPipe$State", 1, "<init>", none, [])
def rSt_init : Room := { frames := 1, cells := 4, slots := 16, locals := 40 }
theorem kSt_init : cOf ySt_init tSt_init ∈ gT := gT_in 108 (by decide +kernel) rfl
theorem iSt_init : Cond.initialized ySt_init.cls ∈ gT := gT_in 58 (by decide +kernel) rfl
theorem mSt_init : okM ySt_init 0 := ⟨by decide, by decide, by unfold nPar; decide +kernel⟩
theorem nSt_init : Cond.instanceMethod ySt_init ∈ gT := gT_in 107 (by decide +kernel) rfl
def fSt_init (x0 : Nat) (S : Sx) : Option (Sx) :=
    bd2 (mk S 100 4) fun a1 S2 =>
    (pX S2 2 0 x0 a1).bind fun S4 =>
    bd2 (mk S4 100 4) fun a6 S7 =>
    (pX S7 2 1 x0 a6).bind fun S9 =>
    bd2 (mk S9 100 4) fun a11 S12 =>
    (pX S12 2 2 x0 a11).bind fun S14 =>
    bd2 (mk S14 100 4) fun a16 S17 =>
    (pX S17 2 3 x0 a16).bind fun S19 =>
    some S19
set_option maxRecDepth 100000 in
set_option maxHeartbeats 4000000 in
theorem wSt_init {Γ : vG} (hR : gR Γ = rSt_init) (hl : (gl Γ).flags = pinnedFlags ++ [noTraceFlag]) (x0 : Nat) (S : Sx) {X : Sx} (h : fSt_init x0 S = some X) : vV Γ tSt_init (mQ Γ 4 16 0 none X) S 0 0 0 [(0, .ref x0)] [] := by
  unfold fSt_init at h
  refine v_aload_n (pc := 0) (show decode (tC tSt_init) 0 = .ok (.aload_n 0, 1) by decide +kernel) 0 rfl rfl ?_
  refine v_obj (pc := 1) (gT_in 109 (by decide +kernel) rfl) wObj1 wObj2 (by rw [hR]; decide) (by rw [hR]; decide) (show decode (tC tSt_init) 1 = .ok (.invokespecial 3, 3) by decide +kernel) ?_
  refine v_aload_n (pc := 4) (show decode (tC tSt_init) 4 = .ok (.aload_n 0, 1) by decide +kernel) 0 rfl rfl ?_
  refine v_iconst (pc := 5) (v := 4) (show decode (tC tSt_init) 5 = .ok (.iconst 4, 1) by decide +kernel) (by decide) ?_
  obtain ⟨a1, S2, e3, h⟩ := ob2 h
  refine v_mkI (pc := 6) (n := 4) e3 (by decide) (by decide) (by decide) (by rw [hR]; (try simp only [rSt_init]); omega) (by rw [hR]; (try simp only [rSt_init]); omega) (show decode (tC tSt_init) 6 = .ok (.newarray .int, 2) by decide +kernel) ?_
  obtain ⟨S4, e5, h⟩ := ob h
  refine v_putX (pc := 8) oF_St_9 rfl (own_ok (by decide +kernel)) e5 (show decode (tC tSt_init) 8 = .ok (.putfield 9, 3) by decide +kernel) ?_
  refine v_aload_n (pc := 11) (show decode (tC tSt_init) 11 = .ok (.aload_n 0, 1) by decide +kernel) 0 rfl rfl ?_
  refine v_iconst (pc := 12) (v := 4) (show decode (tC tSt_init) 12 = .ok (.iconst 4, 1) by decide +kernel) (by decide) ?_
  obtain ⟨a6, S7, e8, h⟩ := ob2 h
  refine v_mkI (pc := 13) (n := 4) e8 (by decide) (by decide) (by decide) (by rw [hR]; (try simp only [rSt_init]); omega) (by rw [hR]; (try simp only [rSt_init]); omega) (show decode (tC tSt_init) 13 = .ok (.newarray .int, 2) by decide +kernel) ?_
  obtain ⟨S9, e10, h⟩ := ob h
  refine v_putX (pc := 15) oF_St_15 rfl (own_ok (by decide +kernel)) e10 (show decode (tC tSt_init) 15 = .ok (.putfield 15, 3) by decide +kernel) ?_
  refine v_aload_n (pc := 18) (show decode (tC tSt_init) 18 = .ok (.aload_n 0, 1) by decide +kernel) 0 rfl rfl ?_
  refine v_iconst (pc := 19) (v := 4) (show decode (tC tSt_init) 19 = .ok (.iconst 4, 1) by decide +kernel) (by decide) ?_
  obtain ⟨a11, S12, e13, h⟩ := ob2 h
  refine v_mkI (pc := 20) (n := 4) e13 (by decide) (by decide) (by decide) (by rw [hR]; (try simp only [rSt_init]); omega) (by rw [hR]; (try simp only [rSt_init]); omega) (show decode (tC tSt_init) 20 = .ok (.newarray .int, 2) by decide +kernel) ?_
  obtain ⟨S14, e15, h⟩ := ob h
  refine v_putX (pc := 22) oF_St_18 rfl (own_ok (by decide +kernel)) e15 (show decode (tC tSt_init) 22 = .ok (.putfield 18, 3) by decide +kernel) ?_
  refine v_aload_n (pc := 25) (show decode (tC tSt_init) 25 = .ok (.aload_n 0, 1) by decide +kernel) 0 rfl rfl ?_
  refine v_iconst (pc := 26) (v := 4) (show decode (tC tSt_init) 26 = .ok (.iconst 4, 1) by decide +kernel) (by decide) ?_
  obtain ⟨a16, S17, e18, h⟩ := ob2 h
  refine v_mkI (pc := 27) (n := 4) e18 (by decide) (by decide) (by decide) (by rw [hR]; (try simp only [rSt_init]); omega) (by rw [hR]; (try simp only [rSt_init]); omega) (show decode (tC tSt_init) 27 = .ok (.newarray .int, 2) by decide +kernel) ?_
  obtain ⟨S19, e20, h⟩ := ob h
  refine v_putX (pc := 29) oF_St_21 rfl (own_ok (by decide +kernel)) e20 (show decode (tC tSt_init) 29 = .ok (.putfield 21, 3) by decide +kernel) ?_
  obtain rfl := Option.some.inj h
  refine v_wide (ce2 := 4) (sl2 := 16) (by (try simp only [rSt_init]); omega) (by (try simp only [rSt_init]); omega) ?_
  exact v_vret (pc := 32) rfl (show decode (tC tSt_init) 32 = .ok (.return_, 1) by decide +kernel)
theorem cSt_init {l : Launch} (hl : l.flags = pinnedFlags ++ [noTraceFlag]) {D : va_G} {dA : Nat → ClassId} {B : Nat} {x0 : Nat} {S : Sx} {X : Sx} (h : fSt_init x0 S = some X) : Mx l ySt_init tSt_init rSt_init 4 16 D dA B S [.ref x0] 0 none X :=
  mx_of hl (by decide) rfl rfl (Nat.le_of_ble_eq_true rfl) (fun Γ e1 e2 e3 e4 e5 => by subst e1; subst e3; subst e4; subst e5; exact wSt_init e2 hl x0 S h)
/-! MatchPipe$Step.<init>()V -/
def ySp_init : MethodName := ⟨"MatchPipe$Step", "<init>", "()V"⟩
def tSp_init : tM := (prog_11_method_1_code, "MatchPipe$Step", 1, "<init>", none, [])
def rSp_init : Room := { frames := 1, cells := 0, slots := 0, locals := 40 }
theorem kSp_init : cOf ySp_init tSp_init ∈ gT := gT_in 256 (by decide +kernel) rfl
theorem iSp_init : Cond.initialized ySp_init.cls ∈ gT := gT_in 62 (by decide +kernel) rfl
theorem mSp_init : okM ySp_init 0 := ⟨by decide, by decide, by unfold nPar; decide +kernel⟩
theorem nSp_init : Cond.instanceMethod ySp_init ∈ gT := gT_in 255 (by decide +kernel) rfl
def fSp_init (x0 : Nat) (S : Sx) : Option (Sx) :=
    some S
set_option maxRecDepth 100000 in
set_option maxHeartbeats 4000000 in
theorem wSp_init {Γ : vG} (hR : gR Γ = rSp_init) (hl : (gl Γ).flags = pinnedFlags ++ [noTraceFlag]) (x0 : Nat) (S : Sx) {X : Sx} (h : fSp_init x0 S = some X) : vV Γ tSp_init (mQ Γ 0 0 0 none X) S 0 0 0 [(0, .ref x0)] [] := by
  unfold fSp_init at h
  refine v_aload_n (pc := 0) (show decode (tC tSp_init) 0 = .ok (.aload_n 0, 1) by decide +kernel) 0 rfl rfl ?_
  refine v_obj (pc := 1) (gT_in 257 (by decide +kernel) rfl) wObj1 wObj2 (by rw [hR]; decide) (by rw [hR]; decide) (show decode (tC tSp_init) 1 = .ok (.invokespecial 3, 3) by decide +kernel) ?_
  obtain rfl := Option.some.inj h
  refine v_wide (ce2 := 0) (sl2 := 0) (by decide) (by decide) ?_
  exact v_vret (pc := 4) rfl (show decode (tC tSp_init) 4 = .ok (.return_, 1) by decide +kernel)
theorem cSp_init {l : Launch} (hl : l.flags = pinnedFlags ++ [noTraceFlag]) {D : va_G} {dA : Nat → ClassId} {B : Nat} {x0 : Nat} {S : Sx} {X : Sx} (h : fSp_init x0 S = some X) : Mx l ySp_init tSp_init rSp_init 0 0 D dA B S [.ref x0] 0 none X :=
  mx_of hl (by decide) rfl rfl (Nat.le_of_ble_eq_true rfl) (fun Γ e1 e2 e3 e4 e5 => by subst e1; subst e3; subst e4; subst e5; exact wSp_init e2 hl x0 S h)
/-! MatchPipe$Table.<init>()V -/
def yTa_init : MethodName := ⟨"MatchPipe$Table", "<init>", "()V"⟩
def tTa_init : tM := (prog_12_method_1_code, "MatchPipe$Table", 2, "<init>", none, [])
def rTa_init : Room := { frames := 2, cells := 22, slots := 188, locals := 60 }
theorem kTa_init : cOf yTa_init tTa_init ∈ gT := gT_in 174 (by decide +kernel) rfl
theorem iTa_init : Cond.initialized yTa_init.cls ∈ gT := gT_in 60 (by decide +kernel) rfl
theorem mTa_init : okM yTa_init 0 := ⟨by decide, by decide, by unfold nPar; decide +kernel⟩
theorem nTa_init : Cond.instanceMethod yTa_init ∈ gT := gT_in 173 (by decide +kernel) rfl
def fTa_init_15  : Nat → Nat → Int32 → Sx → Option (Sx)
  | 0, _, _, _ => none
  | n + 1, x0, x1, S =>
    if (20 : Int32) ≤ x1 then
    (some S)
    else
    ((gX S 4 0 x0).bind fun v1 =>
    bd2 (mk S 5 8) fun a3 S4 =>
    (fEn_init a3 S4).bind fun S7 =>
    (qX S7 5 v1 x1 a3).bind fun S8 =>
    fTa_init_15 n x0 (x1 + 1) S8)
set_option maxRecDepth 100000 in
set_option maxHeartbeats 4000000 in
theorem wTa_init_15 {Γ : vG} (hR : gR Γ = rTa_init) (hl : (gl Γ).flags = pinnedFlags ++ [noTraceFlag]) {X : Sx}  : ∀ (n ce sl : Nat) (hce : ce + n * 1 ≤ 22) (hsl : sl + n * 8 ≤ 188) (x0 : Nat) (x1 : Int32) (S : Sx), fTa_init_15  n x0 x1 S = some X → vV Γ tTa_init (mQ Γ 22 188 0 none X) S ce sl 15 [(0, .ref x0), (1, .int x1)] [] := by
  intro n
  induction n with
  | zero => intro ce sl hce hsl x0 x1 S h; rw [fTa_init_15] at h; cases h
  | succ n ih =>
    intro ce sl hce hsl x0 x1 S h
    rw [fTa_init_15] at h
    refine v_iload_n (pc := 15) (show decode (tC tTa_init) 15 = .ok (.iload_n 1, 1) by decide +kernel) 1 rfl rfl ?_
    refine v_bipush (pc := 16) (v := 20) (show decode (tC tTa_init) 16 = .ok (.bipush 20, 2) by decide +kernel) (by decide) ?_
    refine v_icmp_ge (pc := 18) 40 (show decode (tC tTa_init) 18 = .ok (.if_icmp .ge 22, 3) by decide +kernel) (by decide) (fun c => ?_) (fun c => ?_)
    · replace h := ite_t c h
      refine v_wide (ce2 := 22) (sl2 := 188) (by omega) (by omega) ?_
      obtain rfl := Option.some.inj h
      refine v_wide (ce2 := 22) (sl2 := 188) (by (try simp only [rTa_init, rEn_init]); omega) (by (try simp only [rTa_init, rEn_init]); omega) ?_
      exact v_vret (pc := 40) rfl (show decode (tC tTa_init) 40 = .ok (.return_, 1) by decide +kernel)
    · replace h := ite_f c h
      refine v_aload_n (pc := 21) (show decode (tC tTa_init) 21 = .ok (.aload_n 0, 1) by decide +kernel) 0 rfl rfl ?_
      obtain ⟨v1, e2, h⟩ := ob h
      refine v_getX (pc := 22) oF_Ta_11 e2 (show decode (tC tTa_init) 22 = .ok (.getfield 11, 3) by decide +kernel) ?_
      refine v_iload_n (pc := 25) (show decode (tC tTa_init) 25 = .ok (.iload_n 1, 1) by decide +kernel) 1 rfl rfl ?_
      obtain ⟨a3, S4, e5, h⟩ := ob2 h
      refine v_newO (pc := 26) (n := 8) oC_Ta_9 rfl e5 (by rw [hR]; (try simp only [rTa_init, rEn_init]); omega) (by rw [hR]; (try simp only [rTa_init, rEn_init]); omega) (show decode (tC tTa_init) 26 = .ok (.new 9, 3) by decide +kernel) ?_
      refine v_dup (pc := 29) (show decode (tC tTa_init) 29 = .ok (.dup, 1) by decide +kernel) rfl ?_
      obtain ⟨S7, e6, h⟩ := ob h
      refine v_call (pc := 30) (v := none) (y := yEn_init) (θ' := tEn_init) (rm := rEn_init) (av := [.ref a3]) (st := [.ref a3, .int x1, .ref v1]) (cEn_init (l := gl Γ) hl e6) kEn_init iEn_init (iv_initN (y := yEn_init) (θ' := tEn_init) (As := []) rfl rfl kEn_init rfl (List.mem_of_getElem? (l := nN) (i := 2) rfl) nEn_init mEn_init rfl (show decode (tC tTa_init) 30 = .ok (.invokespecial 17, 3) by decide +kernel)) ⟨by rw [hR]; decide, by rw [hR]; decide, by rw [hR]; (try simp only [rTa_init, rEn_init]); omega, by rw [hR]; (try simp only [rTa_init, rEn_init]); omega⟩ (Nat.le_of_ble_eq_true rfl) ?_
      obtain ⟨S8, e9, h⟩ := ob h
      refine v_aast (pc := 33) (kd := 5) rfl e9 (show decode (tC tTa_init) 33 = .ok (.aastore, 1) by decide +kernel) ?_
      refine v_iinc (pc := 34) (j := 1) [(1, .int (x1 + 1)), (0, .ref x0)] (show decode (tC tTa_init) 34 = .ok (.iinc 1 1, 3) by decide +kernel) rfl rfl (by decide) rfl ?_
      refine v_goto (pc := 37) 15 (show decode (tC tTa_init) 37 = .ok (.goto (-22), 3) by decide +kernel) (by decide) ?_
      refine v_sub [(0, .ref x0), (1, .int (x1 + 1))] [1, 0] rfl ?_
      exact ih _ _ (by (try simp only [rTa_init, rEn_init]); omega) (by (try simp only [rTa_init, rEn_init]); omega) x0 (x1 + 1) S8 h
def fTa_init (x0 : Nat) (S : Sx) : Option (Sx) :=
    bd2 (mk S (200 + 5) 20) fun a1 S2 =>
    (pX S2 4 0 x0 a1).bind fun S4 =>
    fTa_init_15  21 x0 0 S4
set_option maxRecDepth 100000 in
set_option maxHeartbeats 4000000 in
theorem wTa_init {Γ : vG} (hR : gR Γ = rTa_init) (hl : (gl Γ).flags = pinnedFlags ++ [noTraceFlag]) (x0 : Nat) (S : Sx) {X : Sx} (h : fTa_init x0 S = some X) : vV Γ tTa_init (mQ Γ 22 188 0 none X) S 0 0 0 [(0, .ref x0)] [] := by
  unfold fTa_init at h
  refine v_aload_n (pc := 0) (show decode (tC tTa_init) 0 = .ok (.aload_n 0, 1) by decide +kernel) 0 rfl rfl ?_
  refine v_obj (pc := 1) (gT_in 175 (by decide +kernel) rfl) wObj1 wObj2 (by rw [hR]; decide) (by rw [hR]; decide) (show decode (tC tTa_init) 1 = .ok (.invokespecial 3, 3) by decide +kernel) ?_
  refine v_aload_n (pc := 4) (show decode (tC tTa_init) 4 = .ok (.aload_n 0, 1) by decide +kernel) 0 rfl rfl ?_
  refine v_bipush (pc := 5) (v := 20) (show decode (tC tTa_init) 5 = .ok (.bipush 20, 2) by decide +kernel) (by decide) ?_
  obtain ⟨a1, S2, e3, h⟩ := ob2 h
  refine v_mkX (pc := 7) (kd := 5) (n := 20) rfl rfl (gT_in 176 (by decide +kernel) rfl) e3 (by decide) (by decide) (by decide) (by rw [hR]; (try simp only [rTa_init, rEn_init]); omega) (by rw [hR]; (try simp only [rTa_init, rEn_init]); omega) (show decode (tC tTa_init) 7 = .ok (.anewarray 9, 3) by decide +kernel) ?_
  obtain ⟨S4, e5, h⟩ := ob h
  refine v_putX (pc := 10) oF_Ta_11 rfl (own_ok (by decide +kernel)) e5 (show decode (tC tTa_init) 10 = .ok (.putfield 11, 3) by decide +kernel) ?_
  refine v_iconst (pc := 13) (v := 0) (show decode (tC tTa_init) 13 = .ok (.iconst 0, 1) by decide +kernel) (by decide) ?_
  refine v_istore_n (pc := 14) [(1, .int 0), (0, .ref x0)] (show decode (tC tTa_init) 14 = .ok (.istore_n 1, 1) by decide +kernel) rfl (by decide) rfl ?_
  refine v_sub [(0, .ref x0), (1, .int 0)] [1, 0] rfl ?_
  exact wTa_init_15 hR hl  21 _ _ (by (try simp only [rTa_init, rEn_init]); omega) (by (try simp only [rTa_init, rEn_init]); omega) x0 0 S4 h
theorem cTa_init {l : Launch} (hl : l.flags = pinnedFlags ++ [noTraceFlag]) {D : va_G} {dA : Nat → ClassId} {B : Nat} {x0 : Nat} {S : Sx} {X : Sx} (h : fTa_init x0 S = some X) : Mx l yTa_init tTa_init rTa_init 22 188 D dA B S [.ref x0] 0 none X :=
  mx_of hl (by decide) rfl rfl (Nat.le_of_ble_eq_true rfl) (fun Γ e1 e2 e3 e4 e5 => by subst e1; subst e3; subst e4; subst e5; exact wTa_init e2 hl x0 S h)
/-! MatchPipe$Program.<init>()V -/
def yPr_init : MethodName := ⟨"MatchPipe$Program", "<init>", "()V"⟩
def tPr_init : tM := (prog_9_method_1_code, "MatchPipe$Program", 2, "<init>", none, [])
def rPr_init : Room := { frames := 3, cells := 359, slots := 2504, locals := 81 }
theorem kPr_init : cOf yPr_init tPr_init ∈ gT := gT_in 95 (by decide +kernel) rfl
theorem iPr_init : Cond.initialized yPr_init.cls ∈ gT := gT_in 57 (by decide +kernel) rfl
theorem mPr_init : okM yPr_init 0 := ⟨by decide, by decide, by unfold nPar; decide +kernel⟩
theorem nPr_init : Cond.instanceMethod yPr_init ∈ gT := gT_in 94 (by decide +kernel) rfl
def fPr_init_131  : Nat → Nat → Int32 → Sx → Option (Sx)
  | 0, _, _, _ => none
  | n + 1, x0, x1, S =>
    if (16 : Int32) ≤ x1 then
    (some S)
    else
    ((gX S 1 4 x0).bind fun v1 =>
    bd2 (mk S 6 5) fun a3 S4 =>
    (fSp_init a3 S4).bind fun S7 =>
    (qX S7 6 v1 x1 a3).bind fun S8 =>
    fPr_init_131 n x0 (x1 + 1) S8)
set_option maxRecDepth 100000 in
set_option maxHeartbeats 4000000 in
theorem wPr_init_131 {Γ : vG} (hR : gR Γ = rPr_init) (hl : (gl Γ).flags = pinnedFlags ++ [noTraceFlag]) {X : Sx}  : ∀ (n ce sl : Nat) (hce : ce + n * 1 ≤ 359) (hsl : sl + n * 5 ≤ 2504) (x0 : Nat) (x1 : Int32) (S : Sx), fPr_init_131  n x0 x1 S = some X → vV Γ tPr_init (mQ Γ 359 2504 0 none X) S ce sl 131 [(0, .ref x0), (1, .int x1)] [] := by
  intro n
  induction n with
  | zero => intro ce sl hce hsl x0 x1 S h; rw [fPr_init_131] at h; cases h
  | succ n ih =>
    intro ce sl hce hsl x0 x1 S h
    rw [fPr_init_131] at h
    refine v_iload_n (pc := 131) (show decode (tC tPr_init) 131 = .ok (.iload_n 1, 1) by decide +kernel) 1 rfl rfl ?_
    refine v_bipush (pc := 132) (v := 16) (show decode (tC tPr_init) 132 = .ok (.bipush 16, 2) by decide +kernel) (by decide) ?_
    refine v_icmp_ge (pc := 134) 156 (show decode (tC tPr_init) 134 = .ok (.if_icmp .ge 22, 3) by decide +kernel) (by decide) (fun c => ?_) (fun c => ?_)
    · replace h := ite_t c h
      refine v_wide (ce2 := 359) (sl2 := 2504) (by omega) (by omega) ?_
      obtain rfl := Option.some.inj h
      refine v_wide (ce2 := 359) (sl2 := 2504) (by (try simp only [rPr_init, rAc_init, rSp_init, rSt_init, rTa_init]); omega) (by (try simp only [rPr_init, rAc_init, rSp_init, rSt_init, rTa_init]); omega) ?_
      exact v_vret (pc := 156) rfl (show decode (tC tPr_init) 156 = .ok (.return_, 1) by decide +kernel)
    · replace h := ite_f c h
      refine v_aload_n (pc := 137) (show decode (tC tPr_init) 137 = .ok (.aload_n 0, 1) by decide +kernel) 0 rfl rfl ?_
      obtain ⟨v1, e2, h⟩ := ob h
      refine v_getX (pc := 138) oF_Pr_35 e2 (show decode (tC tPr_init) 138 = .ok (.getfield 35, 3) by decide +kernel) ?_
      refine v_iload_n (pc := 141) (show decode (tC tPr_init) 141 = .ok (.iload_n 1, 1) by decide +kernel) 1 rfl rfl ?_
      obtain ⟨a3, S4, e5, h⟩ := ob2 h
      refine v_newO (pc := 142) (n := 5) oC_Pr_33 rfl e5 (by rw [hR]; (try simp only [rPr_init, rAc_init, rSp_init, rSt_init, rTa_init]); omega) (by rw [hR]; (try simp only [rPr_init, rAc_init, rSp_init, rSt_init, rTa_init]); omega) (show decode (tC tPr_init) 142 = .ok (.new 33, 3) by decide +kernel) ?_
      refine v_dup (pc := 145) (show decode (tC tPr_init) 145 = .ok (.dup, 1) by decide +kernel) rfl ?_
      obtain ⟨S7, e6, h⟩ := ob h
      refine v_call (pc := 146) (v := none) (y := ySp_init) (θ' := tSp_init) (rm := rSp_init) (av := [.ref a3]) (st := [.ref a3, .int x1, .ref v1]) (cSp_init (l := gl Γ) hl e6) kSp_init iSp_init (iv_initN (y := ySp_init) (θ' := tSp_init) (As := []) rfl rfl kSp_init rfl (List.mem_of_getElem? (l := nN) (i := 3) rfl) nSp_init mSp_init rfl (show decode (tC tPr_init) 146 = .ok (.invokespecial 42, 3) by decide +kernel)) ⟨by rw [hR]; decide, by rw [hR]; decide, by rw [hR]; (try simp only [rPr_init, rAc_init, rSp_init, rSt_init, rTa_init]); omega, by rw [hR]; (try simp only [rPr_init, rAc_init, rSp_init, rSt_init, rTa_init]); omega⟩ (Nat.le_of_ble_eq_true rfl) ?_
      obtain ⟨S8, e9, h⟩ := ob h
      refine v_aast (pc := 149) (kd := 6) rfl e9 (show decode (tC tPr_init) 149 = .ok (.aastore, 1) by decide +kernel) ?_
      refine v_iinc (pc := 150) (j := 1) [(1, .int (x1 + 1)), (0, .ref x0)] (show decode (tC tPr_init) 150 = .ok (.iinc 1 1, 3) by decide +kernel) rfl rfl (by decide) rfl ?_
      refine v_goto (pc := 153) 131 (show decode (tC tPr_init) 153 = .ok (.goto (-22), 3) by decide +kernel) (by decide) ?_
      refine v_sub [(0, .ref x0), (1, .int (x1 + 1))] [1, 0] rfl ?_
      exact ih _ _ (by (try simp only [rPr_init, rAc_init, rSp_init, rSt_init, rTa_init]); omega) (by (try simp only [rPr_init, rAc_init, rSp_init, rSt_init, rTa_init]); omega) x0 (x1 + 1) S8 h
def fPr_init_104  : Nat → Nat → Int32 → Sx → Option (Sx)
  | 0, _, _, _ => none
  | n + 1, x0, x1, S =>
    if (8 : Int32) ≤ x1 then
    (fPr_init_131  17 x0 0 S)
    else
    ((gX S 1 3 x0).bind fun v1 =>
    bd2 (mk S 4 10) fun a3 S4 =>
    (fTa_init a3 S4).bind fun S7 =>
    (qX S7 4 v1 x1 a3).bind fun S8 =>
    fPr_init_104 n x0 (x1 + 1) S8)
set_option maxRecDepth 100000 in
set_option maxHeartbeats 4000000 in
theorem wPr_init_104 {Γ : vG} (hR : gR Γ = rPr_init) (hl : (gl Γ).flags = pinnedFlags ++ [noTraceFlag]) {X : Sx}  : ∀ (n ce sl : Nat) (hce : ce + n * 23 ≤ 342) (hsl : sl + n * 198 ≤ 2419) (x0 : Nat) (x1 : Int32) (S : Sx), fPr_init_104  n x0 x1 S = some X → vV Γ tPr_init (mQ Γ 359 2504 0 none X) S ce sl 104 [(0, .ref x0), (1, .int x1)] [] := by
  intro n
  induction n with
  | zero => intro ce sl hce hsl x0 x1 S h; rw [fPr_init_104] at h; cases h
  | succ n ih =>
    intro ce sl hce hsl x0 x1 S h
    rw [fPr_init_104] at h
    refine v_iload_n (pc := 104) (show decode (tC tPr_init) 104 = .ok (.iload_n 1, 1) by decide +kernel) 1 rfl rfl ?_
    refine v_bipush (pc := 105) (v := 8) (show decode (tC tPr_init) 105 = .ok (.bipush 8, 2) by decide +kernel) (by decide) ?_
    refine v_icmp_ge (pc := 107) 129 (show decode (tC tPr_init) 107 = .ok (.if_icmp .ge 22, 3) by decide +kernel) (by decide) (fun c => ?_) (fun c => ?_)
    · replace h := ite_t c h
      refine v_wide (ce2 := 342) (sl2 := 2419) (by omega) (by omega) ?_
      refine v_iconst (pc := 129) (v := 0) (show decode (tC tPr_init) 129 = .ok (.iconst 0, 1) by decide +kernel) (by decide) ?_
      refine v_istore_n (pc := 130) [(1, .int 0), (0, .ref x0)] (show decode (tC tPr_init) 130 = .ok (.istore_n 1, 1) by decide +kernel) rfl (by decide) rfl ?_
      refine v_sub [(0, .ref x0), (1, .int 0)] [1, 0] rfl ?_
      exact wPr_init_131 hR hl  17 _ _ (by (try simp only [rPr_init, rAc_init, rSp_init, rSt_init, rTa_init]); omega) (by (try simp only [rPr_init, rAc_init, rSp_init, rSt_init, rTa_init]); omega) x0 0 S h
    · replace h := ite_f c h
      refine v_aload_n (pc := 110) (show decode (tC tPr_init) 110 = .ok (.aload_n 0, 1) by decide +kernel) 0 rfl rfl ?_
      obtain ⟨v1, e2, h⟩ := ob h
      refine v_getX (pc := 111) oF_Pr_29 e2 (show decode (tC tPr_init) 111 = .ok (.getfield 29, 3) by decide +kernel) ?_
      refine v_iload_n (pc := 114) (show decode (tC tPr_init) 114 = .ok (.iload_n 1, 1) by decide +kernel) 1 rfl rfl ?_
      obtain ⟨a3, S4, e5, h⟩ := ob2 h
      refine v_newO (pc := 115) (n := 10) oC_Pr_27 rfl e5 (by rw [hR]; (try simp only [rPr_init, rAc_init, rSp_init, rSt_init, rTa_init]); omega) (by rw [hR]; (try simp only [rPr_init, rAc_init, rSp_init, rSt_init, rTa_init]); omega) (show decode (tC tPr_init) 115 = .ok (.new 27, 3) by decide +kernel) ?_
      refine v_dup (pc := 118) (show decode (tC tPr_init) 118 = .ok (.dup, 1) by decide +kernel) rfl ?_
      obtain ⟨S7, e6, h⟩ := ob h
      refine v_call (pc := 119) (v := none) (y := yTa_init) (θ' := tTa_init) (rm := rTa_init) (av := [.ref a3]) (st := [.ref a3, .int x1, .ref v1]) (cTa_init (l := gl Γ) hl e6) kTa_init iTa_init (iv_init (y := yTa_init) (θ' := tTa_init) (As := []) rfl rfl kTa_init rfl (gT_in 172 (by decide +kernel) rfl) nTa_init mTa_init rfl (show decode (tC tPr_init) 119 = .ok (.invokespecial 41, 3) by decide +kernel)) ⟨by rw [hR]; decide, by rw [hR]; decide, by rw [hR]; (try simp only [rPr_init, rAc_init, rSp_init, rSt_init, rTa_init]); omega, by rw [hR]; (try simp only [rPr_init, rAc_init, rSp_init, rSt_init, rTa_init]); omega⟩ (Nat.le_of_ble_eq_true rfl) ?_
      obtain ⟨S8, e9, h⟩ := ob h
      refine v_aast (pc := 122) (kd := 4) rfl e9 (show decode (tC tPr_init) 122 = .ok (.aastore, 1) by decide +kernel) ?_
      refine v_iinc (pc := 123) (j := 1) [(1, .int (x1 + 1)), (0, .ref x0)] (show decode (tC tPr_init) 123 = .ok (.iinc 1 1, 3) by decide +kernel) rfl rfl (by decide) rfl ?_
      refine v_goto (pc := 126) 104 (show decode (tC tPr_init) 126 = .ok (.goto (-22), 3) by decide +kernel) (by decide) ?_
      refine v_sub [(0, .ref x0), (1, .int (x1 + 1))] [1, 0] rfl ?_
      exact ih _ _ (by (try simp only [rPr_init, rAc_init, rSp_init, rSt_init, rTa_init]); omega) (by (try simp only [rPr_init, rAc_init, rSp_init, rSt_init, rTa_init]); omega) x0 (x1 + 1) S8 h
def fPr_init_77  : Nat → Nat → Int32 → Sx → Option (Sx)
  | 0, _, _, _ => none
  | n + 1, x0, x1, S =>
    if (16 : Int32) ≤ x1 then
    (fPr_init_104  9 x0 0 S)
    else
    ((gX S 1 2 x0).bind fun v1 =>
    bd2 (mk S 3 5) fun a3 S4 =>
    (fAc_init a3 S4).bind fun S7 =>
    (qX S7 3 v1 x1 a3).bind fun S8 =>
    fPr_init_77 n x0 (x1 + 1) S8)
set_option maxRecDepth 100000 in
set_option maxHeartbeats 4000000 in
theorem wPr_init_77 {Γ : vG} (hR : gR Γ = rPr_init) (hl : (gl Γ).flags = pinnedFlags ++ [noTraceFlag]) {X : Sx}  : ∀ (n ce sl : Nat) (hce : ce + n * 5 ≤ 135) (hsl : sl + n * 21 ≤ 637) (x0 : Nat) (x1 : Int32) (S : Sx), fPr_init_77  n x0 x1 S = some X → vV Γ tPr_init (mQ Γ 359 2504 0 none X) S ce sl 77 [(0, .ref x0), (1, .int x1)] [] := by
  intro n
  induction n with
  | zero => intro ce sl hce hsl x0 x1 S h; rw [fPr_init_77] at h; cases h
  | succ n ih =>
    intro ce sl hce hsl x0 x1 S h
    rw [fPr_init_77] at h
    refine v_iload_n (pc := 77) (show decode (tC tPr_init) 77 = .ok (.iload_n 1, 1) by decide +kernel) 1 rfl rfl ?_
    refine v_bipush (pc := 78) (v := 16) (show decode (tC tPr_init) 78 = .ok (.bipush 16, 2) by decide +kernel) (by decide) ?_
    refine v_icmp_ge (pc := 80) 102 (show decode (tC tPr_init) 80 = .ok (.if_icmp .ge 22, 3) by decide +kernel) (by decide) (fun c => ?_) (fun c => ?_)
    · replace h := ite_t c h
      refine v_wide (ce2 := 135) (sl2 := 637) (by omega) (by omega) ?_
      refine v_iconst (pc := 102) (v := 0) (show decode (tC tPr_init) 102 = .ok (.iconst 0, 1) by decide +kernel) (by decide) ?_
      refine v_istore_n (pc := 103) [(1, .int 0), (0, .ref x0)] (show decode (tC tPr_init) 103 = .ok (.istore_n 1, 1) by decide +kernel) rfl (by decide) rfl ?_
      refine v_sub [(0, .ref x0), (1, .int 0)] [1, 0] rfl ?_
      exact wPr_init_104 hR hl  9 _ _ (by (try simp only [rPr_init, rAc_init, rSp_init, rSt_init, rTa_init]); omega) (by (try simp only [rPr_init, rAc_init, rSp_init, rSt_init, rTa_init]); omega) x0 0 S h
    · replace h := ite_f c h
      refine v_aload_n (pc := 83) (show decode (tC tPr_init) 83 = .ok (.aload_n 0, 1) by decide +kernel) 0 rfl rfl ?_
      obtain ⟨v1, e2, h⟩ := ob h
      refine v_getX (pc := 84) oF_Pr_23 e2 (show decode (tC tPr_init) 84 = .ok (.getfield 23, 3) by decide +kernel) ?_
      refine v_iload_n (pc := 87) (show decode (tC tPr_init) 87 = .ok (.iload_n 1, 1) by decide +kernel) 1 rfl rfl ?_
      obtain ⟨a3, S4, e5, h⟩ := ob2 h
      refine v_newO (pc := 88) (n := 5) oC_Pr_21 rfl e5 (by rw [hR]; (try simp only [rPr_init, rAc_init, rSp_init, rSt_init, rTa_init]); omega) (by rw [hR]; (try simp only [rPr_init, rAc_init, rSp_init, rSt_init, rTa_init]); omega) (show decode (tC tPr_init) 88 = .ok (.new 21, 3) by decide +kernel) ?_
      refine v_dup (pc := 91) (show decode (tC tPr_init) 91 = .ok (.dup, 1) by decide +kernel) rfl ?_
      obtain ⟨S7, e6, h⟩ := ob h
      refine v_call (pc := 92) (v := none) (y := yAc_init) (θ' := tAc_init) (rm := rAc_init) (av := [.ref a3]) (st := [.ref a3, .int x1, .ref v1]) (cAc_init (l := gl Γ) hl e6) kAc_init iAc_init (iv_initN (y := yAc_init) (θ' := tAc_init) (As := []) rfl rfl kAc_init rfl (List.mem_of_getElem? (l := nN) (i := 1) rfl) nAc_init mAc_init rfl (show decode (tC tPr_init) 92 = .ok (.invokespecial 40, 3) by decide +kernel)) ⟨by rw [hR]; decide, by rw [hR]; decide, by rw [hR]; (try simp only [rPr_init, rAc_init, rSp_init, rSt_init, rTa_init]); omega, by rw [hR]; (try simp only [rPr_init, rAc_init, rSp_init, rSt_init, rTa_init]); omega⟩ (Nat.le_of_ble_eq_true rfl) ?_
      obtain ⟨S8, e9, h⟩ := ob h
      refine v_aast (pc := 95) (kd := 3) rfl e9 (show decode (tC tPr_init) 95 = .ok (.aastore, 1) by decide +kernel) ?_
      refine v_iinc (pc := 96) (j := 1) [(1, .int (x1 + 1)), (0, .ref x0)] (show decode (tC tPr_init) 96 = .ok (.iinc 1 1, 3) by decide +kernel) rfl rfl (by decide) rfl ?_
      refine v_goto (pc := 99) 77 (show decode (tC tPr_init) 99 = .ok (.goto (-22), 3) by decide +kernel) (by decide) ?_
      refine v_sub [(0, .ref x0), (1, .int (x1 + 1))] [1, 0] rfl ?_
      exact ih _ _ (by (try simp only [rPr_init, rAc_init, rSp_init, rSt_init, rTa_init]); omega) (by (try simp only [rPr_init, rAc_init, rSp_init, rSt_init, rTa_init]); omega) x0 (x1 + 1) S8 h
def fPr_init_50  : Nat → Nat → Int32 → Sx → Option (Sx)
  | 0, _, _, _ => none
  | n + 1, x0, x1, S =>
    if (8 : Int32) ≤ x1 then
    (fPr_init_77  17 x0 0 S)
    else
    ((gX S 1 1 x0).bind fun v1 =>
    bd2 (mk S 2 8) fun a3 S4 =>
    (fSt_init a3 S4).bind fun S7 =>
    (qX S7 2 v1 x1 a3).bind fun S8 =>
    fPr_init_50 n x0 (x1 + 1) S8)
set_option maxRecDepth 100000 in
set_option maxHeartbeats 4000000 in
theorem wPr_init_50 {Γ : vG} (hR : gR Γ = rPr_init) (hl : (gl Γ).flags = pinnedFlags ++ [noTraceFlag]) {X : Sx}  : ∀ (n ce sl : Nat) (hce : ce + n * 5 ≤ 50) (hsl : sl + n * 24 ≤ 280) (x0 : Nat) (x1 : Int32) (S : Sx), fPr_init_50  n x0 x1 S = some X → vV Γ tPr_init (mQ Γ 359 2504 0 none X) S ce sl 50 [(0, .ref x0), (1, .int x1)] [] := by
  intro n
  induction n with
  | zero => intro ce sl hce hsl x0 x1 S h; rw [fPr_init_50] at h; cases h
  | succ n ih =>
    intro ce sl hce hsl x0 x1 S h
    rw [fPr_init_50] at h
    refine v_iload_n (pc := 50) (show decode (tC tPr_init) 50 = .ok (.iload_n 1, 1) by decide +kernel) 1 rfl rfl ?_
    refine v_bipush (pc := 51) (v := 8) (show decode (tC tPr_init) 51 = .ok (.bipush 8, 2) by decide +kernel) (by decide) ?_
    refine v_icmp_ge (pc := 53) 75 (show decode (tC tPr_init) 53 = .ok (.if_icmp .ge 22, 3) by decide +kernel) (by decide) (fun c => ?_) (fun c => ?_)
    · replace h := ite_t c h
      refine v_wide (ce2 := 50) (sl2 := 280) (by omega) (by omega) ?_
      refine v_iconst (pc := 75) (v := 0) (show decode (tC tPr_init) 75 = .ok (.iconst 0, 1) by decide +kernel) (by decide) ?_
      refine v_istore_n (pc := 76) [(1, .int 0), (0, .ref x0)] (show decode (tC tPr_init) 76 = .ok (.istore_n 1, 1) by decide +kernel) rfl (by decide) rfl ?_
      refine v_sub [(0, .ref x0), (1, .int 0)] [1, 0] rfl ?_
      exact wPr_init_77 hR hl  17 _ _ (by (try simp only [rPr_init, rAc_init, rSp_init, rSt_init, rTa_init]); omega) (by (try simp only [rPr_init, rAc_init, rSp_init, rSt_init, rTa_init]); omega) x0 0 S h
    · replace h := ite_f c h
      refine v_aload_n (pc := 56) (show decode (tC tPr_init) 56 = .ok (.aload_n 0, 1) by decide +kernel) 0 rfl rfl ?_
      obtain ⟨v1, e2, h⟩ := ob h
      refine v_getX (pc := 57) oF_Pr_17 e2 (show decode (tC tPr_init) 57 = .ok (.getfield 17, 3) by decide +kernel) ?_
      refine v_iload_n (pc := 60) (show decode (tC tPr_init) 60 = .ok (.iload_n 1, 1) by decide +kernel) 1 rfl rfl ?_
      obtain ⟨a3, S4, e5, h⟩ := ob2 h
      refine v_newO (pc := 61) (n := 8) oC_Pr_15 rfl e5 (by rw [hR]; (try simp only [rPr_init, rAc_init, rSp_init, rSt_init, rTa_init]); omega) (by rw [hR]; (try simp only [rPr_init, rAc_init, rSp_init, rSt_init, rTa_init]); omega) (show decode (tC tPr_init) 61 = .ok (.new 15, 3) by decide +kernel) ?_
      refine v_dup (pc := 64) (show decode (tC tPr_init) 64 = .ok (.dup, 1) by decide +kernel) rfl ?_
      obtain ⟨S7, e6, h⟩ := ob h
      refine v_call (pc := 65) (v := none) (y := ySt_init) (θ' := tSt_init) (rm := rSt_init) (av := [.ref a3]) (st := [.ref a3, .int x1, .ref v1]) (cSt_init (l := gl Γ) hl e6) kSt_init iSt_init (iv_initN (y := ySt_init) (θ' := tSt_init) (As := []) rfl rfl kSt_init rfl (List.mem_of_getElem? (l := nN) (i := 0) rfl) nSt_init mSt_init rfl (show decode (tC tPr_init) 65 = .ok (.invokespecial 39, 3) by decide +kernel)) ⟨by rw [hR]; decide, by rw [hR]; decide, by rw [hR]; (try simp only [rPr_init, rAc_init, rSp_init, rSt_init, rTa_init]); omega, by rw [hR]; (try simp only [rPr_init, rAc_init, rSp_init, rSt_init, rTa_init]); omega⟩ (Nat.le_of_ble_eq_true rfl) ?_
      obtain ⟨S8, e9, h⟩ := ob h
      refine v_aast (pc := 68) (kd := 2) rfl e9 (show decode (tC tPr_init) 68 = .ok (.aastore, 1) by decide +kernel) ?_
      refine v_iinc (pc := 69) (j := 1) [(1, .int (x1 + 1)), (0, .ref x0)] (show decode (tC tPr_init) 69 = .ok (.iinc 1 1, 3) by decide +kernel) rfl rfl (by decide) rfl ?_
      refine v_goto (pc := 72) 50 (show decode (tC tPr_init) 72 = .ok (.goto (-22), 3) by decide +kernel) (by decide) ?_
      refine v_sub [(0, .ref x0), (1, .int (x1 + 1))] [1, 0] rfl ?_
      exact ih _ _ (by (try simp only [rPr_init, rAc_init, rSp_init, rSt_init, rTa_init]); omega) (by (try simp only [rPr_init, rAc_init, rSp_init, rSt_init, rTa_init]); omega) x0 (x1 + 1) S8 h
def fPr_init (x0 : Nat) (S : Sx) : Option (Sx) :=
    bd2 (mk S 100 16) fun a1 S2 =>
    (pX S2 1 0 x0 a1).bind fun S4 =>
    bd2 (mk S4 (200 + 2) 8) fun a6 S7 =>
    (pX S7 1 1 x0 a6).bind fun S9 =>
    bd2 (mk S9 (200 + 3) 16) fun a11 S12 =>
    (pX S12 1 2 x0 a11).bind fun S14 =>
    bd2 (mk S14 (200 + 4) 8) fun a16 S17 =>
    (pX S17 1 3 x0 a16).bind fun S19 =>
    bd2 (mk S19 (200 + 6) 16) fun a21 S22 =>
    (pX S22 1 4 x0 a21).bind fun S24 =>
    fPr_init_50  9 x0 0 S24
set_option maxRecDepth 100000 in
set_option maxHeartbeats 4000000 in
theorem wPr_init {Γ : vG} (hR : gR Γ = rPr_init) (hl : (gl Γ).flags = pinnedFlags ++ [noTraceFlag]) (x0 : Nat) (S : Sx) {X : Sx} (h : fPr_init x0 S = some X) : vV Γ tPr_init (mQ Γ 359 2504 0 none X) S 0 0 0 [(0, .ref x0)] [] := by
  unfold fPr_init at h
  refine v_aload_n (pc := 0) (show decode (tC tPr_init) 0 = .ok (.aload_n 0, 1) by decide +kernel) 0 rfl rfl ?_
  refine v_obj (pc := 1) (gT_in 96 (by decide +kernel) rfl) wObj1 wObj2 (by rw [hR]; decide) (by rw [hR]; decide) (show decode (tC tPr_init) 1 = .ok (.invokespecial 3, 3) by decide +kernel) ?_
  refine v_aload_n (pc := 4) (show decode (tC tPr_init) 4 = .ok (.aload_n 0, 1) by decide +kernel) 0 rfl rfl ?_
  refine v_bipush (pc := 5) (v := 16) (show decode (tC tPr_init) 5 = .ok (.bipush 16, 2) by decide +kernel) (by decide) ?_
  obtain ⟨a1, S2, e3, h⟩ := ob2 h
  refine v_mkI (pc := 7) (n := 16) e3 (by decide) (by decide) (by decide) (by rw [hR]; (try simp only [rPr_init, rAc_init, rSp_init, rSt_init, rTa_init]); omega) (by rw [hR]; (try simp only [rPr_init, rAc_init, rSp_init, rSt_init, rTa_init]); omega) (show decode (tC tPr_init) 7 = .ok (.newarray .int, 2) by decide +kernel) ?_
  obtain ⟨S4, e5, h⟩ := ob h
  refine v_putX (pc := 9) oF_Pr_9 rfl (own_ok (by decide +kernel)) e5 (show decode (tC tPr_init) 9 = .ok (.putfield 9, 3) by decide +kernel) ?_
  refine v_aload_n (pc := 12) (show decode (tC tPr_init) 12 = .ok (.aload_n 0, 1) by decide +kernel) 0 rfl rfl ?_
  refine v_bipush (pc := 13) (v := 8) (show decode (tC tPr_init) 13 = .ok (.bipush 8, 2) by decide +kernel) (by decide) ?_
  obtain ⟨a6, S7, e8, h⟩ := ob2 h
  refine v_mkX (pc := 15) (kd := 2) (n := 8) rfl rfl (gT_in 97 (by decide +kernel) rfl) e8 (by decide) (by decide) (by decide) (by rw [hR]; (try simp only [rPr_init, rAc_init, rSp_init, rSt_init, rTa_init]); omega) (by rw [hR]; (try simp only [rPr_init, rAc_init, rSp_init, rSt_init, rTa_init]); omega) (show decode (tC tPr_init) 15 = .ok (.anewarray 15, 3) by decide +kernel) ?_
  obtain ⟨S9, e10, h⟩ := ob h
  refine v_putX (pc := 18) oF_Pr_17 rfl (own_ok (by decide +kernel)) e10 (show decode (tC tPr_init) 18 = .ok (.putfield 17, 3) by decide +kernel) ?_
  refine v_aload_n (pc := 21) (show decode (tC tPr_init) 21 = .ok (.aload_n 0, 1) by decide +kernel) 0 rfl rfl ?_
  refine v_bipush (pc := 22) (v := 16) (show decode (tC tPr_init) 22 = .ok (.bipush 16, 2) by decide +kernel) (by decide) ?_
  obtain ⟨a11, S12, e13, h⟩ := ob2 h
  refine v_mkX (pc := 24) (kd := 3) (n := 16) rfl rfl (gT_in 99 (by decide +kernel) rfl) e13 (by decide) (by decide) (by decide) (by rw [hR]; (try simp only [rPr_init, rAc_init, rSp_init, rSt_init, rTa_init]); omega) (by rw [hR]; (try simp only [rPr_init, rAc_init, rSp_init, rSt_init, rTa_init]); omega) (show decode (tC tPr_init) 24 = .ok (.anewarray 21, 3) by decide +kernel) ?_
  obtain ⟨S14, e15, h⟩ := ob h
  refine v_putX (pc := 27) oF_Pr_23 rfl (own_ok (by decide +kernel)) e15 (show decode (tC tPr_init) 27 = .ok (.putfield 23, 3) by decide +kernel) ?_
  refine v_aload_n (pc := 30) (show decode (tC tPr_init) 30 = .ok (.aload_n 0, 1) by decide +kernel) 0 rfl rfl ?_
  refine v_bipush (pc := 31) (v := 8) (show decode (tC tPr_init) 31 = .ok (.bipush 8, 2) by decide +kernel) (by decide) ?_
  obtain ⟨a16, S17, e18, h⟩ := ob2 h
  refine v_mkX (pc := 33) (kd := 4) (n := 8) rfl rfl (gT_in 101 (by decide +kernel) rfl) e18 (by decide) (by decide) (by decide) (by rw [hR]; (try simp only [rPr_init, rAc_init, rSp_init, rSt_init, rTa_init]); omega) (by rw [hR]; (try simp only [rPr_init, rAc_init, rSp_init, rSt_init, rTa_init]); omega) (show decode (tC tPr_init) 33 = .ok (.anewarray 27, 3) by decide +kernel) ?_
  obtain ⟨S19, e20, h⟩ := ob h
  refine v_putX (pc := 36) oF_Pr_29 rfl (own_ok (by decide +kernel)) e20 (show decode (tC tPr_init) 36 = .ok (.putfield 29, 3) by decide +kernel) ?_
  refine v_aload_n (pc := 39) (show decode (tC tPr_init) 39 = .ok (.aload_n 0, 1) by decide +kernel) 0 rfl rfl ?_
  refine v_bipush (pc := 40) (v := 16) (show decode (tC tPr_init) 40 = .ok (.bipush 16, 2) by decide +kernel) (by decide) ?_
  obtain ⟨a21, S22, e23, h⟩ := ob2 h
  refine v_mkX (pc := 42) (kd := 6) (n := 16) rfl rfl (gT_in 103 (by decide +kernel) rfl) e23 (by decide) (by decide) (by decide) (by rw [hR]; (try simp only [rPr_init, rAc_init, rSp_init, rSt_init, rTa_init]); omega) (by rw [hR]; (try simp only [rPr_init, rAc_init, rSp_init, rSt_init, rTa_init]); omega) (show decode (tC tPr_init) 42 = .ok (.anewarray 33, 3) by decide +kernel) ?_
  obtain ⟨S24, e25, h⟩ := ob h
  refine v_putX (pc := 45) oF_Pr_35 rfl (own_ok (by decide +kernel)) e25 (show decode (tC tPr_init) 45 = .ok (.putfield 35, 3) by decide +kernel) ?_
  refine v_iconst (pc := 48) (v := 0) (show decode (tC tPr_init) 48 = .ok (.iconst 0, 1) by decide +kernel) (by decide) ?_
  refine v_istore_n (pc := 49) [(1, .int 0), (0, .ref x0)] (show decode (tC tPr_init) 49 = .ok (.istore_n 1, 1) by decide +kernel) rfl (by decide) rfl ?_
  refine v_sub [(0, .ref x0), (1, .int 0)] [1, 0] rfl ?_
  exact wPr_init_50 hR hl  9 _ _ (by (try simp only [rPr_init, rAc_init, rSp_init, rSt_init, rTa_init]); omega) (by (try simp only [rPr_init, rAc_init, rSp_init, rSt_init, rTa_init]); omega) x0 0 S24 h
theorem cPr_init {l : Launch} (hl : l.flags = pinnedFlags ++ [noTraceFlag]) {D : va_G} {dA : Nat → ClassId} {B : Nat} {x0 : Nat} {S : Sx} {X : Sx} (h : fPr_init x0 S = some X) : Mx l yPr_init tPr_init rPr_init 359 2504 D dA B S [.ref x0] 0 none X :=
  mx_of hl (by decide) rfl rfl (Nat.le_of_ble_eq_true rfl) (fun Γ e1 e2 e3 e4 e5 => by subst e1; subst e3; subst e4; subst e5; exact wPr_init e2 hl x0 S h)
/-! MatchPipe$Line.<init>()V -/
def yLi_init : MethodName := ⟨"MatchPipe$Line", "<init>", "()V"⟩
def tLi_init : tM := (prog_7_method_1_code, "MatchPipe$Line", 2, "<init>", none, [])
def rLi_init : Room := { frames := 4, cells := 935, slots := 7586, locals := 102 }
theorem kLi_init : cOf yLi_init tLi_init ∈ gT := gT_in 89 (by decide +kernel) rfl
theorem iLi_init : Cond.initialized yLi_init.cls ∈ gT := gT_in 56 (by decide +kernel) rfl
theorem mLi_init : okM yLi_init 0 := ⟨by decide, by decide, by unfold nPar; decide +kernel⟩
theorem nLi_init : Cond.instanceMethod yLi_init ∈ gT := gT_in 88 (by decide +kernel) rfl
def fLi_init_91  : Nat → Nat → Int32 → Sx → Option (Sx)
  | 0, _, _, _ => none
  | n + 1, x0, x1, S =>
    if (16 : Int32) ≤ x1 then
    ((gX S 8 4 x0).bind fun v1 =>
    (fJA_fill v1 (-1) S).bind fun S4 =>
    some S4)
    else
    ((gX S 8 3 x0).bind fun v5 =>
    bd2 (mk S 11 8) fun a7 S8 =>
    (fHe_init a7 S8).bind fun S11 =>
    (qX S11 11 v5 x1 a7).bind fun S12 =>
    fLi_init_91 n x0 (x1 + 1) S12)
set_option maxRecDepth 100000 in
set_option maxHeartbeats 4000000 in
theorem wLi_init_91 {Γ : vG} (hR : gR Γ = rLi_init) (hl : (gl Γ).flags = pinnedFlags ++ [noTraceFlag]) {X : Sx}  : ∀ (n ce sl : Nat) (hce : ce + n * 3 ≤ 935) (hsl : sl + n * 40 ≤ 7586) (x0 : Nat) (x1 : Int32) (S : Sx), fLi_init_91  n x0 x1 S = some X → vV Γ tLi_init (mQ Γ 935 7586 0 none X) S ce sl 91 [(0, .ref x0), (1, .int x1)] [] := by
  intro n
  induction n with
  | zero => intro ce sl hce hsl x0 x1 S h; rw [fLi_init_91] at h; cases h
  | succ n ih =>
    intro ce sl hce hsl x0 x1 S h
    rw [fLi_init_91] at h
    refine v_iload_n (pc := 91) (show decode (tC tLi_init) 91 = .ok (.iload_n 1, 1) by decide +kernel) 1 rfl rfl ?_
    refine v_bipush (pc := 92) (v := 16) (show decode (tC tLi_init) 92 = .ok (.bipush 16, 2) by decide +kernel) (by decide) ?_
    refine v_icmp_ge (pc := 94) 116 (show decode (tC tLi_init) 94 = .ok (.if_icmp .ge 22, 3) by decide +kernel) (by decide) (fun c => ?_) (fun c => ?_)
    · replace h := ite_t c h
      refine v_wide (ce2 := 935) (sl2 := 7586) (by omega) (by omega) ?_
      refine v_aload_n (pc := 116) (show decode (tC tLi_init) 116 = .ok (.aload_n 0, 1) by decide +kernel) 0 rfl rfl ?_
      obtain ⟨v1, e2, h⟩ := ob h
      refine v_getX (pc := 117) oF_Li_37 e2 (show decode (tC tLi_init) 117 = .ok (.getfield 37, 3) by decide +kernel) ?_
      refine v_iconst (pc := 120) (v := (-1)) (show decode (tC tLi_init) 120 = .ok (.iconst (-1), 1) by decide +kernel) (by decide) ?_
      obtain ⟨S4, e3, h⟩ := ob h
      refine v_call (pc := 121) (v := none) (y := yJA_fill) (θ' := tJA_fill) (rm := rJA_fill) (av := [.ref v1, .int (-1)]) (st := []) (cJA_fill (l := gl Γ) hl e3) kJA_fill iJA_fill (iv_static (y := yJA_fill) (θ' := tJA_fill) (n := 2) (As := [.ref v1, .int (-1)]) kJA_fill (gT_in 461 (by decide +kernel) rfl) sJA_fill iJA_fill mJA_fill rfl (show decode (tC tLi_init) 121 = .ok (.invokestatic 46, 3) by decide +kernel)) ⟨by rw [hR]; decide, by rw [hR]; decide, by rw [hR]; (try simp only [rLi_init, rHe_init, rJA_fill, rLa_init, rOp_init, rPr_init]); omega, by rw [hR]; (try simp only [rLi_init, rHe_init, rJA_fill, rLa_init, rOp_init, rPr_init]); omega⟩ (Nat.le_of_ble_eq_true rfl) ?_
      obtain rfl := Option.some.inj h
      refine v_wide (ce2 := 935) (sl2 := 7586) (by (try simp only [rLi_init, rHe_init, rJA_fill, rLa_init, rOp_init, rPr_init]); omega) (by (try simp only [rLi_init, rHe_init, rJA_fill, rLa_init, rOp_init, rPr_init]); omega) ?_
      exact v_vret (pc := 124) rfl (show decode (tC tLi_init) 124 = .ok (.return_, 1) by decide +kernel)
    · replace h := ite_f c h
      refine v_aload_n (pc := 97) (show decode (tC tLi_init) 97 = .ok (.aload_n 0, 1) by decide +kernel) 0 rfl rfl ?_
      obtain ⟨v5, e6, h⟩ := ob h
      refine v_getX (pc := 98) oF_Li_33 e6 (show decode (tC tLi_init) 98 = .ok (.getfield 33, 3) by decide +kernel) ?_
      refine v_iload_n (pc := 101) (show decode (tC tLi_init) 101 = .ok (.iload_n 1, 1) by decide +kernel) 1 rfl rfl ?_
      obtain ⟨a7, S8, e9, h⟩ := ob2 h
      refine v_newO (pc := 102) (n := 8) oC_Li_31 rfl e9 (by rw [hR]; (try simp only [rLi_init, rHe_init, rJA_fill, rLa_init, rOp_init, rPr_init]); omega) (by rw [hR]; (try simp only [rLi_init, rHe_init, rJA_fill, rLa_init, rOp_init, rPr_init]); omega) (show decode (tC tLi_init) 102 = .ok (.new 31, 3) by decide +kernel) ?_
      refine v_dup (pc := 105) (show decode (tC tLi_init) 105 = .ok (.dup, 1) by decide +kernel) rfl ?_
      obtain ⟨S11, e10, h⟩ := ob h
      refine v_call (pc := 106) (v := none) (y := yHe_init) (θ' := tHe_init) (rm := rHe_init) (av := [.ref a7]) (st := [.ref a7, .int x1, .ref v5]) (cHe_init (l := gl Γ) hl e10) kHe_init iHe_init (iv_initN (y := yHe_init) (θ' := tHe_init) (As := []) rfl rfl kHe_init rfl (List.mem_of_getElem? (l := nN) (i := 8) rfl) nHe_init mHe_init rfl (show decode (tC tLi_init) 106 = .ok (.invokespecial 45, 3) by decide +kernel)) ⟨by rw [hR]; decide, by rw [hR]; decide, by rw [hR]; (try simp only [rLi_init, rHe_init, rJA_fill, rLa_init, rOp_init, rPr_init]); omega, by rw [hR]; (try simp only [rLi_init, rHe_init, rJA_fill, rLa_init, rOp_init, rPr_init]); omega⟩ (Nat.le_of_ble_eq_true rfl) ?_
      obtain ⟨S12, e13, h⟩ := ob h
      refine v_aast (pc := 109) (kd := 11) rfl e13 (show decode (tC tLi_init) 109 = .ok (.aastore, 1) by decide +kernel) ?_
      refine v_iinc (pc := 110) (j := 1) [(1, .int (x1 + 1)), (0, .ref x0)] (show decode (tC tLi_init) 110 = .ok (.iinc 1 1, 3) by decide +kernel) rfl rfl (by decide) rfl ?_
      refine v_goto (pc := 113) 91 (show decode (tC tLi_init) 113 = .ok (.goto (-22), 3) by decide +kernel) (by decide) ?_
      refine v_sub [(0, .ref x0), (1, .int (x1 + 1))] [1, 0] rfl ?_
      exact ih _ _ (by (try simp only [rLi_init, rHe_init, rJA_fill, rLa_init, rOp_init, rPr_init]); omega) (by (try simp only [rLi_init, rHe_init, rJA_fill, rLa_init, rOp_init, rPr_init]); omega) x0 (x1 + 1) S12 h
def fLi_init_63  : Nat → Nat → Int32 → Sx → Option (Sx)
  | 0, _, _, _ => none
  | n + 1, x0, x1, S =>
    if (128 : Int32) ≤ x1 then
    (fLi_init_91  17 x0 0 S)
    else
    ((gX S 8 2 x0).bind fun v1 =>
    bd2 (mk S 9 8) fun a3 S4 =>
    (fOp_init a3 S4).bind fun S7 =>
    (qX S7 9 v1 x1 a3).bind fun S8 =>
    fLi_init_63 n x0 (x1 + 1) S8)
set_option maxRecDepth 100000 in
set_option maxHeartbeats 4000000 in
theorem wLi_init_63 {Γ : vG} (hR : gR Γ = rLi_init) (hl : (gl Γ).flags = pinnedFlags ++ [noTraceFlag]) {X : Sx}  : ∀ (n ce sl : Nat) (hce : ce + n * 4 ≤ 884) (hsl : sl + n * 32 ≤ 6906) (x0 : Nat) (x1 : Int32) (S : Sx), fLi_init_63  n x0 x1 S = some X → vV Γ tLi_init (mQ Γ 935 7586 0 none X) S ce sl 63 [(0, .ref x0), (1, .int x1)] [] := by
  intro n
  induction n with
  | zero => intro ce sl hce hsl x0 x1 S h; rw [fLi_init_63] at h; cases h
  | succ n ih =>
    intro ce sl hce hsl x0 x1 S h
    rw [fLi_init_63] at h
    refine v_iload_n (pc := 63) (show decode (tC tLi_init) 63 = .ok (.iload_n 1, 1) by decide +kernel) 1 rfl rfl ?_
    refine v_sipush (pc := 64) (v := 128) (show decode (tC tLi_init) 64 = .ok (.sipush 128, 3) by decide +kernel) (by decide) ?_
    refine v_icmp_ge (pc := 67) 89 (show decode (tC tLi_init) 67 = .ok (.if_icmp .ge 22, 3) by decide +kernel) (by decide) (fun c => ?_) (fun c => ?_)
    · replace h := ite_t c h
      refine v_wide (ce2 := 884) (sl2 := 6906) (by omega) (by omega) ?_
      refine v_iconst (pc := 89) (v := 0) (show decode (tC tLi_init) 89 = .ok (.iconst 0, 1) by decide +kernel) (by decide) ?_
      refine v_istore_n (pc := 90) [(1, .int 0), (0, .ref x0)] (show decode (tC tLi_init) 90 = .ok (.istore_n 1, 1) by decide +kernel) rfl (by decide) rfl ?_
      refine v_sub [(0, .ref x0), (1, .int 0)] [1, 0] rfl ?_
      exact wLi_init_91 hR hl  17 _ _ (by (try simp only [rLi_init, rHe_init, rJA_fill, rLa_init, rOp_init, rPr_init]); omega) (by (try simp only [rLi_init, rHe_init, rJA_fill, rLa_init, rOp_init, rPr_init]); omega) x0 0 S h
    · replace h := ite_f c h
      refine v_aload_n (pc := 70) (show decode (tC tLi_init) 70 = .ok (.aload_n 0, 1) by decide +kernel) 0 rfl rfl ?_
      obtain ⟨v1, e2, h⟩ := ob h
      refine v_getX (pc := 71) oF_Li_27 e2 (show decode (tC tLi_init) 71 = .ok (.getfield 27, 3) by decide +kernel) ?_
      refine v_iload_n (pc := 74) (show decode (tC tLi_init) 74 = .ok (.iload_n 1, 1) by decide +kernel) 1 rfl rfl ?_
      obtain ⟨a3, S4, e5, h⟩ := ob2 h
      refine v_newO (pc := 75) (n := 8) oC_Li_25 rfl e5 (by rw [hR]; (try simp only [rLi_init, rHe_init, rJA_fill, rLa_init, rOp_init, rPr_init]); omega) (by rw [hR]; (try simp only [rLi_init, rHe_init, rJA_fill, rLa_init, rOp_init, rPr_init]); omega) (show decode (tC tLi_init) 75 = .ok (.new 25, 3) by decide +kernel) ?_
      refine v_dup (pc := 78) (show decode (tC tLi_init) 78 = .ok (.dup, 1) by decide +kernel) rfl ?_
      obtain ⟨S7, e6, h⟩ := ob h
      refine v_call (pc := 79) (v := none) (y := yOp_init) (θ' := tOp_init) (rm := rOp_init) (av := [.ref a3]) (st := [.ref a3, .int x1, .ref v1]) (cOp_init (l := gl Γ) hl e6) kOp_init iOp_init (iv_initN (y := yOp_init) (θ' := tOp_init) (As := []) rfl rfl kOp_init rfl (List.mem_of_getElem? (l := nN) (i := 5) rfl) nOp_init mOp_init rfl (show decode (tC tLi_init) 79 = .ok (.invokespecial 44, 3) by decide +kernel)) ⟨by rw [hR]; decide, by rw [hR]; decide, by rw [hR]; (try simp only [rLi_init, rHe_init, rJA_fill, rLa_init, rOp_init, rPr_init]); omega, by rw [hR]; (try simp only [rLi_init, rHe_init, rJA_fill, rLa_init, rOp_init, rPr_init]); omega⟩ (Nat.le_of_ble_eq_true rfl) ?_
      obtain ⟨S8, e9, h⟩ := ob h
      refine v_aast (pc := 82) (kd := 9) rfl e9 (show decode (tC tLi_init) 82 = .ok (.aastore, 1) by decide +kernel) ?_
      refine v_iinc (pc := 83) (j := 1) [(1, .int (x1 + 1)), (0, .ref x0)] (show decode (tC tLi_init) 83 = .ok (.iinc 1 1, 3) by decide +kernel) rfl rfl (by decide) rfl ?_
      refine v_goto (pc := 86) 63 (show decode (tC tLi_init) 86 = .ok (.goto (-23), 3) by decide +kernel) (by decide) ?_
      refine v_sub [(0, .ref x0), (1, .int (x1 + 1))] [1, 0] rfl ?_
      exact ih _ _ (by (try simp only [rLi_init, rHe_init, rJA_fill, rLa_init, rOp_init, rPr_init]); omega) (by (try simp only [rLi_init, rHe_init, rJA_fill, rLa_init, rOp_init, rPr_init]); omega) x0 (x1 + 1) S8 h
def fLi_init (x0 : Nat) (S : Sx) : Option (Sx) :=
    bd2 (mk S 1 10) fun a1 S2 =>
    (fPr_init a1 S2).bind fun S5 =>
    (pX S5 8 0 x0 a1).bind fun S6 =>
    bd2 (mk S6 7 7) fun a8 S9 =>
    (fLa_init a8 S9).bind fun S12 =>
    (pX S12 8 1 x0 a8).bind fun S13 =>
    bd2 (mk S13 (200 + 9) 128) fun a15 S16 =>
    (pX S16 8 2 x0 a15).bind fun S18 =>
    bd2 (mk S18 (200 + 11) 16) fun a20 S21 =>
    (pX S21 8 3 x0 a20).bind fun S23 =>
    bd2 (mk S23 100 12) fun a25 S26 =>
    (pX S26 8 4 x0 a25).bind fun S28 =>
    bd2 (mk S28 100 64) fun a30 S31 =>
    (pX S31 8 5 x0 a30).bind fun S33 =>
    fLi_init_63  129 x0 0 S33
set_option maxRecDepth 100000 in
set_option maxHeartbeats 4000000 in
theorem wLi_init {Γ : vG} (hR : gR Γ = rLi_init) (hl : (gl Γ).flags = pinnedFlags ++ [noTraceFlag]) (x0 : Nat) (S : Sx) {X : Sx} (h : fLi_init x0 S = some X) : vV Γ tLi_init (mQ Γ 935 7586 0 none X) S 0 0 0 [(0, .ref x0)] [] := by
  unfold fLi_init at h
  refine v_aload_n (pc := 0) (show decode (tC tLi_init) 0 = .ok (.aload_n 0, 1) by decide +kernel) 0 rfl rfl ?_
  refine v_obj (pc := 1) (gT_in 90 (by decide +kernel) rfl) wObj1 wObj2 (by rw [hR]; decide) (by rw [hR]; decide) (show decode (tC tLi_init) 1 = .ok (.invokespecial 3, 3) by decide +kernel) ?_
  refine v_aload_n (pc := 4) (show decode (tC tLi_init) 4 = .ok (.aload_n 0, 1) by decide +kernel) 0 rfl rfl ?_
  obtain ⟨a1, S2, e3, h⟩ := ob2 h
  refine v_newO (pc := 5) (n := 10) oC_Li_9 rfl e3 (by rw [hR]; (try simp only [rLi_init, rHe_init, rJA_fill, rLa_init, rOp_init, rPr_init]); omega) (by rw [hR]; (try simp only [rLi_init, rHe_init, rJA_fill, rLa_init, rOp_init, rPr_init]); omega) (show decode (tC tLi_init) 5 = .ok (.new 9, 3) by decide +kernel) ?_
  refine v_dup (pc := 8) (show decode (tC tLi_init) 8 = .ok (.dup, 1) by decide +kernel) rfl ?_
  obtain ⟨S5, e4, h⟩ := ob h
  refine v_call (pc := 9) (v := none) (y := yPr_init) (θ' := tPr_init) (rm := rPr_init) (av := [.ref a1]) (st := [.ref a1, .ref x0]) (cPr_init (l := gl Γ) hl e4) kPr_init iPr_init (iv_init (y := yPr_init) (θ' := tPr_init) (As := []) rfl rfl kPr_init rfl (gT_in 93 (by decide +kernel) rfl) nPr_init mPr_init rfl (show decode (tC tLi_init) 9 = .ok (.invokespecial 11, 3) by decide +kernel)) ⟨by rw [hR]; decide, by rw [hR]; decide, by rw [hR]; (try simp only [rLi_init, rHe_init, rJA_fill, rLa_init, rOp_init, rPr_init]); omega, by rw [hR]; (try simp only [rLi_init, rHe_init, rJA_fill, rLa_init, rOp_init, rPr_init]); omega⟩ (Nat.le_of_ble_eq_true rfl) ?_
  obtain ⟨S6, e7, h⟩ := ob h
  refine v_putX (pc := 12) oF_Li_12 rfl (own_ok (by decide +kernel)) e7 (show decode (tC tLi_init) 12 = .ok (.putfield 12, 3) by decide +kernel) ?_
  refine v_aload_n (pc := 15) (show decode (tC tLi_init) 15 = .ok (.aload_n 0, 1) by decide +kernel) 0 rfl rfl ?_
  obtain ⟨a8, S9, e10, h⟩ := ob2 h
  refine v_newO (pc := 16) (n := 7) oC_Li_18 rfl e10 (by rw [hR]; (try simp only [rLi_init, rHe_init, rJA_fill, rLa_init, rOp_init, rPr_init]); omega) (by rw [hR]; (try simp only [rLi_init, rHe_init, rJA_fill, rLa_init, rOp_init, rPr_init]); omega) (show decode (tC tLi_init) 16 = .ok (.new 18, 3) by decide +kernel) ?_
  refine v_dup (pc := 19) (show decode (tC tLi_init) 19 = .ok (.dup, 1) by decide +kernel) rfl ?_
  obtain ⟨S12, e11, h⟩ := ob h
  refine v_call (pc := 20) (v := none) (y := yLa_init) (θ' := tLa_init) (rm := rLa_init) (av := [.ref a8]) (st := [.ref a8, .ref x0]) (cLa_init (l := gl Γ) hl e11) kLa_init iLa_init (iv_initN (y := yLa_init) (θ' := tLa_init) (As := []) rfl rfl kLa_init rfl (List.mem_of_getElem? (l := nN) (i := 4) rfl) nLa_init mLa_init rfl (show decode (tC tLi_init) 20 = .ok (.invokespecial 20, 3) by decide +kernel)) ⟨by rw [hR]; decide, by rw [hR]; decide, by rw [hR]; (try simp only [rLi_init, rHe_init, rJA_fill, rLa_init, rOp_init, rPr_init]); omega, by rw [hR]; (try simp only [rLi_init, rHe_init, rJA_fill, rLa_init, rOp_init, rPr_init]); omega⟩ (Nat.le_of_ble_eq_true rfl) ?_
  obtain ⟨S13, e14, h⟩ := ob h
  refine v_putX (pc := 23) oF_Li_21 rfl (own_ok (by decide +kernel)) e14 (show decode (tC tLi_init) 23 = .ok (.putfield 21, 3) by decide +kernel) ?_
  refine v_aload_n (pc := 26) (show decode (tC tLi_init) 26 = .ok (.aload_n 0, 1) by decide +kernel) 0 rfl rfl ?_
  refine v_sipush (pc := 27) (v := 128) (show decode (tC tLi_init) 27 = .ok (.sipush 128, 3) by decide +kernel) (by decide) ?_
  obtain ⟨a15, S16, e17, h⟩ := ob2 h
  refine v_mkX (pc := 30) (kd := 9) (n := 128) rfl rfl (gT_in 368 (by decide +kernel) rfl) e17 (by decide) (by decide) (by decide) (by rw [hR]; (try simp only [rLi_init, rHe_init, rJA_fill, rLa_init, rOp_init, rPr_init]); omega) (by rw [hR]; (try simp only [rLi_init, rHe_init, rJA_fill, rLa_init, rOp_init, rPr_init]); omega) (show decode (tC tLi_init) 30 = .ok (.anewarray 25, 3) by decide +kernel) ?_
  obtain ⟨S18, e19, h⟩ := ob h
  refine v_putX (pc := 33) oF_Li_27 rfl (own_ok (by decide +kernel)) e19 (show decode (tC tLi_init) 33 = .ok (.putfield 27, 3) by decide +kernel) ?_
  refine v_aload_n (pc := 36) (show decode (tC tLi_init) 36 = .ok (.aload_n 0, 1) by decide +kernel) 0 rfl rfl ?_
  refine v_bipush (pc := 37) (v := 16) (show decode (tC tLi_init) 37 = .ok (.bipush 16, 2) by decide +kernel) (by decide) ?_
  obtain ⟨a20, S21, e22, h⟩ := ob2 h
  refine v_mkX (pc := 39) (kd := 11) (n := 16) rfl rfl (gT_in 370 (by decide +kernel) rfl) e22 (by decide) (by decide) (by decide) (by rw [hR]; (try simp only [rLi_init, rHe_init, rJA_fill, rLa_init, rOp_init, rPr_init]); omega) (by rw [hR]; (try simp only [rLi_init, rHe_init, rJA_fill, rLa_init, rOp_init, rPr_init]); omega) (show decode (tC tLi_init) 39 = .ok (.anewarray 31, 3) by decide +kernel) ?_
  obtain ⟨S23, e24, h⟩ := ob h
  refine v_putX (pc := 42) oF_Li_33 rfl (own_ok (by decide +kernel)) e24 (show decode (tC tLi_init) 42 = .ok (.putfield 33, 3) by decide +kernel) ?_
  refine v_aload_n (pc := 45) (show decode (tC tLi_init) 45 = .ok (.aload_n 0, 1) by decide +kernel) 0 rfl rfl ?_
  refine v_bipush (pc := 46) (v := 12) (show decode (tC tLi_init) 46 = .ok (.bipush 12, 2) by decide +kernel) (by decide) ?_
  obtain ⟨a25, S26, e27, h⟩ := ob2 h
  refine v_mkI (pc := 48) (n := 12) e27 (by decide) (by decide) (by decide) (by rw [hR]; (try simp only [rLi_init, rHe_init, rJA_fill, rLa_init, rOp_init, rPr_init]); omega) (by rw [hR]; (try simp only [rLi_init, rHe_init, rJA_fill, rLa_init, rOp_init, rPr_init]); omega) (show decode (tC tLi_init) 48 = .ok (.newarray .int, 2) by decide +kernel) ?_
  obtain ⟨S28, e29, h⟩ := ob h
  refine v_putX (pc := 50) oF_Li_37 rfl (own_ok (by decide +kernel)) e29 (show decode (tC tLi_init) 50 = .ok (.putfield 37, 3) by decide +kernel) ?_
  refine v_aload_n (pc := 53) (show decode (tC tLi_init) 53 = .ok (.aload_n 0, 1) by decide +kernel) 0 rfl rfl ?_
  refine v_bipush (pc := 54) (v := 64) (show decode (tC tLi_init) 54 = .ok (.bipush 64, 2) by decide +kernel) (by decide) ?_
  obtain ⟨a30, S31, e32, h⟩ := ob2 h
  refine v_mkI (pc := 56) (n := 64) e32 (by decide) (by decide) (by decide) (by rw [hR]; (try simp only [rLi_init, rHe_init, rJA_fill, rLa_init, rOp_init, rPr_init]); omega) (by rw [hR]; (try simp only [rLi_init, rHe_init, rJA_fill, rLa_init, rOp_init, rPr_init]); omega) (show decode (tC tLi_init) 56 = .ok (.newarray .int, 2) by decide +kernel) ?_
  obtain ⟨S33, e34, h⟩ := ob h
  refine v_putX (pc := 58) oF_Li_41 rfl (own_ok (by decide +kernel)) e34 (show decode (tC tLi_init) 58 = .ok (.putfield 41, 3) by decide +kernel) ?_
  refine v_iconst (pc := 61) (v := 0) (show decode (tC tLi_init) 61 = .ok (.iconst 0, 1) by decide +kernel) (by decide) ?_
  refine v_istore_n (pc := 62) [(1, .int 0), (0, .ref x0)] (show decode (tC tLi_init) 62 = .ok (.istore_n 1, 1) by decide +kernel) rfl (by decide) rfl ?_
  refine v_sub [(0, .ref x0), (1, .int 0)] [1, 0] rfl ?_
  exact wLi_init_63 hR hl  129 _ _ (by (try simp only [rLi_init, rHe_init, rJA_fill, rLa_init, rOp_init, rPr_init]); omega) (by (try simp only [rLi_init, rHe_init, rJA_fill, rLa_init, rOp_init, rPr_init]); omega) x0 0 S33 h
theorem cLi_init {l : Launch} (hl : l.flags = pinnedFlags ++ [noTraceFlag]) {D : va_G} {dA : Nat → ClassId} {B : Nat} {x0 : Nat} {S : Sx} {X : Sx} (h : fLi_init x0 S = some X) : Mx l yLi_init tLi_init rLi_init 935 7586 D dA B S [.ref x0] 0 none X :=
  mx_of hl (by decide) rfl rfl (Nat.le_of_ble_eq_true rfl) (fun Γ e1 e2 e3 e4 e5 => by subst e1; subst e3; subst e4; subst e5; exact wLi_init e2 hl x0 S h)
/-! MatchPipe.<init>()V -/
def yMp_init : MethodName := ⟨"MatchPipe", "<init>", "()V"⟩
def tMp_init : tM := (prog_1_method_1_code, "MatchPipe", 1, "<init>", none, [])
def rMp_init : Room := { frames := 5, cells := 941, slots := 7636, locals := 123 }
theorem kMp_init : cOf yMp_init tMp_init ∈ gT := gT_in 81 (by decide +kernel) rfl
theorem iMp_init : Cond.initialized yMp_init.cls ∈ gT := gT_in 55 (by decide +kernel) rfl
theorem mMp_init : okM yMp_init 0 := ⟨by decide, by decide, by unfold nPar; decide +kernel⟩
theorem nMp_init : Cond.instanceMethod yMp_init ∈ gT := gT_in 80 (by decide +kernel) rfl
def fMp_init (x0 : Nat) (S : Sx) : Option (Sx) :=
    bd2 (mk S 8 10) fun a1 S2 =>
    (fLi_init a1 S2).bind fun S5 =>
    (pX S5 0 0 x0 a1).bind fun S6 =>
    (gX S6 0 0 x0).bind fun v8 =>
    (gX S6 8 0 v8).bind fun v10 =>
    (pX S6 0 1 x0 v10).bind fun S12 =>
    (gX S12 0 0 x0).bind fun v14 =>
    (gX S12 8 1 v14).bind fun v16 =>
    (pX S12 0 2 x0 v16).bind fun S18 =>
    bd2 (mk S18 5 8) fun a20 S21 =>
    (fEn_init a20 S21).bind fun S24 =>
    (pX S24 0 3 x0 a20).bind fun S25 =>
    bd2 (mk S25 10 1) fun a27 S28 =>
    (fBi_init a27 S28).bind fun S31 =>
    (pX S31 0 4 x0 a27).bind fun S32 =>
    bd2 (mk S32 10 1) fun a34 S35 =>
    (fBi_init a34 S35).bind fun S38 =>
    (pX S38 0 5 x0 a34).bind fun S39 =>
    some S39
set_option maxRecDepth 100000 in
set_option maxHeartbeats 4000000 in
theorem wMp_init {Γ : vG} (hR : gR Γ = rMp_init) (hl : (gl Γ).flags = pinnedFlags ++ [noTraceFlag]) (x0 : Nat) (S : Sx) {X : Sx} (h : fMp_init x0 S = some X) : vV Γ tMp_init (mQ Γ 941 7636 0 none X) S 0 0 0 [(0, .ref x0)] [] := by
  unfold fMp_init at h
  refine v_aload_n (pc := 0) (show decode (tC tMp_init) 0 = .ok (.aload_n 0, 1) by decide +kernel) 0 rfl rfl ?_
  refine v_obj (pc := 1) (gT_in 82 (by decide +kernel) rfl) wObj1 wObj2 (by rw [hR]; decide) (by rw [hR]; decide) (show decode (tC tMp_init) 1 = .ok (.invokespecial 1, 3) by decide +kernel) ?_
  refine v_aload_n (pc := 4) (show decode (tC tMp_init) 4 = .ok (.aload_n 0, 1) by decide +kernel) 0 rfl rfl ?_
  obtain ⟨a1, S2, e3, h⟩ := ob2 h
  refine v_newO (pc := 5) (n := 10) oC_Mp_7 rfl e3 (by rw [hR]; (try simp only [rMp_init, rBi_init, rEn_init, rLi_init]); omega) (by rw [hR]; (try simp only [rMp_init, rBi_init, rEn_init, rLi_init]); omega) (show decode (tC tMp_init) 5 = .ok (.new 7, 3) by decide +kernel) ?_
  refine v_dup (pc := 8) (show decode (tC tMp_init) 8 = .ok (.dup, 1) by decide +kernel) rfl ?_
  obtain ⟨S5, e4, h⟩ := ob h
  refine v_call (pc := 9) (v := none) (y := yLi_init) (θ' := tLi_init) (rm := rLi_init) (av := [.ref a1]) (st := [.ref a1, .ref x0]) (cLi_init (l := gl Γ) hl e4) kLi_init iLi_init (iv_init (y := yLi_init) (θ' := tLi_init) (As := []) rfl rfl kLi_init rfl (gT_in 87 (by decide +kernel) rfl) nLi_init mLi_init rfl (show decode (tC tMp_init) 9 = .ok (.invokespecial 9, 3) by decide +kernel)) ⟨by rw [hR]; decide, by rw [hR]; decide, by rw [hR]; (try simp only [rMp_init, rBi_init, rEn_init, rLi_init]); omega, by rw [hR]; (try simp only [rMp_init, rBi_init, rEn_init, rLi_init]); omega⟩ (Nat.le_of_ble_eq_true rfl) ?_
  obtain ⟨S6, e7, h⟩ := ob h
  refine v_putX (pc := 12) oF_Mp_10 rfl (own_ok (by decide +kernel)) e7 (show decode (tC tMp_init) 12 = .ok (.putfield 10, 3) by decide +kernel) ?_
  refine v_aload_n (pc := 15) (show decode (tC tMp_init) 15 = .ok (.aload_n 0, 1) by decide +kernel) 0 rfl rfl ?_
  refine v_aload_n (pc := 16) (show decode (tC tMp_init) 16 = .ok (.aload_n 0, 1) by decide +kernel) 0 rfl rfl ?_
  obtain ⟨v8, e9, h⟩ := ob h
  refine v_getX (pc := 17) oF_Mp_10 e9 (show decode (tC tMp_init) 17 = .ok (.getfield 10, 3) by decide +kernel) ?_
  obtain ⟨v10, e11, h⟩ := ob h
  refine v_getX (pc := 20) oF_Mp_16 e11 (show decode (tC tMp_init) 20 = .ok (.getfield 16, 3) by decide +kernel) ?_
  obtain ⟨S12, e13, h⟩ := ob h
  refine v_putX (pc := 23) oF_Mp_20 rfl (own_ok (by decide +kernel)) e13 (show decode (tC tMp_init) 23 = .ok (.putfield 20, 3) by decide +kernel) ?_
  refine v_aload_n (pc := 26) (show decode (tC tMp_init) 26 = .ok (.aload_n 0, 1) by decide +kernel) 0 rfl rfl ?_
  refine v_aload_n (pc := 27) (show decode (tC tMp_init) 27 = .ok (.aload_n 0, 1) by decide +kernel) 0 rfl rfl ?_
  obtain ⟨v14, e15, h⟩ := ob h
  refine v_getX (pc := 28) oF_Mp_10 e15 (show decode (tC tMp_init) 28 = .ok (.getfield 10, 3) by decide +kernel) ?_
  obtain ⟨v16, e17, h⟩ := ob h
  refine v_getX (pc := 31) oF_Mp_21 e17 (show decode (tC tMp_init) 31 = .ok (.getfield 21, 3) by decide +kernel) ?_
  obtain ⟨S18, e19, h⟩ := ob h
  refine v_putX (pc := 34) oF_Mp_25 rfl (own_ok (by decide +kernel)) e19 (show decode (tC tMp_init) 34 = .ok (.putfield 25, 3) by decide +kernel) ?_
  refine v_aload_n (pc := 37) (show decode (tC tMp_init) 37 = .ok (.aload_n 0, 1) by decide +kernel) 0 rfl rfl ?_
  obtain ⟨a20, S21, e22, h⟩ := ob2 h
  refine v_newO (pc := 38) (n := 8) oC_Mp_26 rfl e22 (by rw [hR]; (try simp only [rMp_init, rBi_init, rEn_init, rLi_init]); omega) (by rw [hR]; (try simp only [rMp_init, rBi_init, rEn_init, rLi_init]); omega) (show decode (tC tMp_init) 38 = .ok (.new 26, 3) by decide +kernel) ?_
  refine v_dup (pc := 41) (show decode (tC tMp_init) 41 = .ok (.dup, 1) by decide +kernel) rfl ?_
  obtain ⟨S24, e23, h⟩ := ob h
  refine v_call (pc := 42) (v := none) (y := yEn_init) (θ' := tEn_init) (rm := rEn_init) (av := [.ref a20]) (st := [.ref a20, .ref x0]) (cEn_init (l := gl Γ) hl e23) kEn_init iEn_init (iv_initN (y := yEn_init) (θ' := tEn_init) (As := []) rfl rfl kEn_init rfl (List.mem_of_getElem? (l := nN) (i := 9) rfl) nEn_init mEn_init rfl (show decode (tC tMp_init) 42 = .ok (.invokespecial 28, 3) by decide +kernel)) ⟨by rw [hR]; decide, by rw [hR]; decide, by rw [hR]; (try simp only [rMp_init, rBi_init, rEn_init, rLi_init]); omega, by rw [hR]; (try simp only [rMp_init, rBi_init, rEn_init, rLi_init]); omega⟩ (Nat.le_of_ble_eq_true rfl) ?_
  obtain ⟨S25, e26, h⟩ := ob h
  refine v_putX (pc := 45) oF_Mp_29 rfl (own_ok (by decide +kernel)) e26 (show decode (tC tMp_init) 45 = .ok (.putfield 29, 3) by decide +kernel) ?_
  refine v_aload_n (pc := 48) (show decode (tC tMp_init) 48 = .ok (.aload_n 0, 1) by decide +kernel) 0 rfl rfl ?_
  obtain ⟨a27, S28, e29, h⟩ := ob2 h
  refine v_newO (pc := 49) (n := 1) oC_Mp_33 rfl e29 (by rw [hR]; (try simp only [rMp_init, rBi_init, rEn_init, rLi_init]); omega) (by rw [hR]; (try simp only [rMp_init, rBi_init, rEn_init, rLi_init]); omega) (show decode (tC tMp_init) 49 = .ok (.new 33, 3) by decide +kernel) ?_
  refine v_dup (pc := 52) (show decode (tC tMp_init) 52 = .ok (.dup, 1) by decide +kernel) rfl ?_
  obtain ⟨S31, e30, h⟩ := ob h
  refine v_call (pc := 53) (v := none) (y := yBi_init) (θ' := tBi_init) (rm := rBi_init) (av := [.ref a27]) (st := [.ref a27, .ref x0]) (cBi_init (l := gl Γ) hl e30) kBi_init iBi_init (iv_initN (y := yBi_init) (θ' := tBi_init) (As := []) rfl rfl kBi_init rfl (List.mem_of_getElem? (l := nN) (i := 10) rfl) nBi_init mBi_init rfl (show decode (tC tMp_init) 53 = .ok (.invokespecial 35, 3) by decide +kernel)) ⟨by rw [hR]; decide, by rw [hR]; decide, by rw [hR]; (try simp only [rMp_init, rBi_init, rEn_init, rLi_init]); omega, by rw [hR]; (try simp only [rMp_init, rBi_init, rEn_init, rLi_init]); omega⟩ (Nat.le_of_ble_eq_true rfl) ?_
  obtain ⟨S32, e33, h⟩ := ob h
  refine v_putX (pc := 56) oF_Mp_36 rfl (own_ok (by decide +kernel)) e33 (show decode (tC tMp_init) 56 = .ok (.putfield 36, 3) by decide +kernel) ?_
  refine v_aload_n (pc := 59) (show decode (tC tMp_init) 59 = .ok (.aload_n 0, 1) by decide +kernel) 0 rfl rfl ?_
  obtain ⟨a34, S35, e36, h⟩ := ob2 h
  refine v_newO (pc := 60) (n := 1) oC_Mp_33 rfl e36 (by rw [hR]; (try simp only [rMp_init, rBi_init, rEn_init, rLi_init]); omega) (by rw [hR]; (try simp only [rMp_init, rBi_init, rEn_init, rLi_init]); omega) (show decode (tC tMp_init) 60 = .ok (.new 33, 3) by decide +kernel) ?_
  refine v_dup (pc := 63) (show decode (tC tMp_init) 63 = .ok (.dup, 1) by decide +kernel) rfl ?_
  obtain ⟨S38, e37, h⟩ := ob h
  refine v_call (pc := 64) (v := none) (y := yBi_init) (θ' := tBi_init) (rm := rBi_init) (av := [.ref a34]) (st := [.ref a34, .ref x0]) (cBi_init (l := gl Γ) hl e37) kBi_init iBi_init (iv_initN (y := yBi_init) (θ' := tBi_init) (As := []) rfl rfl kBi_init rfl (List.mem_of_getElem? (l := nN) (i := 10) rfl) nBi_init mBi_init rfl (show decode (tC tMp_init) 64 = .ok (.invokespecial 35, 3) by decide +kernel)) ⟨by rw [hR]; decide, by rw [hR]; decide, by rw [hR]; (try simp only [rMp_init, rBi_init, rEn_init, rLi_init]); omega, by rw [hR]; (try simp only [rMp_init, rBi_init, rEn_init, rLi_init]); omega⟩ (Nat.le_of_ble_eq_true rfl) ?_
  obtain ⟨S39, e40, h⟩ := ob h
  refine v_putX (pc := 67) oF_Mp_40 rfl (own_ok (by decide +kernel)) e40 (show decode (tC tMp_init) 67 = .ok (.putfield 40, 3) by decide +kernel) ?_
  obtain rfl := Option.some.inj h
  refine v_wide (ce2 := 941) (sl2 := 7636) (by (try simp only [rMp_init, rBi_init, rEn_init, rLi_init]); omega) (by (try simp only [rMp_init, rBi_init, rEn_init, rLi_init]); omega) ?_
  exact v_vret (pc := 70) rfl (show decode (tC tMp_init) 70 = .ok (.return_, 1) by decide +kernel)
theorem cMp_init {l : Launch} (hl : l.flags = pinnedFlags ++ [noTraceFlag]) {D : va_G} {dA : Nat → ClassId} {B : Nat} {x0 : Nat} {S : Sx} {X : Sx} (h : fMp_init x0 S = some X) : Mx l yMp_init tMp_init rMp_init 941 7636 D dA B S [.ref x0] 0 none X :=
  mx_of hl (by decide) rfl rfl (Nat.le_of_ble_eq_true rfl) (fun Γ e1 e2 e3 e4 e5 => by subst e1; subst e3; subst e4; subst e5; exact wMp_init e2 hl x0 S h)
